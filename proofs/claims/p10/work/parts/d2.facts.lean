/-! CONTRACTS: the facts. Printed by wip/whole/gen92.py -/
set_option maxRecDepth 100000 in
theorem t82a_256 {L : Nat} {xs : Nat → Int32} {d nn : Nat} {m : yM} {k : Int} (hT : Ty gT m) (hp : m 8 4 = 0) (hk : 0 ≤ k ∧ k ≤ 39) (h2 : 0 ≤ m (276 + k.toNat) 2) (h3 : 0 ≤ m (276 + k.toNat) 3) : ∀ (km : Nat) (i : Int) (mi : yM), m 256 14 - i = km → 0 ≤ i ∧ i ≤ m 256 14 → Ty gT mi → Fr wFy m mi → YW (gZ L xs) 82 (d + 2) 2 [some (.ref 8), some (.ref (276 + k.toNat)), some (yI i)] [] mi nn (qU (fun m' n' => n' = nn ∧ Ty gT m' ∧ Fr wFy m m')) := by
  intro km
  induction km using Nat.strongRecOn with
  | ind km ih =>
    intro i mi hk hi hTi hFi
    have tb := hT.atp 256 14 0 12 rfl
    refine y_iload 3 c82_2 rfl rfl ?_
    refine y_aload 4 c82_3 rfl rfl rfl ?_
    refine y_getS 7 (B := 256) c82_4 rfl kf8_4 (by first | rfl | (rw [show mi 8 4 = 0 from by have e : mi 8 4 = m 8 4 := (hFi 8 4 rfl); omega]; rfl)) ?_
    refine y_getX 10 (m 256 14) c82_7 rfl kf256_14 (hFi 256 14 rfl) ?_
    refine y_icmp 74 13 c82_10 rfl rfl (yc_ge (by omega) (by omega)) (fun hb4328 => ?_) (fun hb4328 => ?_)
    · exact y_retU c82_74 ⟨rfl, hTi, hFi⟩
    · refine y_aload 14 c82_13 rfl rfl rfl ?_
      refine y_aload 15 c82_14 rfl rfl rfl ?_
      refine y_getR 18 c82_15 rfl kf8_0 ?_
      refine y_aload 19 c82_18 rfl rfl rfl ?_
      refine y_getX 22 (m (276 + k.toNat) 3) c82_19 rfl (ff276_3 (by omega)) (hFi (276 + k.toNat) 3 (wFy_h (by omega))) ?_
      have tb4329 := hT.atp (276 + k.toNat) 3 ((-1)) 47 (ft276_3 (by omega))
      refine y_aaload 23 c82_22 rfl kr9 (by omega) ?_
      refine y_iload 24 c82_23 rfl rfl ?_
      refine y_iaT 25 ((-2147483648)) 2147483647 c82_24 rfl (fa10 (by omega)) (by omega) hTi (fz10 (by omega)) (fun v4330 hv4330 gv4330 => ?_)
      refine y_callP 28 [.ref 8, yI v4330] [] c82_25 rfl rfl rfl rfl rfl (ycanO km78 ko8) (t78 hTi (by omega)) (fun r4331 hr4331 => ?_)
      refine y_if 68 31 c82_28 rfl rfl (yz_eq (by omega)) (fun hb4332 => ?_) (fun hb4332 => ?_)
      · refine y_iinc 71 c82_68 rfl rfl rfl ?_
        refine y_goto 2 c82_71 rfl ?_
        exact ih (m 256 14 - (i + 1) : Int).toNat (by omega) (i + 1)  _ (by omega) (by omega) hTi hFi
      · refine y_aload 32 c82_31 rfl rfl rfl ?_
        refine y_getS 35 (B := 256) c82_32 rfl kf8_4 (by first | rfl | (rw [show mi 8 4 = 0 from by have e : mi 8 4 = m 8 4 := (hFi 8 4 rfl); omega]; rfl)) ?_
        refine y_aload 36 c82_35 rfl rfl rfl ?_
        refine y_getS 39 (B := 256) c82_36 rfl kf8_4 (by first | rfl | (rw [show mi 8 4 = 0 from by have e : mi 8 4 = m 8 4 := (hFi 8 4 rfl); omega]; rfl)) ?_
        refine y_getR 42 c82_39 rfl kf256_7 ?_
        refine y_iload 43 c82_42 rfl rfl ?_
        refine y_iaT 44 0 5 c82_43 rfl ka264 (by omega) hTi rfl (fun v4333 hv4333 gv4333 => ?_)
        refine y_aload 45 c82_44 rfl rfl rfl ?_
        refine y_getX 48 (m (276 + k.toNat) 7) c82_45 rfl (ff276_7 (by omega)) (hFi (276 + k.toNat) 7 (wFy_h (by omega))) ?_
        have tb4334 := hT.atp (276 + k.toNat) 7 ((-1)) 5 (ft276_7 (by omega))
        refine y_callP 51 [.ref 256, yI v4333, yI (m (276 + k.toNat) 7)] [] c82_48 rfl rfl rfl rfl rfl (ycanO km81 ko256) (t81_256 hTi (by omega) (by omega)) (fun r4335 hr4335 => ?_)
        refine y_if 68 54 c82_51 rfl rfl (yz_eq (by omega)) (fun hb4336 => ?_) (fun hb4336 => ?_)
        · refine y_iinc 71 c82_68 rfl rfl rfl ?_
          refine y_goto 2 c82_71 rfl ?_
          exact ih (m 256 14 - (i + 1) : Int).toNat (by omega) (i + 1)  _ (by omega) (by omega) hTi hFi
        · refine y_aload 55 c82_54 rfl rfl rfl ?_
          refine y_aload 56 c82_55 rfl rfl rfl ?_
          refine y_getR 59 c82_56 rfl kf8_0 ?_
          refine y_aload 60 c82_59 rfl rfl rfl ?_
          refine y_getX 63 (m (276 + k.toNat) 2) c82_60 rfl (ff276_2 (by omega)) (hFi (276 + k.toNat) 2 (wFy_h (by omega))) ?_
          have tb4337 := hT.atp (276 + k.toNat) 2 ((-1)) 47 (ft276_2 (by omega))
          refine y_aaload 64 c82_63 rfl kr9 (by omega) ?_
          refine y_iload 65 c82_64 rfl rfl ?_
          refine y_callUB 68 [.ref 8, .ref (10 + (m (276 + k.toNat) 2).toNat), yI i] [] c82_65 rfl rfl rfl rfl rfl (ycanO km79 ko8) (t79 hTi (fa10 (by omega)) (fun _ => fz10 (by omega)) (by omega) (by omega)) (fun mq4338 nq4338 hq4338 => ?_)
          obtain ⟨rfl, hTq4338, hFq4338, hq4338⟩ := hq4338
          have hF4339 := hFi.tr hFq4338 (wTe_wFy (by omega))
          refine y_iinc 71 c82_68 rfl rfl rfl ?_
          refine y_goto 2 c82_71 rfl ?_
          exact ih (m 256 14 - (i + 1) : Int).toNat (by omega) (i + 1)  _ (by omega) (by omega) hTq4338 hF4339
set_option maxRecDepth 100000 in
theorem t82_256 {L : Nat} {xs : Nat → Int32} {d nn : Nat} {m : yM} {k : Int} (hT : Ty gT m) (hp : m 8 4 = 0) (hk : 0 ≤ k ∧ k ≤ 39) (h2 : 0 ≤ m (276 + k.toNat) 2) (h3 : 0 ≤ m (276 + k.toNat) 3) : YC (gZ L xs) (d + 2) 82 [.ref 8, .ref (276 + k.toNat)] m nn (qU (fun m' n' => n' = nn ∧ Ty gT m' ∧ Fr wFy m m')) := by
  refine YC.mkB [some (.ref 8), some (.ref (276 + k.toNat)), none] kn82 rfl rfl ?_
  refine y_iconst 1 c82_0 rfl ?_
  refine y_istore 2 c82_1 rfl rfl ?_
  have tb := hT.atp 256 14 0 12 rfl
  exact t82a_256 hT hp hk h2 h3 (m 256 14 - 0).toNat 0 m (by omega) (by omega) hT Fr.rf
set_option maxRecDepth 100000 in
theorem t84a_256 {L : Nat} {xs : Nat → Int32} {d nn : Nat} {m : yM} {k : Int} (hT : Ty gT m) (hp : m 8 4 = 0) (hk : 0 ≤ k ∧ k ≤ 39) (h2 : 0 ≤ m (276 + k.toNat) 2) (h3 : 0 ≤ m (276 + k.toNat) 3) (h6 : m (276 + k.toNat) 6 ≤ 7) : ∀ (km : Nat) (i : Int) (mi : yM), m 256 14 - i = km → 0 ≤ i ∧ i ≤ m 256 14 → Ty gT mi → Fr wFy m mi → YW (gZ L xs) 84 (d + 2) 2 [some (.ref 8), some (.ref (276 + k.toNat)), some (yI i)] [] mi nn (qU (fun m' n' => n' = nn ∧ Ty gT m' ∧ Fr wFy m m')) := by
  intro km
  induction km using Nat.strongRecOn with
  | ind km ih =>
    intro i mi hk hi hTi hFi
    have tb := hT.atp 256 14 0 12 rfl
    refine y_iload 3 c84_2 rfl rfl ?_
    refine y_aload 4 c84_3 rfl rfl rfl ?_
    refine y_getS 7 (B := 256) c84_4 rfl kf8_4 (by first | rfl | (rw [show mi 8 4 = 0 from by have e : mi 8 4 = m 8 4 := (hFi 8 4 rfl); omega]; rfl)) ?_
    refine y_getX 10 (m 256 14) c84_7 rfl kf256_14 (hFi 256 14 rfl) ?_
    refine y_icmp 67 13 c84_10 rfl rfl (yc_ge (by omega) (by omega)) (fun hb4340 => ?_) (fun hb4340 => ?_)
    · exact y_retU c84_67 ⟨rfl, hTi, hFi⟩
    · refine y_aload 14 c84_13 rfl rfl rfl ?_
      refine y_aload 15 c84_14 rfl rfl rfl ?_
      refine y_getR 18 c84_15 rfl kf8_0 ?_
      refine y_aload 19 c84_18 rfl rfl rfl ?_
      refine y_getX 22 (m (276 + k.toNat) 3) c84_19 rfl (ff276_3 (by omega)) (hFi (276 + k.toNat) 3 (wFy_h (by omega))) ?_
      have tb4341 := hT.atp (276 + k.toNat) 3 ((-1)) 47 (ft276_3 (by omega))
      refine y_aaload 23 c84_22 rfl kr9 (by omega) ?_
      refine y_iload 24 c84_23 rfl rfl ?_
      refine y_iaT 25 ((-2147483648)) 2147483647 c84_24 rfl (fa10 (by omega)) (by omega) hTi (fz10 (by omega)) (fun v4342 hv4342 gv4342 => ?_)
      refine y_callP 28 [.ref 8, yI v4342] [] c84_25 rfl rfl rfl rfl rfl (ycanO km78 ko8) (t78 hTi (by omega)) (fun r4343 hr4343 => ?_)
      refine y_if 61 31 c84_28 rfl rfl (yz_eq (by omega)) (fun hb4344 => ?_) (fun hb4344 => ?_)
      · refine y_iinc 64 c84_61 rfl rfl rfl ?_
        refine y_goto 2 c84_64 rfl ?_
        exact ih (m 256 14 - (i + 1) : Int).toNat (by omega) (i + 1)  _ (by omega) (by omega) hTi hFi
      · refine y_aload 32 c84_31 rfl rfl rfl ?_
        refine y_getX 35 (m (276 + k.toNat) 6) c84_32 rfl (ff276_6 (by omega)) (hFi (276 + k.toNat) 6 (wFy_h (by omega))) ?_
        have tb4345 := hT.atp (276 + k.toNat) 6 ((-1)) 11 (ft276_6 (by omega))
        refine y_iconst 36 c84_35 rfl ?_
        refine y_icmp 61 39 c84_36 rfl rfl (yc_eq (by omega) (by omega)) (fun hb4346 => ?_) (fun hb4346 => ?_)
        · refine y_iinc 64 c84_61 rfl rfl rfl ?_
          refine y_goto 2 c84_64 rfl ?_
          exact ih (m 256 14 - (i + 1) : Int).toNat (by omega) (i + 1)  _ (by omega) (by omega) hTi hFi
        · refine y_aload 40 c84_39 rfl rfl rfl ?_
          refine y_aload 41 c84_40 rfl rfl rfl ?_
          refine y_iload 42 c84_41 rfl rfl ?_
          refine y_aload 43 c84_42 rfl rfl rfl ?_
          refine y_getX 46 (m (276 + k.toNat) 6) c84_43 rfl (ff276_6 (by omega)) (hFi (276 + k.toNat) 6 (wFy_h (by omega))) ?_
          refine y_callAB 49 [.ref 8, yI i, yI (m (276 + k.toNat) 6)] [.ref 8] c84_46 rfl rfl rfl rfl rfl (ycanO km83 ko8) (t83 (by omega) (by omega)) (fun Rq4347 mq4347 nq4347 hq4347 => ?_)
          obtain ⟨rfl, rfl, hmq4347⟩ := hq4347
          obtain rfl := hmq4347.symm
          refine y_aload 50 c84_49 rfl rfl rfl ?_
          refine y_getR 53 c84_50 rfl kf8_0 ?_
          refine y_aload 54 c84_53 rfl rfl rfl ?_
          refine y_getX 57 (m (276 + k.toNat) 2) c84_54 rfl (ff276_2 (by omega)) (hFi (276 + k.toNat) 2 (wFy_h (by omega))) ?_
          have tb4348 := hT.atp (276 + k.toNat) 2 ((-1)) 47 (ft276_2 (by omega))
          refine y_aaload 58 c84_57 rfl kr9 (by omega) ?_
          have es4350 : mi 8 4 = m 8 4 := (hFi 8 4 rfl)
          have tb4351 := hT.atp 8 4 ((-1)) 1 rfl
          refine y_callUB 61 [.ref 8, .ref (73 + (i * 8 + (m (276 + k.toNat) 6)).toNat), .ref (10 + (m (276 + k.toNat) 2).toNat)] [] c84_58 rfl rfl rfl rfl rfl (ycanO km80 ko8) (t80_256 hTi (by omega) (fa73 (by omega)) (fun _ => fz73 (by omega)) (fa10 (by omega)) (fun _ => fz10 (by omega)) (by omega)) (fun mq4349 nq4349 hq4349 => ?_)
          obtain ⟨rfl, hTq4349, hFq4349⟩ := hq4349
          have hF4352 := hFi.tr hFq4349 (wTe_wFy (by omega))
          refine y_iinc 64 c84_61 rfl rfl rfl ?_
          refine y_goto 2 c84_64 rfl ?_
          exact ih (m 256 14 - (i + 1) : Int).toNat (by omega) (i + 1)  _ (by omega) (by omega) hTq4349 hF4352
set_option maxRecDepth 100000 in
theorem t84_256 {L : Nat} {xs : Nat → Int32} {d nn : Nat} {m : yM} {k : Int} (hT : Ty gT m) (hp : m 8 4 = 0) (hk : 0 ≤ k ∧ k ≤ 39) (h2 : 0 ≤ m (276 + k.toNat) 2) (h3 : 0 ≤ m (276 + k.toNat) 3) (h6 : m (276 + k.toNat) 6 ≤ 7) : YC (gZ L xs) (d + 2) 84 [.ref 8, .ref (276 + k.toNat)] m nn (qU (fun m' n' => n' = nn ∧ Ty gT m' ∧ Fr wFy m m')) := by
  refine YC.mkB [some (.ref 8), some (.ref (276 + k.toNat)), none] kn84 rfl rfl ?_
  refine y_iconst 1 c84_0 rfl ?_
  refine y_istore 2 c84_1 rfl rfl ?_
  have tb := hT.atp 256 14 0 12 rfl
  exact t84a_256 hT hp hk h2 h3 h6 (m 256 14 - 0).toNat 0 m (by omega) (by omega) hT Fr.rf
set_option maxRecDepth 100000 in
theorem t85a_256 {L : Nat} {xs : Nat → Int32} {d nn : Nat} {m : yM} {k : Int} (hT : Ty gT m) (hp : m 8 4 = 0) (hk : 0 ≤ k ∧ k ≤ 39) (h2 : 0 ≤ m (276 + k.toNat) 2) (h3 : 0 ≤ m (276 + k.toNat) 3) (h6 : m (276 + k.toNat) 6 ≤ 7) : ∀ (km : Nat) (i : Int) (mi : yM), m 256 14 - i = km → 0 ≤ i ∧ i ≤ m 256 14 → Ty gT mi → Fr wFy m mi → YW (gZ L xs) 85 (d + 2) 2 [some (.ref 8), some (.ref (276 + k.toNat)), some (yI i)] [] mi nn (qU (fun m' n' => n' = nn ∧ Ty gT m' ∧ Fr wFy m m')) := by
  intro km
  induction km using Nat.strongRecOn with
  | ind km ih =>
    intro i mi hk hi hTi hFi
    have tb := hT.atp 256 14 0 12 rfl
    refine y_iload 3 c85_2 rfl rfl ?_
    refine y_aload 4 c85_3 rfl rfl rfl ?_
    refine y_getS 7 (B := 256) c85_4 rfl kf8_4 (by first | rfl | (rw [show mi 8 4 = 0 from by have e : mi 8 4 = m 8 4 := (hFi 8 4 rfl); omega]; rfl)) ?_
    refine y_getX 10 (m 256 14) c85_7 rfl kf256_14 (hFi 256 14 rfl) ?_
    refine y_icmp 82 13 c85_10 rfl rfl (yc_ge (by omega) (by omega)) (fun hb4353 => ?_) (fun hb4353 => ?_)
    · exact y_retU c85_82 ⟨rfl, hTi, hFi⟩
    · refine y_aload 14 c85_13 rfl rfl rfl ?_
      refine y_aload 15 c85_14 rfl rfl rfl ?_
      refine y_getR 18 c85_15 rfl kf8_0 ?_
      refine y_aload 19 c85_18 rfl rfl rfl ?_
      refine y_getX 22 (m (276 + k.toNat) 2) c85_19 rfl (ff276_2 (by omega)) (hFi (276 + k.toNat) 2 (wFy_h (by omega))) ?_
      have tb4354 := hT.atp (276 + k.toNat) 2 ((-1)) 47 (ft276_2 (by omega))
      refine y_aaload 23 c85_22 rfl kr9 (by omega) ?_
      refine y_iload 24 c85_23 rfl rfl ?_
      refine y_iaT 25 ((-2147483648)) 2147483647 c85_24 rfl (fa10 (by omega)) (by omega) hTi (fz10 (by omega)) (fun v4355 hv4355 gv4355 => ?_)
      refine y_callP 28 [.ref 8, yI v4355] [] c85_25 rfl rfl rfl rfl rfl (ycanO km78 ko8) (t78 hTi (by omega)) (fun r4356 hr4356 => ?_)
      refine y_if 76 31 c85_28 rfl rfl (yz_eq (by omega)) (fun hb4357 => ?_) (fun hb4357 => ?_)
      · refine y_iinc 79 c85_76 rfl rfl rfl ?_
        refine y_goto 2 c85_79 rfl ?_
        exact ih (m 256 14 - (i + 1) : Int).toNat (by omega) (i + 1)  _ (by omega) (by omega) hTi hFi
      · refine y_aload 32 c85_31 rfl rfl rfl ?_
        refine y_getS 35 (B := 256) c85_32 rfl kf8_4 (by first | rfl | (rw [show mi 8 4 = 0 from by have e : mi 8 4 = m 8 4 := (hFi 8 4 rfl); omega]; rfl)) ?_
        refine y_aload 36 c85_35 rfl rfl rfl ?_
        refine y_getS 39 (B := 256) c85_36 rfl kf8_4 (by first | rfl | (rw [show mi 8 4 = 0 from by have e : mi 8 4 = m 8 4 := (hFi 8 4 rfl); omega]; rfl)) ?_
        refine y_getR 42 c85_39 rfl kf256_7 ?_
        refine y_iload 43 c85_42 rfl rfl ?_
        refine y_iaT 44 0 5 c85_43 rfl ka264 (by omega) hTi rfl (fun v4358 hv4358 gv4358 => ?_)
        refine y_aload 45 c85_44 rfl rfl rfl ?_
        refine y_getX 48 (m (276 + k.toNat) 6) c85_45 rfl (ff276_6 (by omega)) (hFi (276 + k.toNat) 6 (wFy_h (by omega))) ?_
        have tb4359 := hT.atp (276 + k.toNat) 6 ((-1)) 11 (ft276_6 (by omega))
        refine y_callP 51 [.ref 256, yI v4358, yI (m (276 + k.toNat) 6)] [] c85_48 rfl rfl rfl rfl rfl (ycanO km47 ko256) (t47_256 hTi (by omega) (by omega)) (fun r4360 hr4360 => ?_)
        refine y_if 76 54 c85_51 rfl rfl (yz_eq (by omega)) (fun hb4361 => ?_) (fun hb4361 => ?_)
        · refine y_iinc 79 c85_76 rfl rfl rfl ?_
          refine y_goto 2 c85_79 rfl ?_
          exact ih (m 256 14 - (i + 1) : Int).toNat (by omega) (i + 1)  _ (by omega) (by omega) hTi hFi
        · refine y_aload 55 c85_54 rfl rfl rfl ?_
          refine y_aload 56 c85_55 rfl rfl rfl ?_
          refine y_getR 59 c85_56 rfl kf8_0 ?_
          refine y_aload 60 c85_59 rfl rfl rfl ?_
          refine y_getX 63 (m (276 + k.toNat) 3) c85_60 rfl (ff276_3 (by omega)) (hFi (276 + k.toNat) 3 (wFy_h (by omega))) ?_
          have tb4362 := hT.atp (276 + k.toNat) 3 ((-1)) 47 (ft276_3 (by omega))
          refine y_aaload 64 c85_63 rfl kr9 (by omega) ?_
          refine y_aload 65 c85_64 rfl rfl rfl ?_
          refine y_iload 66 c85_65 rfl rfl ?_
          refine y_aload 67 c85_66 rfl rfl rfl ?_
          refine y_getX 70 (m (276 + k.toNat) 6) c85_67 rfl (ff276_6 (by omega)) (hFi (276 + k.toNat) 6 (wFy_h (by omega))) ?_
          refine y_callAB 73 [.ref 8, yI i, yI (m (276 + k.toNat) 6)] [.ref (10 + (m (276 + k.toNat) 3).toNat), .ref 8] c85_70 rfl rfl rfl rfl rfl (ycanO km83 ko8) (t83 (by omega) (by omega)) (fun Rq4363 mq4363 nq4363 hq4363 => ?_)
          obtain ⟨rfl, rfl, hmq4363⟩ := hq4363
          obtain rfl := hmq4363.symm
          have es4365 : mi 8 4 = m 8 4 := (hFi 8 4 rfl)
          have tb4366 := hT.atp 8 4 ((-1)) 1 rfl
          refine y_callUB 76 [.ref 8, .ref (10 + (m (276 + k.toNat) 3).toNat), .ref (73 + (i * 8 + (m (276 + k.toNat) 6)).toNat)] [] c85_73 rfl rfl rfl rfl rfl (ycanO km80 ko8) (t80_256 hTi (by omega) (fa10 (by omega)) (fun _ => fz10 (by omega)) (fa73 (by omega)) (fun _ => fz73 (by omega)) (by omega)) (fun mq4364 nq4364 hq4364 => ?_)
          obtain ⟨rfl, hTq4364, hFq4364⟩ := hq4364
          have hF4367 := hFi.tr hFq4364 (wTe_wFy (by omega))
          refine y_iinc 79 c85_76 rfl rfl rfl ?_
          refine y_goto 2 c85_79 rfl ?_
          exact ih (m 256 14 - (i + 1) : Int).toNat (by omega) (i + 1)  _ (by omega) (by omega) hTq4364 hF4367
set_option maxRecDepth 100000 in
theorem t85_256 {L : Nat} {xs : Nat → Int32} {d nn : Nat} {m : yM} {k : Int} (hT : Ty gT m) (hp : m 8 4 = 0) (hk : 0 ≤ k ∧ k ≤ 39) (h2 : 0 ≤ m (276 + k.toNat) 2) (h3 : 0 ≤ m (276 + k.toNat) 3) (h6 : m (276 + k.toNat) 6 ≤ 7) : YC (gZ L xs) (d + 2) 85 [.ref 8, .ref (276 + k.toNat)] m nn (qU (fun m' n' => n' = nn ∧ Ty gT m' ∧ Fr wFy m m')) := by
  refine YC.mkB [some (.ref 8), some (.ref (276 + k.toNat)), none] kn85 rfl rfl ?_
  refine y_iconst 1 c85_0 rfl ?_
  refine y_istore 2 c85_1 rfl rfl ?_
  have tb := hT.atp 256 14 0 12 rfl
  exact t85a_256 hT hp hk h2 h3 h6 (m 256 14 - 0).toNat 0 m (by omega) (by omega) hT Fr.rf
set_option maxRecDepth 100000 in
theorem t86a_256 {L : Nat} {xs : Nat → Int32} {d nn : Nat} {m : yM} {k : Int} (hT : Ty gT m) (hp : m 8 4 = 0) (hk : 0 ≤ k ∧ k ≤ 39) (h3 : 0 ≤ m (276 + k.toNat) 3) (h6 : 0 ≤ m (276 + k.toNat) 6) (hn : ∀ k : Nat, (k : Int) < m 256 16 → m (276 + k) 6 ≤ 11) (hin : ∀ k' : Nat, (k' : Int) < m 256 16 → m (276 + k') 0 = 4 → m (276 + k') 6 = m (276 + k.toNat) 6 → k' = k.toNat) (h0 : ∀ k' : Nat, (k' : Int) < m 256 16 → m (276 + k') 0 = 4 → 0 ≤ m (276 + k') 6) (hG : GO 256 266 276 m) : ∀ (km : Nat) (i : Int) (x3 : Option Value) (mi : yM), m 256 14 - i = km → 0 ≤ i ∧ i ≤ m 256 14 → Ty gT mi → Fr wFx m mi → GO 256 266 276 mi → YW (gZ L xs) 86 (d + 2) 2 [some (.ref 8), some (.ref (276 + k.toNat)), some (yI i), x3] [] mi nn (qU (fun m' n' => n' = nn ∧ Ty gT m' ∧ Fr wFx m m' ∧ GO 256 266 276 m')) := by
  intro km
  induction km using Nat.strongRecOn with
  | ind km ih =>
    intro i x3 mi hk hi hTi hFi hGo
    have tb := hT.atp 256 14 0 12 rfl
    have hni : ∀ j : Nat, (j : Int) < mi 256 16 → mi (276 + j) 6 ≤ 11 := fun j hj => by rw [hFi 256 16 rfl] at hj; rw [hFi _ 6 (wFx_h (by omega))]; exact hn j hj
    have hini : ∀ j : Nat, (j : Int) < mi 256 16 → mi (276 + j) 0 = 4 → mi (276 + j) 6 = mi (276 + k.toNat) 6 → j = k.toNat := fun j hj => by rw [hFi 256 16 rfl] at hj; rw [hFi _ 0 (wFx_h (by omega)), hFi _ 6 (wFx_h (by omega)), hFi _ 6 (wFx_h (by omega))]; exact hin j hj
    have h0i : ∀ j : Nat, (j : Int) < mi 256 16 → mi (276 + j) 0 = 4 → 0 ≤ mi (276 + j) 6 := fun j hj => by rw [hFi 256 16 rfl] at hj; rw [hFi _ 0 (wFx_h (by omega)), hFi _ 6 (wFx_h (by omega))]; exact h0 j hj
    refine y_iload 3 c86_2 rfl rfl ?_
    refine y_aload 4 c86_3 rfl rfl rfl ?_
    refine y_getS 7 (B := 256) c86_4 rfl kf8_4 (by first | rfl | (rw [show mi 8 4 = 0 from by have e : mi 8 4 = m 8 4 := (hFi 8 4 rfl); omega]; rfl)) ?_
    refine y_getX 10 (m 256 14) c86_7 rfl kf256_14 (hFi 256 14 rfl) ?_
    refine y_icmp 112 13 c86_10 rfl rfl (yc_ge (by omega) (by omega)) (fun hb4368 => ?_) (fun hb4368 => ?_)
    · exact y_retU c86_112 ⟨rfl, hTi, hFi, hGo⟩
    · refine y_aload 14 c86_13 rfl rfl rfl ?_
      refine y_aload 15 c86_14 rfl rfl rfl ?_
      refine y_getR 18 c86_15 rfl kf8_0 ?_
      refine y_aload 19 c86_18 rfl rfl rfl ?_
      refine y_getX 22 (m (276 + k.toNat) 3) c86_19 rfl (ff276_3 (by omega)) (hFi (276 + k.toNat) 3 (wFx_h (by omega))) ?_
      have tb4369 := hT.atp (276 + k.toNat) 3 ((-1)) 47 (ft276_3 (by omega))
      refine y_aaload 23 c86_22 rfl kr9 (by omega) ?_
      refine y_iload 24 c86_23 rfl rfl ?_
      refine y_iaT 25 ((-2147483648)) 2147483647 c86_24 rfl (fa10 (by omega)) (by omega) hTi (fz10 (by omega)) (fun v4370 hv4370 gv4370 => ?_)
      refine y_callP 28 [.ref 8, yI v4370] [] c86_25 rfl rfl rfl rfl rfl (ycanO km78 ko8) (t78 hTi (by omega)) (fun r4371 hr4371 => ?_)
      refine y_if 106 31 c86_28 rfl rfl (yz_eq (by omega)) (fun hb4372 => ?_) (fun hb4372 => ?_)
      · refine y_iinc 109 c86_106 rfl rfl rfl ?_
        refine y_goto 2 c86_109 rfl ?_
        exact ih (m 256 14 - (i + 1) : Int).toNat (by omega) (i + 1) _  _ (by omega) (by omega) hTi hFi hGo
      · refine y_aload 32 c86_31 rfl rfl rfl ?_
        refine y_getS 35 (B := 256) c86_32 rfl kf8_4 (by first | rfl | (rw [show mi 8 4 = 0 from by have e : mi 8 4 = m 8 4 := (hFi 8 4 rfl); omega]; rfl)) ?_
        refine y_aload 36 c86_35 rfl rfl rfl ?_
        refine y_getS 39 (B := 256) c86_36 rfl kf8_4 (by first | rfl | (rw [show mi 8 4 = 0 from by have e : mi 8 4 = m 8 4 := (hFi 8 4 rfl); omega]; rfl)) ?_
        refine y_getR 42 c86_39 rfl kf256_7 ?_
        refine y_iload 43 c86_42 rfl rfl ?_
        refine y_iaT 44 0 5 c86_43 rfl ka264 (by omega) hTi rfl (fun v4373 hv4373 gv4373 => ?_)
        refine y_aload 45 c86_44 rfl rfl rfl ?_
        refine y_getX 48 (m (276 + k.toNat) 4) c86_45 rfl (ff276_4 (by omega)) (hFi (276 + k.toNat) 4 (wFx_h (by omega))) ?_
        have tb4374 := hT.atp (276 + k.toNat) 4 ((-2147483648)) 2147483647 (ft276_4 (by omega))
        refine y_aload 49 c86_48 rfl rfl rfl ?_
        refine y_getX 52 (m (276 + k.toNat) 8) c86_49 rfl (ff276_8 (by omega)) (hFi (276 + k.toNat) 8 (wFx_h (by omega))) ?_
        have tb4375 := hT.atp (276 + k.toNat) 8 0 2 (ft276_8 (by omega))
        have es4377 : mi 256 10 = m 256 10 := (hFi 256 10 rfl)
        have tb4378 := hT.atp 256 10 0 10 rfl
        refine y_callP 55 [.ref 256, yI v4373, yI (m (276 + k.toNat) 4), yI (m (276 + k.toNat) 8)] [] c86_52 rfl rfl rfl rfl rfl (ycanO km72 ko256) (t72_256 hTi (by omega) (by omega) (by omega)) (fun r4376 hr4376 => ?_)
        refine y_istore 56 c86_55 rfl rfl ?_
        refine y_iload 57 c86_56 rfl rfl ?_
        refine y_iconst 58 c86_57 rfl ?_
        refine y_icmp 106 61 c86_58 rfl rfl (yc_eq (by omega) (by omega)) (fun hb4379 => ?_) (fun hb4379 => ?_)
        · refine y_iinc 109 c86_106 rfl rfl rfl ?_
          refine y_goto 2 c86_109 rfl ?_
          exact ih (m 256 14 - (i + 1) : Int).toNat (by omega) (i + 1) _  _ (by omega) (by omega) hTi hFi hGo
        · refine y_aload 62 c86_61 rfl rfl rfl ?_
          refine y_aload 63 c86_62 rfl rfl rfl ?_
          refine y_getR 66 c86_63 rfl kf8_1 ?_
          refine y_aload 67 c86_66 rfl rfl rfl ?_
          refine y_getX 70 (m (276 + k.toNat) 6) c86_67 rfl (ff276_6 (by omega)) (hFi (276 + k.toNat) 6 (wFx_h (by omega))) ?_
          have tb4380 := hT.atp (276 + k.toNat) 6 ((-1)) 11 (ft276_6 (by omega))
          refine y_aaload 71 c86_70 rfl kr58 (by omega) ?_
          refine y_iload 72 c86_71 rfl rfl ?_
          refine y_callUB 75 [.ref 8, .ref (59 + (m (276 + k.toNat) 6).toNat), yI r4376] [] c86_72 rfl rfl rfl rfl rfl (ycanO km79 ko8) (t79 hTi (fa59 (by omega)) (fun _ => fz59 (by omega)) (by omega) (by omega)) (fun mq4381 nq4381 hq4381 => ?_)
          obtain ⟨rfl, hTq4381, hFq4381, hq4381⟩ := hq4381
          have hF4382 := hFi.tr hFq4381 (wTe_wFx (by omega))
          refine y_aload 76 c86_75 rfl rfl rfl ?_
          refine y_aload 77 c86_76 rfl rfl rfl ?_
          refine y_getR 80 c86_77 rfl kf8_2 ?_
          refine y_iload 81 c86_80 rfl rfl ?_
          refine y_callUB 84 [.ref 8, .ref 71, yI r4376] [] c86_81 rfl rfl rfl rfl rfl (ycanO km79 ko8) (t79 hTq4381 ka71 (fun _ => rfl) (by omega) (by omega)) (fun mq4383 nq4383 hq4383 => ?_)
          obtain ⟨rfl, hTq4383, hFq4383, hq4383⟩ := hq4383
          have hF4384 := hF4382.tr hFq4383 (wTe_wFx (by omega))
          refine y_aload 85 c86_84 rfl rfl rfl ?_
          refine y_aload 86 c86_85 rfl rfl rfl ?_
          refine y_getR 89 c86_86 rfl kf8_0 ?_
          refine y_aload 90 c86_89 rfl rfl rfl ?_
          refine y_getS 93 (B := 256) c86_90 rfl kf8_4 (by first | rfl | (rw [show mq4383 8 4 = 0 from by have e : mq4383 8 4 = m 8 4 := ((hFq4383 8 4 (wTe_n (by omega) (by decide))).trans ((hFq4381 8 4 (wTe_n (by omega) (by decide))).trans (hFi 8 4 rfl))); omega]; rfl)) ?_
          refine y_getR 96 c86_93 rfl kf256_5 ?_
          refine y_iload 97 c86_96 rfl rfl ?_
          refine y_aaload 98 c86_97 rfl kr262 (by omega) ?_
          refine y_callP 101 [.ref (266 + r4376.toNat)] [.ref 9, .ref 8] c86_98 rfl rfl rfl rfl rfl (ycanO km57 (fo266 (by omega))) (t57_256 hTq4383 (by omega)) (fun r4385 hr4385 => ?_)
          refine y_aaload 102 c86_101 rfl kr9 (by omega) ?_
          refine y_iload 103 c86_102 rfl rfl ?_
          refine y_callUB 106 [.ref 8, .ref (10 + r4385.toNat), yI i] [] c86_103 rfl rfl rfl rfl rfl (ycanO km79 ko8) (t79 hTq4383 (fa10 (by omega)) (fun _ => fz10 (by omega)) (by omega) (by omega)) (fun mq4386 nq4386 hq4386 => ?_)
          obtain ⟨rfl, hTq4386, hFq4386, hq4386⟩ := hq4386
          have hF4387 := hF4384.tr hFq4386 (wTe_wFx (by omega))
          refine y_iinc 109 c86_106 rfl rfl rfl ?_
          refine y_goto 2 c86_109 rfl ?_
          exact ih (m 256 14 - (i + 1) : Int).toNat (by omega) (i + 1) _  _ (by omega) (by omega) hTq4386 hF4387 ((hGo.tell (k := k.toNat) (j := r4376) (by omega) hni hini h0i (by have := hFi (276 + k.toNat) 6 (wFx_h (by omega)); omega) (by have := hTi.atp (276 + k.toNat) 6 (-1) 11 (ft276_6 (by omega)); omega) hFq4381 (by rw [hFi (276 + k.toNat) 6 (wFx_h (by omega))]) hq4381 (by have e1 := hr4376.2.2 (by omega); have e2 := hFi (276 + k.toNat) 8 (wFx_h (by omega)); omega)).fr (by omega) (fun j hj => by rw [hFq4381 256 16 (wTe_n (by omega) (by decide))] at hj; rw [hFq4381 (276 + j) 6 (wTe_n (by omega) (by omega))]; exact hni j hj) ((Fr.rf.tr hFq4383 (wTe_wFy (by omega))).tr hFq4386 (wTe_wFy (by omega))))
set_option maxRecDepth 100000 in
theorem t86_256 {L : Nat} {xs : Nat → Int32} {d nn : Nat} {m : yM} {k : Int} (hT : Ty gT m) (hp : m 8 4 = 0) (hk : 0 ≤ k ∧ k ≤ 39) (h3 : 0 ≤ m (276 + k.toNat) 3) (h6 : 0 ≤ m (276 + k.toNat) 6) (hn : ∀ k : Nat, (k : Int) < m 256 16 → m (276 + k) 6 ≤ 11) (hin : ∀ k' : Nat, (k' : Int) < m 256 16 → m (276 + k') 0 = 4 → m (276 + k') 6 = m (276 + k.toNat) 6 → k' = k.toNat) (h0 : ∀ k' : Nat, (k' : Int) < m 256 16 → m (276 + k') 0 = 4 → 0 ≤ m (276 + k') 6) (hG : GO 256 266 276 m) : YC (gZ L xs) (d + 2) 86 [.ref 8, .ref (276 + k.toNat)] m nn (qU (fun m' n' => n' = nn ∧ Ty gT m' ∧ Fr wFx m m' ∧ GO 256 266 276 m')) := by
  refine YC.mkB [some (.ref 8), some (.ref (276 + k.toNat)), none, none] kn86 rfl rfl ?_
  refine y_iconst 1 c86_0 rfl ?_
  refine y_istore 2 c86_1 rfl rfl ?_
  have tb := hT.atp 256 14 0 12 rfl
  exact t86a_256 hT hp hk h3 h6 hn hin h0 hG (m 256 14 - 0).toNat 0 none m (by omega) (by omega) hT Fr.rf hG
set_option maxRecDepth 100000 in
theorem t88_256 {L : Nat} {xs : Nat → Int32} {d nn : Nat} {m : yM} {k j : Int} (hT : Ty gT m) (hp : m 8 4 = 0) (hk : 0 ≤ k ∧ k ≤ 39) (hj : 0 ≤ j ∧ j ≤ 9) (hM : MP 266 m) (h8 : m (266 + j.toNat) 3 = m (276 + k.toNat) 8) (h9 : 1 ≤ m (276 + k.toNat) 8 → 0 ≤ m (276 + k.toNat) 9) (h10 : 2 ≤ m (276 + k.toNat) 8 → 0 ≤ m (276 + k.toNat) 10) : YC (gZ L xs) (d + 2) 88 [.ref 8, .ref (276 + k.toNat), .ref (266 + j.toNat)] m nn (qU (fun m' n' => n' = nn ∧ Ty gT m' ∧ Fr wFy m m')) := by
  refine YC.mkB [some (.ref 8), some (.ref (276 + k.toNat)), some (.ref (266 + j.toNat))] kn88 rfl rfl ?_
  have hF : Fr wFy m m := Fr.rf
  refine y_aload 1 c88_0 rfl rfl rfl ?_
  refine y_getX 4 (m (276 + k.toNat) 8) c88_1 rfl (ff276_8 (by omega)) rfl ?_
  have tb4388 := hT.atp (276 + k.toNat) 8 0 2 (ft276_8 (by omega))
  refine y_if 30 7 c88_4 rfl rfl (yz_le (by omega)) (fun hb4389 => ?_) (fun hb4389 => ?_)
  · refine y_aload 31 c88_30 rfl rfl rfl ?_
    refine y_getX 34 (m (276 + k.toNat) 8) c88_31 rfl (ff276_8 (by omega)) rfl ?_
    refine y_iconst 35 c88_34 rfl ?_
    refine y_icmp 61 38 c88_35 rfl rfl (yc_le (by omega) (by omega)) (fun hb4390 => ?_) (fun hb4390 => ?_)
    · refine y_aload 62 c88_61 rfl rfl rfl ?_
      refine y_getX 65 (m (276 + k.toNat) 2) c88_62 rfl (ff276_2 (by omega)) rfl ?_
      have tb4391 := hT.atp (276 + k.toNat) 2 ((-1)) 47 (ft276_2 (by omega))
      refine y_iconst 66 c88_65 rfl ?_
      refine y_icmp 91 69 c88_66 rfl rfl (yc_eq (by omega) (by omega)) (fun hb4392 => ?_) (fun hb4392 => ?_)
      · exact y_retU c88_91 ⟨rfl, hT, hF⟩
      · refine y_aload 70 c88_69 rfl rfl rfl ?_
        refine y_aload 71 c88_70 rfl rfl rfl ?_
        refine y_getR 74 c88_71 rfl kf8_0 ?_
        refine y_aload 75 c88_74 rfl rfl rfl ?_
        refine y_getX 78 (m (266 + j.toNat) 2) c88_75 rfl (ff266_2 (by omega)) rfl ?_
        have tb4393 := hT.atp (266 + j.toNat) 2 0 46 (ft266_2 (by omega))
        refine y_aaload 79 c88_78 rfl kr9 (by omega) ?_
        refine y_aload 80 c88_79 rfl rfl rfl ?_
        refine y_getR 83 c88_80 rfl kf8_0 ?_
        refine y_aload 84 c88_83 rfl rfl rfl ?_
        refine y_getX 87 (m (276 + k.toNat) 2) c88_84 rfl (ff276_2 (by omega)) rfl ?_
        refine y_aaload 88 c88_87 rfl kr9 (by omega) ?_
        have tb4395 := hT.atp 8 4 ((-1)) 1 rfl
        refine y_callUB 91 [.ref 8, .ref (10 + (m (266 + j.toNat) 2).toNat), .ref (10 + (m (276 + k.toNat) 2).toNat)] [] c88_88 rfl rfl rfl rfl rfl (ycanO km80 ko8) (t80_256 hT (by omega) (fa10 (by omega)) (fun _ => fz10 (by omega)) (fa10 (by omega)) (fun _ => fz10 (by omega)) (by omega)) (fun mq4394 nq4394 hq4394 => ?_)
        obtain ⟨rfl, hTq4394, hFq4394⟩ := hq4394
        have hF4396 := hF.tr hFq4394 (wTe_wFy (by omega))
        exact y_retU c88_91 ⟨rfl, hTq4394, hF4396⟩
    · exfalso; omega
  · refine y_aload 8 c88_7 rfl rfl rfl ?_
    refine y_aload 9 c88_8 rfl rfl rfl ?_
    refine y_getR 12 c88_9 rfl kf8_0 ?_
    refine y_aload 13 c88_12 rfl rfl rfl ?_
    refine y_getX 16 (m (276 + k.toNat) 9) c88_13 rfl (ff276_9 (by omega)) rfl ?_
    have tb4397 := hT.atp (276 + k.toNat) 9 ((-1)) 47 (ft276_9 (by omega))
    refine y_aaload 17 c88_16 rfl kr9 (by omega) ?_
    refine y_aload 18 c88_17 rfl rfl rfl ?_
    refine y_getR 21 c88_18 rfl kf8_0 ?_
    refine y_aload 22 c88_21 rfl rfl rfl ?_
    refine y_iconst 23 c88_22 rfl ?_
    have tb4399 := hT.atp (266 + j.toNat) 3 0 2 (ft266_3 (by omega))
    refine y_callP 26 [.ref (266 + j.toNat), yI 0] [.ref 9, .ref (10 + (m (276 + k.toNat) 9).toNat), .ref 8] c88_23 rfl rfl rfl rfl rfl (ycanO km87 (fo266 (by omega))) (t87_256 hT (by omega) (by omega) hM) (fun r4398 hr4398 => ?_)
    refine y_aaload 27 c88_26 rfl kr9 (by omega) ?_
    have tb4401 := hT.atp 8 4 ((-1)) 1 rfl
    refine y_callUB 30 [.ref 8, .ref (10 + (m (276 + k.toNat) 9).toNat), .ref (10 + r4398.toNat)] [] c88_27 rfl rfl rfl rfl rfl (ycanO km80 ko8) (t80_256 hT (by omega) (fa10 (by omega)) (fun _ => fz10 (by omega)) (fa10 (by omega)) (fun _ => fz10 (by omega)) (by omega)) (fun mq4400 nq4400 hq4400 => ?_)
    obtain ⟨rfl, hTq4400, hFq4400⟩ := hq4400
    have hF4402 := hF.tr hFq4400 (wTe_wFy (by omega))
    refine y_aload 31 c88_30 rfl rfl rfl ?_
    refine y_getX 34 (m (276 + k.toNat) 8) c88_31 rfl (ff276_8 (by omega)) (hFq4400 (276 + k.toNat) 8 (wTe_n (by omega) (by omega))) ?_
    refine y_iconst 35 c88_34 rfl ?_
    refine y_icmp 61 38 c88_35 rfl rfl (yc_le (by omega) (by omega)) (fun hb4403 => ?_) (fun hb4403 => ?_)
    · refine y_aload 62 c88_61 rfl rfl rfl ?_
      refine y_getX 65 (m (276 + k.toNat) 2) c88_62 rfl (ff276_2 (by omega)) (hFq4400 (276 + k.toNat) 2 (wTe_n (by omega) (by omega))) ?_
      have tb4404 := hT.atp (276 + k.toNat) 2 ((-1)) 47 (ft276_2 (by omega))
      refine y_iconst 66 c88_65 rfl ?_
      refine y_icmp 91 69 c88_66 rfl rfl (yc_eq (by omega) (by omega)) (fun hb4405 => ?_) (fun hb4405 => ?_)
      · exact y_retU c88_91 ⟨rfl, hTq4400, hF4402⟩
      · refine y_aload 70 c88_69 rfl rfl rfl ?_
        refine y_aload 71 c88_70 rfl rfl rfl ?_
        refine y_getR 74 c88_71 rfl kf8_0 ?_
        refine y_aload 75 c88_74 rfl rfl rfl ?_
        refine y_getX 78 (m (266 + j.toNat) 2) c88_75 rfl (ff266_2 (by omega)) (hFq4400 (266 + j.toNat) 2 (wTe_n (by omega) (by omega))) ?_
        have tb4406 := hT.atp (266 + j.toNat) 2 0 46 (ft266_2 (by omega))
        refine y_aaload 79 c88_78 rfl kr9 (by omega) ?_
        refine y_aload 80 c88_79 rfl rfl rfl ?_
        refine y_getR 83 c88_80 rfl kf8_0 ?_
        refine y_aload 84 c88_83 rfl rfl rfl ?_
        refine y_getX 87 (m (276 + k.toNat) 2) c88_84 rfl (ff276_2 (by omega)) (hFq4400 (276 + k.toNat) 2 (wTe_n (by omega) (by omega))) ?_
        refine y_aaload 88 c88_87 rfl kr9 (by omega) ?_
        have es4408 : mq4400 8 4 = m 8 4 := (hFq4400 8 4 (wTe_n (by omega) (by decide)))
        refine y_callUB 91 [.ref 8, .ref (10 + (m (266 + j.toNat) 2).toNat), .ref (10 + (m (276 + k.toNat) 2).toNat)] [] c88_88 rfl rfl rfl rfl rfl (ycanO km80 ko8) (t80_256 hTq4400 (by omega) (fa10 (by omega)) (fun _ => fz10 (by omega)) (fa10 (by omega)) (fun _ => fz10 (by omega)) (by omega)) (fun mq4407 nq4407 hq4407 => ?_)
        obtain ⟨rfl, hTq4407, hFq4407⟩ := hq4407
        have hF4409 := hF4402.tr hFq4407 (wTe_wFy (by omega))
        exact y_retU c88_91 ⟨rfl, hTq4407, hF4409⟩
    · refine y_aload 39 c88_38 rfl rfl rfl ?_
      refine y_aload 40 c88_39 rfl rfl rfl ?_
      refine y_getR 43 c88_40 rfl kf8_0 ?_
      refine y_aload 44 c88_43 rfl rfl rfl ?_
      refine y_getX 47 (m (276 + k.toNat) 10) c88_44 rfl (ff276_10 (by omega)) (hFq4400 (276 + k.toNat) 10 (wTe_n (by omega) (by omega))) ?_
      have tb4410 := hT.atp (276 + k.toNat) 10 ((-1)) 47 (ft276_10 (by omega))
      refine y_aaload 48 c88_47 rfl kr9 (by omega) ?_
      refine y_aload 49 c88_48 rfl rfl rfl ?_
      refine y_getR 52 c88_49 rfl kf8_0 ?_
      refine y_aload 53 c88_52 rfl rfl rfl ?_
      refine y_iconst 54 c88_53 rfl ?_
      have es4412 : mq4400 (266 + j.toNat) 3 = m (266 + j.toNat) 3 := (hFq4400 (266 + j.toNat) 3 (wTe_n (by omega) (by omega)))
      refine y_callP 57 [.ref (266 + j.toNat), yI 1] [.ref 9, .ref (10 + (m (276 + k.toNat) 10).toNat), .ref 8] c88_54 rfl rfl rfl rfl rfl (ycanO km87 (fo266 (by omega))) (t87_256 hTq4400 (by omega) (by omega) (hM.fr (fun k hk => hFq4400 _ _ (wTe_n (by omega) (by omega))) (fun k hk => hFq4400 _ _ (wTe_n (by omega) (by omega))))) (fun r4411 hr4411 => ?_)
      refine y_aaload 58 c88_57 rfl kr9 (by omega) ?_
      have es4414 : mq4400 8 4 = m 8 4 := (hFq4400 8 4 (wTe_n (by omega) (by decide)))
      refine y_callUB 61 [.ref 8, .ref (10 + (m (276 + k.toNat) 10).toNat), .ref (10 + r4411.toNat)] [] c88_58 rfl rfl rfl rfl rfl (ycanO km80 ko8) (t80_256 hTq4400 (by omega) (fa10 (by omega)) (fun _ => fz10 (by omega)) (fa10 (by omega)) (fun _ => fz10 (by omega)) (by omega)) (fun mq4413 nq4413 hq4413 => ?_)
      obtain ⟨rfl, hTq4413, hFq4413⟩ := hq4413
      have hF4415 := hF4402.tr hFq4413 (wTe_wFy (by omega))
      refine y_aload 62 c88_61 rfl rfl rfl ?_
      refine y_getX 65 (m (276 + k.toNat) 2) c88_62 rfl (ff276_2 (by omega)) ((hFq4413 (276 + k.toNat) 2 (wTe_n (by omega) (by omega))).trans (hFq4400 (276 + k.toNat) 2 (wTe_n (by omega) (by omega)))) ?_
      have tb4416 := hT.atp (276 + k.toNat) 2 ((-1)) 47 (ft276_2 (by omega))
      refine y_iconst 66 c88_65 rfl ?_
      refine y_icmp 91 69 c88_66 rfl rfl (yc_eq (by omega) (by omega)) (fun hb4417 => ?_) (fun hb4417 => ?_)
      · exact y_retU c88_91 ⟨rfl, hTq4413, hF4415⟩
      · refine y_aload 70 c88_69 rfl rfl rfl ?_
        refine y_aload 71 c88_70 rfl rfl rfl ?_
        refine y_getR 74 c88_71 rfl kf8_0 ?_
        refine y_aload 75 c88_74 rfl rfl rfl ?_
        refine y_getX 78 (m (266 + j.toNat) 2) c88_75 rfl (ff266_2 (by omega)) ((hFq4413 (266 + j.toNat) 2 (wTe_n (by omega) (by omega))).trans (hFq4400 (266 + j.toNat) 2 (wTe_n (by omega) (by omega)))) ?_
        have tb4418 := hT.atp (266 + j.toNat) 2 0 46 (ft266_2 (by omega))
        refine y_aaload 79 c88_78 rfl kr9 (by omega) ?_
        refine y_aload 80 c88_79 rfl rfl rfl ?_
        refine y_getR 83 c88_80 rfl kf8_0 ?_
        refine y_aload 84 c88_83 rfl rfl rfl ?_
        refine y_getX 87 (m (276 + k.toNat) 2) c88_84 rfl (ff276_2 (by omega)) ((hFq4413 (276 + k.toNat) 2 (wTe_n (by omega) (by omega))).trans (hFq4400 (276 + k.toNat) 2 (wTe_n (by omega) (by omega)))) ?_
        refine y_aaload 88 c88_87 rfl kr9 (by omega) ?_
        have es4420 : mq4413 8 4 = m 8 4 := ((hFq4413 8 4 (wTe_n (by omega) (by decide))).trans (hFq4400 8 4 (wTe_n (by omega) (by decide))))
        refine y_callUB 91 [.ref 8, .ref (10 + (m (266 + j.toNat) 2).toNat), .ref (10 + (m (276 + k.toNat) 2).toNat)] [] c88_88 rfl rfl rfl rfl rfl (ycanO km80 ko8) (t80_256 hTq4413 (by omega) (fa10 (by omega)) (fun _ => fz10 (by omega)) (fa10 (by omega)) (fun _ => fz10 (by omega)) (by omega)) (fun mq4419 nq4419 hq4419 => ?_)
        obtain ⟨rfl, hTq4419, hFq4419⟩ := hq4419
        have hF4421 := hF4415.tr hFq4419 (wTe_wFy (by omega))
        exact y_retU c88_91 ⟨rfl, hTq4419, hF4421⟩
set_option maxRecDepth 100000 in
theorem t89a_256 {L : Nat} {xs : Nat → Int32} {d nn : Nat} {m : yM} {k : Int} (hT : Ty gT m) (hp : m 8 4 = 0) (hk : 0 ≤ k ∧ k ≤ 39) (hkc : k < m 256 16) (h4 : m (276 + k.toNat) 0 = 4) (h6 : 0 ≤ m (276 + k.toNat) 6) (hM : MP 266 m) (h9 : 1 ≤ m (276 + k.toNat) 8 → 0 ≤ m (276 + k.toNat) 9) (h10 : 2 ≤ m (276 + k.toNat) 8 → 0 ≤ m (276 + k.toNat) 10) (hG : GO 256 266 276 m) : ∀ (km : Nat) (i : Int) (mi : yM), m 256 10 - i = km → 0 ≤ i ∧ i ≤ m 256 10 → Ty gT mi → Fr wFy m mi → YW (gZ L xs) 89 (d + 3) 2 [some (.ref 8), some (.ref (276 + k.toNat)), some (yI i)] [] mi nn (qU (fun m' n' => n' = nn ∧ Ty gT m' ∧ Fr wFy m m')) := by
  intro km
  induction km using Nat.strongRecOn with
  | ind km ih =>
    intro i mi hk hi hTi hFi
    have tb := hT.atp 256 10 0 10 rfl
    refine y_iload 3 c89_2 rfl rfl ?_
    refine y_aload 4 c89_3 rfl rfl rfl ?_
    refine y_getS 7 (B := 256) c89_4 rfl kf8_4 (by first | rfl | (rw [show mi 8 4 = 0 from by have e : mi 8 4 = m 8 4 := (hFi 8 4 rfl); omega]; rfl)) ?_
    refine y_getX 10 (m 256 10) c89_7 rfl kf256_10 (hFi 256 10 rfl) ?_
    refine y_icmp 51 13 c89_10 rfl rfl (yc_ge (by omega) (by omega)) (fun hb4422 => ?_) (fun hb4422 => ?_)
    · exact y_retU c89_51 ⟨rfl, hTi, hFi⟩
    · refine y_aload 14 c89_13 rfl rfl rfl ?_
      refine y_aload 15 c89_14 rfl rfl rfl ?_
      refine y_getR 18 c89_15 rfl kf8_1 ?_
      refine y_aload 19 c89_18 rfl rfl rfl ?_
      refine y_getX 22 (m (276 + k.toNat) 6) c89_19 rfl (ff276_6 (by omega)) (hFi (276 + k.toNat) 6 (wFy_h (by omega))) ?_
      have tb4423 := hT.atp (276 + k.toNat) 6 ((-1)) 11 (ft276_6 (by omega))
      refine y_aaload 23 c89_22 rfl kr58 (by omega) ?_
      refine y_iload 24 c89_23 rfl rfl ?_
      refine y_iaT 25 ((-2147483648)) 2147483647 c89_24 rfl (fa59 (by omega)) (by omega) hTi (fz59 (by omega)) (fun v4424 hv4424 gv4424 => ?_)
      refine y_callP 28 [.ref 8, yI v4424] [] c89_25 rfl rfl rfl rfl rfl (ycanO km78 ko8) (t78 hTi (by omega)) (fun r4425 hr4425 => ?_)
      refine y_if 45 31 c89_28 rfl rfl (yz_eq (by omega)) (fun hb4426 => ?_) (fun hb4426 => ?_)
      · refine y_iinc 48 c89_45 rfl rfl rfl ?_
        refine y_goto 2 c89_48 rfl ?_
        exact ih (m 256 10 - (i + 1) : Int).toNat (by omega) (i + 1)  _ (by omega) (by omega) hTi hFi
      · refine y_aload 32 c89_31 rfl rfl rfl ?_
        refine y_aload 33 c89_32 rfl rfl rfl ?_
        refine y_aload 34 c89_33 rfl rfl rfl ?_
        refine y_getS 37 (B := 256) c89_34 rfl kf8_4 (by first | rfl | (rw [show mi 8 4 = 0 from by have e : mi 8 4 = m 8 4 := (hFi 8 4 rfl); omega]; rfl)) ?_
        refine y_getR 40 c89_37 rfl kf256_5 ?_
        refine y_iload 41 c89_40 rfl rfl ?_
        refine y_aaload 42 c89_41 rfl kr262 (by omega) ?_
        have es4428 : mi 8 4 = m 8 4 := (hFi 8 4 rfl)
        have tb4429 := hT.atp 8 4 ((-1)) 1 rfl
        have es4430 : mi (276 + k.toNat) 8 = m (276 + k.toNat) 8 := (hFi (276 + k.toNat) 8 (wFy_h (by omega)))
        have tb4431 := hT.atp (276 + k.toNat) 8 0 2 (ft276_8 (by omega))
        have es4432 : mi (276 + k.toNat) 9 = m (276 + k.toNat) 9 := (hFi (276 + k.toNat) 9 (wFy_h (by omega)))
        have tb4433 := hT.atp (276 + k.toNat) 9 ((-1)) 47 (ft276_9 (by omega))
        have es4434 : mi (276 + k.toNat) 10 = m (276 + k.toNat) 10 := (hFi (276 + k.toNat) 10 (wFy_h (by omega)))
        have tb4435 := hT.atp (276 + k.toNat) 10 ((-1)) 47 (ft276_10 (by omega))
        have es4436 : mi (266 + i.toNat) 3 = m (266 + i.toNat) 3 := (hFi (266 + i.toNat) 3 (wFy_h (by omega)))
        have tb4437 := hT.atp (266 + i.toNat) 3 0 2 (ft266_3 (by omega))
        have hg3 := hG k.toNat (by omega) h4 i.toNat (by omega) (by rw [hFi _ _ (wFy_g (by omega))] at hv4424; omega)
        refine y_callUB 45 [.ref 8, .ref (276 + k.toNat), .ref (266 + i.toNat)] [] c89_42 rfl rfl rfl rfl rfl (ycanO km88 ko8) (t88_256 (k := k) (j := i) hTi (by omega) (by omega) (by omega) (hM.fr (fun k hk => hFi _ _ (wFy_h (by omega))) (fun k hk => hFi _ _ (wFy_h (by omega)))) (by omega) (by omega) (by omega)) (fun mq4427 nq4427 hq4427 => ?_)
        obtain ⟨rfl, hTq4427, hFq4427⟩ := hq4427
        have hF4438 := hFi.tr hFq4427 (fun _ _ e => e)
        refine y_iinc 48 c89_45 rfl rfl rfl ?_
        refine y_goto 2 c89_48 rfl ?_
        exact ih (m 256 10 - (i + 1) : Int).toNat (by omega) (i + 1)  _ (by omega) (by omega) hTq4427 hF4438
set_option maxRecDepth 100000 in
theorem t89_256 {L : Nat} {xs : Nat → Int32} {d nn : Nat} {m : yM} {k : Int} (hT : Ty gT m) (hp : m 8 4 = 0) (hk : 0 ≤ k ∧ k ≤ 39) (hkc : k < m 256 16) (h4 : m (276 + k.toNat) 0 = 4) (h6 : 0 ≤ m (276 + k.toNat) 6) (hM : MP 266 m) (h9 : 1 ≤ m (276 + k.toNat) 8 → 0 ≤ m (276 + k.toNat) 9) (h10 : 2 ≤ m (276 + k.toNat) 8 → 0 ≤ m (276 + k.toNat) 10) (hG : GO 256 266 276 m) : YC (gZ L xs) (d + 3) 89 [.ref 8, .ref (276 + k.toNat)] m nn (qU (fun m' n' => n' = nn ∧ Ty gT m' ∧ Fr wFy m m')) := by
  refine YC.mkB [some (.ref 8), some (.ref (276 + k.toNat)), none] kn89 rfl rfl ?_
  refine y_iconst 1 c89_0 rfl ?_
  refine y_istore 2 c89_1 rfl rfl ?_
  have tb := hT.atp 256 10 0 10 rfl
  exact t89a_256 hT hp hk hkc h4 h6 hM h9 h10 hG (m 256 10 - 0).toNat 0 m (by omega) (by omega) hT Fr.rf
set_option maxRecDepth 100000 in
theorem t90_256 {L : Nat} {xs : Nat → Int32} {d nn : Nat} {m : yM} {k : Int} (hT : Ty gT m) (hp : m 8 4 = 0) (hk : 0 ≤ k ∧ k ≤ 39) (hkc : k < m 256 16) (hM : MP 266 m) (hR : RG 276 265 m 0 (m 256 16) 0 (m 256 12) 0 (m 256 13)) (hL : NL 276 m 0 (m 256 16)) (hG : GO 256 266 276 m) : YC (gZ L xs) (d + 4) 90 [.ref 8, .ref (276 + k.toNat)] m nn (qU (fun m' n' => n' = nn ∧ Ty gT m' ∧ Fr wFx m m' ∧ GO 256 266 276 m')) := by
  have tb16 := hT.atp 256 16 0 40 rfl
  have hn : ∀ k : Nat, (k : Int) < m 256 16 → m (276 + k) 6 ≤ 11 := fun k hk => (hT.atp (276 + k) 6 (-1) 11 (ft276_6 (by omega))).2
  have h0 : ∀ k' : Nat, (k' : Int) < m 256 16 → m (276 + k') 0 = 4 → 0 ≤ m (276 + k') 6 := fun k' hk' h4 => ((hR.1 k' (by omega) hk').2 h4).1
  have hin : m (276 + k.toNat) 0 = 4 → ∀ k' : Nat, (k' : Int) < m 256 16 → m (276 + k') 0 = 4 → m (276 + k') 6 = m (276 + k.toNat) 6 → k' = k.toNat := by
    intro h4 k' hk' h4' h6
    rcases Nat.lt_trichotomy k' k.toNat with q | q | q
    · have := hR.2.1 k' k.toNat (by omega) q (by omega) h4' h4; omega
    · exact q
    · have := hR.2.1 k.toNat k' (by omega) q (by omega) h4 h4'; omega
  have hsv := (hR.1 k.toNat (by omega) (by omega)).1
  unfold SV at hsv
  obtain ⟨s1, s2, s3, s4, s5⟩ := hsv
  have hl := hL k.toNat (by omega) (by omega)
  refine YC.mkB [some (.ref 8), some (.ref (276 + k.toNat))] kn90 rfl rfl ?_
  have hF : Fr wFx m m := Fr.rf
  refine y_aload 1 c90_0 rfl rfl rfl ?_
  refine y_getX 4 (m (276 + k.toNat) 0) c90_1 rfl (ff276_0 (by omega)) rfl ?_
  have tb4439 := hT.atp (276 + k.toNat) 0 0 9 (ft276_0 (by omega))
  by_cases hk4440 : m (276 + k.toNat) 0 = 2
  · refine y_top 2 hk4440 ?_
    refine y_tsw 72 c90_4 (by decide) (by decide) rfl rfl ?_
    refine y_aload 73 c90_72 rfl rfl rfl ?_
    refine y_aload 74 c90_73 rfl rfl rfl ?_
    refine y_getR 77 c90_74 rfl kf8_0 ?_
    refine y_aload 78 c90_77 rfl rfl rfl ?_
    refine y_getX 81 (m (276 + k.toNat) 3) c90_78 rfl (ff276_3 (by omega)) rfl ?_
    have tb4441 := hT.atp (276 + k.toNat) 3 ((-1)) 47 (ft276_3 (by omega))
    refine y_aaload 82 c90_81 rfl kr9 (by omega) ?_
    refine y_aload 83 c90_82 rfl rfl rfl ?_
    refine y_getR 86 c90_83 rfl kf8_0 ?_
    refine y_aload 87 c90_86 rfl rfl rfl ?_
    refine y_getX 90 (m (276 + k.toNat) 2) c90_87 rfl (ff276_2 (by omega)) rfl ?_
    have tb4442 := hT.atp (276 + k.toNat) 2 ((-1)) 47 (ft276_2 (by omega))
    refine y_aaload 91 c90_90 rfl kr9 (by omega) ?_
    have tb4444 := hT.atp 8 4 ((-1)) 1 rfl
    refine y_callUB 94 [.ref 8, .ref (10 + (m (276 + k.toNat) 3).toNat), .ref (10 + (m (276 + k.toNat) 2).toNat)] [] c90_91 rfl rfl rfl rfl rfl (ycanO km80 ko8) (t80_256 hT (by omega) (fa10 (by omega)) (fun _ => fz10 (by omega)) (fa10 (by omega)) (fun _ => fz10 (by omega)) (by omega)) (fun mq4443 nq4443 hq4443 => ?_)
    obtain ⟨rfl, hTq4443, hFq4443⟩ := hq4443
    have hF4445 := hF.tr hFq4443 (wTe_wFx (by omega))
    refine y_goto 134 c90_94 rfl ?_
    exact y_retU c90_134 ⟨rfl, hTq4443, hF4445, (hG.fr (by omega) hn (Fr.rf.tr hFq4443 (wTe_wFy (by omega))))⟩
  by_cases hk4446 : m (276 + k.toNat) 0 = 3
  · refine y_top 3 hk4446 ?_
    refine y_tsw 113 c90_4 (by decide) (by decide) rfl rfl ?_
    refine y_aload 114 c90_113 rfl rfl rfl ?_
    refine y_aload 115 c90_114 rfl rfl rfl ?_
    have tb4448 := hT.atp 8 4 ((-1)) 1 rfl
    have tb4449 := hT.atp 256 16 0 40 rfl
    have tb4450 := hT.atp 256 10 0 10 rfl
    have tb4451 := hT.atp (276 + k.toNat) 2 ((-1)) 47 (ft276_2 (by omega))
    have tb4452 := hT.atp (276 + k.toNat) 3 ((-1)) 47 (ft276_3 (by omega))
    have tb4453 := hT.atp (276 + k.toNat) 6 ((-1)) 11 (ft276_6 (by omega))
    have tb4454 := hT.atp (276 + k.toNat) 8 0 2 (ft276_8 (by omega))
    have tb4455 := hT.atp (276 + k.toNat) 9 ((-1)) 47 (ft276_9 (by omega))
    have tb4456 := hT.atp (276 + k.toNat) 10 ((-1)) 47 (ft276_10 (by omega))
    refine y_callUB 118 [.ref 8, .ref (276 + k.toNat)] [] c90_115 rfl rfl rfl rfl rfl (ycanO km85 ko8) (t85_256 (k := k) hT (by omega) (by omega) (by omega) (by omega) (by omega)) (fun mq4447 nq4447 hq4447 => ?_)
    obtain ⟨rfl, hTq4447, hFq4447⟩ := hq4447
    have hF4457 := hF.tr hFq4447 wFy_wFx
    refine y_goto 134 c90_118 rfl ?_
    exact y_retU c90_134 ⟨rfl, hTq4447, hF4457, (hG.fr (by omega) hn hFq4447)⟩
  by_cases hk4458 : m (276 + k.toNat) 0 = 4
  · refine y_top 4 hk4458 ?_
    refine y_tsw 121 c90_4 (by decide) (by decide) rfl rfl ?_
    refine y_aload 122 c90_121 rfl rfl rfl ?_
    refine y_aload 123 c90_122 rfl rfl rfl ?_
    have tb4460 := hT.atp 8 4 ((-1)) 1 rfl
    have tb4461 := hT.atp 256 16 0 40 rfl
    have tb4462 := hT.atp 256 10 0 10 rfl
    have tb4463 := hT.atp (276 + k.toNat) 2 ((-1)) 47 (ft276_2 (by omega))
    have tb4464 := hT.atp (276 + k.toNat) 3 ((-1)) 47 (ft276_3 (by omega))
    have tb4465 := hT.atp (276 + k.toNat) 6 ((-1)) 11 (ft276_6 (by omega))
    have tb4466 := hT.atp (276 + k.toNat) 8 0 2 (ft276_8 (by omega))
    have tb4467 := hT.atp (276 + k.toNat) 9 ((-1)) 47 (ft276_9 (by omega))
    have tb4468 := hT.atp (276 + k.toNat) 10 ((-1)) 47 (ft276_10 (by omega))
    refine y_callUB 126 [.ref 8, .ref (276 + k.toNat)] [] c90_123 rfl rfl rfl rfl rfl (ycanO km86 ko8) (t86_256 (k := k) hT (by omega) (by omega) (by omega) (by omega) hn (hin (by omega)) h0 hG) (fun mq4459 nq4459 hq4459 => ?_)
    obtain ⟨rfl, hTq4459, hFq4459, hGq4459⟩ := hq4459
    have hF4469 := hF.tr hFq4459 (fun _ _ e => e)
    refine y_aload 127 c90_126 rfl rfl rfl ?_
    refine y_aload 128 c90_127 rfl rfl rfl ?_
    have es4471 : mq4459 8 4 = m 8 4 := (hFq4459 8 4 rfl)
    have es4472 : mq4459 256 16 = m 256 16 := (hFq4459 256 16 rfl)
    have es4473 : mq4459 256 10 = m 256 10 := (hFq4459 256 10 rfl)
    have es4474 : mq4459 (276 + k.toNat) 0 = m (276 + k.toNat) 0 := (hFq4459 (276 + k.toNat) 0 (wFx_h (by omega)))
    have es4475 : mq4459 (276 + k.toNat) 2 = m (276 + k.toNat) 2 := (hFq4459 (276 + k.toNat) 2 (wFx_h (by omega)))
    have es4476 : mq4459 (276 + k.toNat) 3 = m (276 + k.toNat) 3 := (hFq4459 (276 + k.toNat) 3 (wFx_h (by omega)))
    have es4477 : mq4459 (276 + k.toNat) 6 = m (276 + k.toNat) 6 := (hFq4459 (276 + k.toNat) 6 (wFx_h (by omega)))
    have es4478 : mq4459 (276 + k.toNat) 8 = m (276 + k.toNat) 8 := (hFq4459 (276 + k.toNat) 8 (wFx_h (by omega)))
    have es4479 : mq4459 (276 + k.toNat) 9 = m (276 + k.toNat) 9 := (hFq4459 (276 + k.toNat) 9 (wFx_h (by omega)))
    have es4480 : mq4459 (276 + k.toNat) 10 = m (276 + k.toNat) 10 := (hFq4459 (276 + k.toNat) 10 (wFx_h (by omega)))
    refine y_callUB 131 [.ref 8, .ref (276 + k.toNat)] [] c90_128 rfl rfl rfl rfl rfl (ycanO km89 ko8) (t89_256 (k := k) hTq4459 (by omega) (by omega) (by omega) (by omega) (by omega) (hM.fr (fun k hk => hFq4459 _ _ (wFx_h (by omega))) (fun k hk => hFq4459 _ _ (wFx_h (by omega)))) (by omega) (by omega) hGq4459) (fun mq4470 nq4470 hq4470 => ?_)
    obtain ⟨rfl, hTq4470, hFq4470⟩ := hq4470
    have hF4481 := hF4469.tr hFq4470 wFy_wFx
    refine y_goto 134 c90_131 rfl ?_
    exact y_retU c90_134 ⟨rfl, hTq4470, hF4481, (hGq4459.fr (by omega) (fun j hj => by rw [hFq4459 256 16 rfl] at hj; rw [hFq4459 _ 6 (wFx_h (by omega))]; exact hn j hj) hFq4470)⟩
  by_cases hk4482 : m (276 + k.toNat) 0 = 5
  · refine y_top 5 hk4482 ?_
    refine y_tsw 52 c90_4 (by decide) (by decide) rfl rfl ?_
    refine y_aload 53 c90_52 rfl rfl rfl ?_
    refine y_aload 54 c90_53 rfl rfl rfl ?_
    refine y_getR 57 c90_54 rfl kf8_0 ?_
    refine y_aload 58 c90_57 rfl rfl rfl ?_
    refine y_getX 61 (m (276 + k.toNat) 2) c90_58 rfl (ff276_2 (by omega)) rfl ?_
    have tb4483 := hT.atp (276 + k.toNat) 2 ((-1)) 47 (ft276_2 (by omega))
    refine y_aaload 62 c90_61 rfl kr9 (by omega) ?_
    refine y_aload 63 c90_62 rfl rfl rfl ?_
    refine y_getX 66 (m (276 + k.toNat) 6) c90_63 rfl (ff276_6 (by omega)) rfl ?_
    have tb4484 := hT.atp (276 + k.toNat) 6 ((-1)) 11 (ft276_6 (by omega))
    refine y_callUB 69 [.ref 8, .ref (10 + (m (276 + k.toNat) 2).toNat), yI (m (276 + k.toNat) 6)] [] c90_66 rfl rfl rfl rfl rfl (ycanO km79 ko8) (t79 hT (fa10 (by omega)) (fun _ => fz10 (by omega)) (by omega) (by omega)) (fun mq4485 nq4485 hq4485 => ?_)
    obtain ⟨rfl, hTq4485, hFq4485, hq4485⟩ := hq4485
    have hF4486 := hF.tr hFq4485 (wTe_wFx (by omega))
    refine y_goto 134 c90_69 rfl ?_
    exact y_retU c90_134 ⟨rfl, hTq4485, hF4486, (hG.fr (by omega) hn (Fr.rf.tr hFq4485 (wTe_wFy (by omega))))⟩
  by_cases hk4487 : m (276 + k.toNat) 0 = 6
  · refine y_top 6 hk4487 ?_
    refine y_tsw 134 c90_4 (by decide) (by decide) rfl rfl ?_
    exact y_retU c90_134 ⟨rfl, hT, hF, hG⟩
  by_cases hk4488 : m (276 + k.toNat) 0 = 7
  · refine y_top 7 hk4488 ?_
    refine y_tsw 97 c90_4 (by decide) (by decide) rfl rfl ?_
    refine y_aload 98 c90_97 rfl rfl rfl ?_
    refine y_aload 99 c90_98 rfl rfl rfl ?_
    have tb4490 := hT.atp 8 4 ((-1)) 1 rfl
    have tb4491 := hT.atp 256 16 0 40 rfl
    have tb4492 := hT.atp 256 10 0 10 rfl
    have tb4493 := hT.atp (276 + k.toNat) 2 ((-1)) 47 (ft276_2 (by omega))
    have tb4494 := hT.atp (276 + k.toNat) 3 ((-1)) 47 (ft276_3 (by omega))
    have tb4495 := hT.atp (276 + k.toNat) 6 ((-1)) 11 (ft276_6 (by omega))
    have tb4496 := hT.atp (276 + k.toNat) 8 0 2 (ft276_8 (by omega))
    have tb4497 := hT.atp (276 + k.toNat) 9 ((-1)) 47 (ft276_9 (by omega))
    have tb4498 := hT.atp (276 + k.toNat) 10 ((-1)) 47 (ft276_10 (by omega))
    refine y_callUB 102 [.ref 8, .ref (276 + k.toNat)] [] c90_99 rfl rfl rfl rfl rfl (ycanO km82 ko8) (t82_256 (k := k) hT (by omega) (by omega) (by omega) (by omega)) (fun mq4489 nq4489 hq4489 => ?_)
    obtain ⟨rfl, hTq4489, hFq4489⟩ := hq4489
    have hF4499 := hF.tr hFq4489 wFy_wFx
    refine y_goto 134 c90_102 rfl ?_
    exact y_retU c90_134 ⟨rfl, hTq4489, hF4499, (hG.fr (by omega) hn hFq4489)⟩
  by_cases hk4500 : m (276 + k.toNat) 0 = 8
  · refine y_top 8 hk4500 ?_
    refine y_tsw 72 c90_4 (by decide) (by decide) rfl rfl ?_
    refine y_aload 73 c90_72 rfl rfl rfl ?_
    refine y_aload 74 c90_73 rfl rfl rfl ?_
    refine y_getR 77 c90_74 rfl kf8_0 ?_
    refine y_aload 78 c90_77 rfl rfl rfl ?_
    refine y_getX 81 (m (276 + k.toNat) 3) c90_78 rfl (ff276_3 (by omega)) rfl ?_
    have tb4501 := hT.atp (276 + k.toNat) 3 ((-1)) 47 (ft276_3 (by omega))
    refine y_aaload 82 c90_81 rfl kr9 (by omega) ?_
    refine y_aload 83 c90_82 rfl rfl rfl ?_
    refine y_getR 86 c90_83 rfl kf8_0 ?_
    refine y_aload 87 c90_86 rfl rfl rfl ?_
    refine y_getX 90 (m (276 + k.toNat) 2) c90_87 rfl (ff276_2 (by omega)) rfl ?_
    have tb4502 := hT.atp (276 + k.toNat) 2 ((-1)) 47 (ft276_2 (by omega))
    refine y_aaload 91 c90_90 rfl kr9 (by omega) ?_
    have tb4504 := hT.atp 8 4 ((-1)) 1 rfl
    refine y_callUB 94 [.ref 8, .ref (10 + (m (276 + k.toNat) 3).toNat), .ref (10 + (m (276 + k.toNat) 2).toNat)] [] c90_91 rfl rfl rfl rfl rfl (ycanO km80 ko8) (t80_256 hT (by omega) (fa10 (by omega)) (fun _ => fz10 (by omega)) (fa10 (by omega)) (fun _ => fz10 (by omega)) (by omega)) (fun mq4503 nq4503 hq4503 => ?_)
    obtain ⟨rfl, hTq4503, hFq4503⟩ := hq4503
    have hF4505 := hF.tr hFq4503 (wTe_wFx (by omega))
    refine y_goto 134 c90_94 rfl ?_
    exact y_retU c90_134 ⟨rfl, hTq4503, hF4505, (hG.fr (by omega) hn (Fr.rf.tr hFq4503 (wTe_wFy (by omega))))⟩
  by_cases hk4506 : m (276 + k.toNat) 0 = 9
  · refine y_top 9 hk4506 ?_
    refine y_tsw 105 c90_4 (by decide) (by decide) rfl rfl ?_
    refine y_aload 106 c90_105 rfl rfl rfl ?_
    refine y_aload 107 c90_106 rfl rfl rfl ?_
    have tb4508 := hT.atp 8 4 ((-1)) 1 rfl
    have tb4509 := hT.atp 256 16 0 40 rfl
    have tb4510 := hT.atp 256 10 0 10 rfl
    have tb4511 := hT.atp (276 + k.toNat) 2 ((-1)) 47 (ft276_2 (by omega))
    have tb4512 := hT.atp (276 + k.toNat) 3 ((-1)) 47 (ft276_3 (by omega))
    have tb4513 := hT.atp (276 + k.toNat) 6 ((-1)) 11 (ft276_6 (by omega))
    have tb4514 := hT.atp (276 + k.toNat) 8 0 2 (ft276_8 (by omega))
    have tb4515 := hT.atp (276 + k.toNat) 9 ((-1)) 47 (ft276_9 (by omega))
    have tb4516 := hT.atp (276 + k.toNat) 10 ((-1)) 47 (ft276_10 (by omega))
    refine y_callUB 110 [.ref 8, .ref (276 + k.toNat)] [] c90_107 rfl rfl rfl rfl rfl (ycanO km84 ko8) (t84_256 (k := k) hT (by omega) (by omega) (by omega) (by omega) (by omega)) (fun mq4507 nq4507 hq4507 => ?_)
    obtain ⟨rfl, hTq4507, hFq4507⟩ := hq4507
    have hF4517 := hF.tr hFq4507 wFy_wFx
    refine y_goto 134 c90_110 rfl ?_
    exact y_retU c90_134 ⟨rfl, hTq4507, hF4517, (hG.fr (by omega) hn hFq4507)⟩
  refine y_tswd 134 c90_4 (by omega) (by omega) rfl ?_
  exact y_retU c90_134 ⟨rfl, hT, hF, hG⟩
def wFd8 (a q : Nat) : Bool := (a == 8 && (q == 4 || q == 5 || q == 6)) || decide (9 ≤ a ∧ a < 169)
theorem wFx_wFd8 : ∀ a q, wFx a q = true → wFd8 a q = true := by
  intro a q h
  simp [wFx] at h
  simp [wFd8]
  omega
theorem wFd8_10 {k q : Nat} (h : k < 48) : wFd8 (10 + k) q = true := by
  simp [wFd8]
  omega
theorem wFd8_h {a q : Nat} (h : 169 ≤ a) : wFd8 a q = false := by
  cases e : wFd8 a q with
  | false => rfl
  | true => simp [wFd8] at e <;> omega
theorem GO.n8 {A B S : Nat} {m : yM} {q : Nat} {v : Int} (h : GO A B S m) (hA : 169 ≤ A ∧ 169 ≤ B ∧ 169 ≤ S := by decide) : GO A B S (yup m 8 q v) := by
  intro k hk h4 i hi hne
  rw [yup_na (by omega)] at hk hi h4
  rw [yup_na (by omega), yup_na (by omega)] at hne
  rw [yup_na (by omega), yup_na (by omega)]
  exact h k hk h4 i hi hne
set_option maxRecDepth 100000 in
theorem t91b_256 {L : Nat} {xs : Nat → Int32} {d nn : Nat} {m : yM} (hT : Ty gT m) (hM : MP 266 m) (hR : RG 276 265 m 0 (m 256 16) 0 (m 256 12) 0 (m 256 13)) (hL : NL 276 m 0 (m 256 16)) {r : Int} (hr : 0 ≤ r ∧ r < 2000) (ho : ∀ (x2 x3 : Option Value) (mi : yM), Ty gT mi → Fr wFd8 m mi → mi 8 5 = r + 1 → mi 8 4 = 0 → GO 256 266 276 mi → YW (gZ L xs) 91 (d + 5) 65 [some (.ref 8), some (.ref 256), x2, x3] [] mi nn (qU (fun m' n' => n' = nn ∧ Ty gT m' ∧ Fr wFd8 m m' ∧ m' 8 4 = 0))) : ∀ (km : Nat) (i : Int) (x3 : Option Value) (mi : yM), m 256 16 - i = km → 0 ≤ i ∧ i ≤ m 256 16 → Ty gT mi → Fr wFd8 m mi → mi 8 5 = r → mi 8 4 = 0 → GO 256 266 276 mi → YW (gZ L xs) 91 (d + 5) 88 [some (.ref 8), some (.ref 256), some (yI i), x3] [] mi nn (qU (fun m' n' => n' = nn ∧ Ty gT m' ∧ Fr wFd8 m m' ∧ m' 8 4 = 0)) := by
  intro km
  induction km using Nat.strongRecOn with
  | ind km ih =>
    intro i x3 mi hk hi hTi hFi h5 h4 hGi
    have tb := hT.atp 256 16 0 40 rfl
    refine y_iload 89 c91_88 rfl rfl ?_
    refine y_aload 90 c91_89 rfl rfl rfl ?_
    refine y_getS 93 (B := 256) c91_90 rfl kf8_4 (by first | rfl | (rw [show mi 8 4 = 0 from by have e : mi 8 4 = mi 8 4 := rfl; omega]; rfl)) ?_
    refine y_getX 96 (m 256 16) c91_93 rfl kf256_16 (hFi 256 16 rfl) ?_
    refine y_icmp 136 99 c91_96 rfl rfl (yc_ge (by omega) (by omega)) (fun hb4518 => ?_) (fun hb4518 => ?_)
    · refine y_aload 137 c91_136 rfl rfl rfl ?_
      refine y_dup 138 c91_137 rfl rfl ?_
      refine y_getX 141 (mi 8 5) c91_138 rfl kf8_5 rfl ?_
      have tb4519 := hTi.atp 8 5 0 2000 rfl
      refine y_iconst 142 c91_141 rfl ?_
      refine y_iadd 143 c91_142 rfl ?_
      refine y_putI 146 c91_143 rfl kf8_5 (y_fit0 _) ?_
      have hT4520 := hTi.up 8 5 ((mi 8 5) + 1) 0 2000 rfl (by omega)
      have hF4521 := hFi.up 8 5 ((mi 8 5) + 1) rfl
      refine y_goto 65 c91_146 rfl ?_
      have es4522 : (yup mi 8 5 ((mi 8 5) + 1)) 8 5 = (mi 8 5) + 1 := rfl
      have es4523 : (yup mi 8 5 ((mi 8 5) + 1)) 8 4 = mi 8 4 := rfl
      have tb4524 := hTi.atp 8 4 ((-1)) 1 rfl
      refine ho _ _ _ hT4520 hF4521 (by omega) (by omega) ?_
      exact GO.n8 hGi
    · refine y_aload 100 c91_99 rfl rfl rfl ?_
      refine y_getS 103 (B := 256) c91_100 rfl kf8_4 (by first | rfl | (rw [show mi 8 4 = 0 from by have e : mi 8 4 = mi 8 4 := rfl; omega]; rfl)) ?_
      refine y_getR 106 c91_103 rfl kf256_6 ?_
      refine y_iload 107 c91_106 rfl rfl ?_
      refine y_aaload 108 c91_107 rfl kr263 (by omega) ?_
      refine y_astore 109 c91_108 rfl rfl rfl ?_
      refine y_aload 110 c91_109 rfl rfl rfl ?_
      refine y_aload 111 c91_110 rfl rfl rfl ?_
      refine y_getR 114 c91_111 rfl kf8_2 ?_
      refine y_aload 115 c91_114 rfl rfl rfl ?_
      refine y_getX 118 (m (276 + i.toNat) 1) c91_115 rfl (ff276_1 (by omega)) (hFi (276 + i.toNat) 1 (wFd8_h (by omega))) ?_
      have tb4525 := hT.atp (276 + i.toNat) 1 0 9 (ft276_1 (by omega))
      refine y_iaT 119 ((-2147483648)) 2147483647 c91_118 rfl ka71 (by omega) hTi rfl (fun v4526 hv4526 gv4526 => ?_)
      refine y_callP 122 [.ref 8, yI v4526] [] c91_119 rfl rfl rfl rfl rfl (ycanO km78 ko8) (t78 hTi (by omega)) (fun r4527 hr4527 => ?_)
      refine y_if 130 125 c91_122 rfl rfl (yz_eq (by omega)) (fun hb4528 => ?_) (fun hb4528 => ?_)
      · refine y_iinc 133 c91_130 rfl rfl rfl ?_
        refine y_goto 88 c91_133 rfl ?_
        exact ih (m 256 16 - (i + 1) : Int).toNat (by omega) (i + 1) _  _ (by omega) (by omega) hTi hFi (by have e : mi 8 5 = mi 8 5 := rfl; omega) (by have e : mi 8 4 = mi 8 4 := rfl; omega) hGi
      · refine y_aload 126 c91_125 rfl rfl rfl ?_
        refine y_aload 127 c91_126 rfl rfl rfl ?_
        have tb4530 := hTi.atp 8 4 ((-1)) 1 rfl
        have es4531 : mi 256 16 = m 256 16 := (hFi 256 16 rfl)
        have eq4529_16 := hFi 256 16 rfl
        have eq4529_12 := hFi 256 12 rfl
        have eq4529_13 := hFi 256 13 rfl
        refine y_callUB 130 [.ref 8, .ref (276 + i.toNat)] [] c91_127 rfl rfl rfl rfl rfl (ycanO km90 ko8) (t90_256 (k := i) hTi (by omega) (by omega) (by omega) (hM.fr (fun k hk => hFi _ _ (wFd8_h (by omega))) (fun k hk => hFi _ _ (wFd8_h (by omega)))) (by rw [eq4529_16, eq4529_12, eq4529_13]; exact (hR.fr (m' := mi) (c3 := m 256 12) (fun j _ _ q _ => hFi _ _ (wFd8_h (by omega))) (fun z _ _ => hFi 265 z rfl) (Int.le_refl _))) (by rw [eq4529_16]; exact hL.fr (fun j _ _ => ⟨hFi _ _ (wFd8_h (by omega)), hFi _ _ (wFd8_h (by omega))⟩)) hGi) (fun mq4529 nq4529 hq4529 => ?_)
        obtain ⟨rfl, hTq4529, hFq4529, hGq4529⟩ := hq4529
        have hF4532 := hFi.tr hFq4529 wFx_wFd8
        refine y_iinc 133 c91_130 rfl rfl rfl ?_
        refine y_goto 88 c91_133 rfl ?_
        exact ih (m 256 16 - (i + 1) : Int).toNat (by omega) (i + 1) _  _ (by omega) (by omega) hTq4529 hF4532 (by have e : mq4529 8 5 = mi 8 5 := (hFq4529 8 5 rfl); omega) (by have e : mq4529 8 4 = mi 8 4 := (hFq4529 8 4 rfl); omega) hGq4529
set_option maxRecDepth 100000 in
theorem t91a_256 {L : Nat} {xs : Nat → Int32} {d nn : Nat} {m : yM} (hT : Ty gT m) (hM : MP 266 m) (hR : RG 276 265 m 0 (m 256 16) 0 (m 256 12) 0 (m 256 13)) (hL : NL 276 m 0 (m 256 16)) : ∀ (k : Nat) (x2 x3 : Option Value) (mi : yM), 2000 - mi 8 5 = k → Ty gT mi → Fr wFd8 m mi → mi 8 4 = 0 → GO 256 266 276 mi → YW (gZ L xs) 91 (d + 5) 65 [some (.ref 8), some (.ref 256), x2, x3] [] mi nn (qU (fun m' n' => n' = nn ∧ Ty gT m' ∧ Fr wFd8 m m' ∧ m' 8 4 = 0)) := by
  intro k
  induction k using Nat.strongRecOn with
  | ind k ih =>
    intro x2 x3 mi hk hTi hFi h4 hGi
    have tb5 := hTi.atp 8 5 0 2000 rfl
    have tbm := hT.atp 256 16 0 40 rfl
    refine y_aload 66 c91_65 rfl rfl rfl ?_
    refine y_getX 69 (mi 8 5) c91_66 rfl kf8_5 rfl ?_
    refine y_iconst 72 c91_69 rfl ?_
    refine y_icmp 149 75 c91_72 rfl rfl (yc_ge (by omega) (by omega)) (fun hb4533 => ?_) (fun hb4533 => ?_)
    · exact y_retU c91_149 ⟨rfl, hTi, hFi, h4⟩
    · refine y_aload 76 c91_75 rfl rfl rfl ?_
      refine y_getX 79 (mi 8 5) c91_76 rfl kf8_5 rfl ?_
      refine y_aload 80 c91_79 rfl rfl rfl ?_
      refine y_getX 83 (mi 8 6) c91_80 rfl kf8_6 rfl ?_
      have tb4534 := hTi.atp 8 6 0 2001 rfl
      refine y_icmp 149 86 c91_83 rfl rfl (yc_ne (by omega) (by omega)) (fun hb4535 => ?_) (fun hb4535 => ?_)
      · exact y_retU c91_149 ⟨rfl, hTi, hFi, h4⟩
      · refine y_iconst 87 c91_86 rfl ?_
        refine y_istore 88 c91_87 rfl rfl ?_
        exact t91b_256 hT hM hR hL (r := mi 8 5) (by omega) (fun y2 y3 mj j1 j2 j3 j4 j5 => ih (2000 - mj 8 5).toNat (by omega) y2 y3 mj (by omega) j1 j2 j4 j5) (m 256 16 - 0).toNat 0 _ mi (by omega) (by omega) hTi hFi rfl h4 hGi
set_option maxRecDepth 100000 in
theorem t91_256 {L : Nat} {xs : Nat → Int32} {d nn : Nat} {m : yM} (hT : Ty gT m) (hM : MP 266 m) (hR : RG 276 265 m 0 (m 256 16) 0 (m 256 12) 0 (m 256 13)) (hL : NL 276 m 0 (m 256 16)) : YC (gZ L xs) (d + 5) 91 [.ref 8, .ref 256] m nn (qU (fun m' n' => n' = nn ∧ Ty gT m' ∧ Fr wFd8 m m' ∧ m' 8 4 = 0)) := by
  have tb16 := hT.atp 256 16 0 40 rfl
  refine YC.mkB [some (.ref 8), some (.ref 256), none, none] kn91 rfl rfl ?_
  have hF : Fr wFd8 m m := Fr.rf
  refine y_aload 1 c91_0 rfl rfl rfl ?_
  refine y_aload 2 c91_1 rfl rfl rfl ?_
  refine y_putS 5 0 c91_2 rfl kf8_4 rfl ?_
  have hT4536 := hT.up 8 4 0 ((-1)) 1 rfl (by omega)
  have hF4537 := hF.up 8 4 0 rfl
  refine y_aload 6 c91_5 rfl rfl rfl ?_
  refine y_callUB 9 [.ref 8] [] c91_6 rfl rfl rfl rfl rfl (ycanO km77 ko8) (t77 hT4536) (fun mq4538 nq4538 hq4538 => ?_)
  obtain ⟨rfl, hTq4538, hFq4538, hq4538, hzq4538⟩ := hq4538
  have hF4539 := hF4537.tr hFq4538 wFx_wFd8
  refine y_aload 10 c91_9 rfl rfl rfl ?_
  refine y_getS 13 (B := 256) c91_10 rfl kf8_4 (by first | rfl | (rw [show mq4538 8 4 = 0 from by have e : mq4538 8 4 = 0 := ((hFq4538 8 4 rfl).trans (yup_eq _ _ _ _)); omega]; rfl)) ?_
  refine y_getX 16 (m 256 17) c91_13 rfl kf256_17 ((hFq4538 256 17 rfl).trans (yup_na (by decide))) ?_
  have tb4540 := hT.atp 256 17 ((-1)) 9 rfl
  refine y_iconst 17 c91_16 rfl ?_
  refine y_icmp 21 20 c91_17 rfl rfl (yc_ne (by omega) (by omega)) (fun hb4541 => ?_) (fun hb4541 => ?_)
  · refine y_aload 22 c91_21 rfl rfl rfl ?_
    refine y_getR 25 c91_22 rfl kf8_2 ?_
    refine y_aload 26 c91_25 rfl rfl rfl ?_
    refine y_getS 29 (B := 256) c91_26 rfl kf8_4 (by first | rfl | (rw [show mq4538 8 4 = 0 from by have e : mq4538 8 4 = 0 := ((hFq4538 8 4 rfl).trans (yup_eq _ _ _ _)); omega]; rfl)) ?_
    refine y_getX 32 (m 256 17) c91_29 rfl kf256_17 ((hFq4538 256 17 rfl).trans (yup_na (by decide))) ?_
    refine y_iconst 33 c91_32 rfl ?_
    refine y_iastore 34 c91_33 rfl ka71 (by omega) (y_nar0 _) ?_
    have hT4542 := hTq4538.up 71 ((m 256 17).toNat) 0 ((-2147483648)) 2147483647 rfl (by omega)
    have hF4543 := hF4539.up 71 ((m 256 17).toNat) 0 rfl
    refine y_aload 35 c91_34 rfl rfl rfl ?_
    refine y_getR 38 c91_35 rfl kf8_0 ?_
    refine y_aload 39 c91_38 rfl rfl rfl ?_
    refine y_getS 42 (B := 256) c91_39 rfl kf8_4 (by first | rfl | (rw [show (yup mq4538 71 ((m 256 17).toNat) 0) 8 4 = 0 from by have e : (yup mq4538 71 ((m 256 17).toNat) 0) 8 4 = 0 := ((yup_na (by decide)).trans ((hFq4538 8 4 rfl).trans (yup_eq _ _ _ _))); omega]; rfl)) ?_
    refine y_getR 45 c91_42 rfl kf256_5 ?_
    refine y_aload 46 c91_45 rfl rfl rfl ?_
    refine y_getS 49 (B := 256) c91_46 rfl kf8_4 (by first | rfl | (rw [show (yup mq4538 71 ((m 256 17).toNat) 0) 8 4 = 0 from by have e : (yup mq4538 71 ((m 256 17).toNat) 0) 8 4 = 0 := ((yup_na (by decide)).trans ((hFq4538 8 4 rfl).trans (yup_eq _ _ _ _))); omega]; rfl)) ?_
    refine y_getX 52 (m 256 17) c91_49 rfl kf256_17 ((yup_na (by decide)).trans ((hFq4538 256 17 rfl).trans (yup_na (by decide)))) ?_
    refine y_aaload 53 c91_52 rfl kr262 (by omega) ?_
    refine y_callP 56 [.ref (266 + (m 256 17).toNat)] [.ref 9] c91_53 rfl rfl rfl rfl rfl (ycanO km57 (fo266 (by omega))) (t57_256 hT4542 (by omega)) (fun r4544 hr4544 => ?_)
    refine y_aaload 57 c91_56 rfl kr9 (by omega) ?_
    refine y_iconst 58 c91_57 rfl ?_
    refine y_iconst 59 c91_58 rfl ?_
    refine y_iastore 60 c91_59 rfl (fa10 (by omega)) (by omega) (y_nar0 _) ?_
    have hT4545 := hT4542.up (10 + r4544.toNat) ((0 : Int).toNat) 0 ((-2147483648)) 2147483647 (fz10 (by omega)) (by omega)
    have hF4546 := hF4543.up (10 + r4544.toNat) ((0 : Int).toNat) 0 (wFd8_10 (by omega))
    refine y_aload 61 c91_60 rfl rfl rfl ?_
    refine y_iconst 62 c91_61 rfl ?_
    refine y_putI 65 c91_62 rfl kf8_5 (y_fit0 _) ?_
    have hT4547 := hT4545.up 8 5 0 0 2000 rfl (by omega)
    have hF4548 := hF4546.up 8 5 0 rfl
    have es4549 : (yup (yup (yup mq4538 71 ((m 256 17).toNat) 0) (10 + r4544.toNat) ((0 : Int).toNat) 0) 8 5 0) 8 5 = 0 := rfl
    have es4550 : (yup (yup (yup mq4538 71 ((m 256 17).toNat) 0) (10 + r4544.toNat) ((0 : Int).toNat) 0) 8 5 0) 8 4 = 0 := ((yup_nk (by decide)).trans ((yup_na (by omega)).trans ((yup_na (by decide)).trans ((hFq4538 8 4 rfl).trans (yup_eq _ _ _ _)))))
    have hg : GO 256 266 276 (yup (yup (yup mq4538 71 ((m 256 17).toNat) 0) (10 + r4544.toNat) ((0 : Int).toNat) 0) 8 5 0) := by
      intro k hk h4 i hi hne
      exfalso
      apply hne
      rw [hF4548 _ _ (wFd8_h (by omega))] at hk hi
      rw [hF4548 _ 6 (wFd8_h (by omega))]
      have t6 := hT.atp (276 + k) 6 (-1) 11 (ft276_6 (by omega))
      have t10 := hT.atp 256 10 0 10 rfl
      exact ((yup_na (by omega)).trans ((yup_na (by omega)).trans ((yup_na (by omega)).trans (hzq4538 _ i (by omega) (by omega)))))
    exact t91a_256 hT hM hR hL 2000 none none _ (by omega) hT4547 hF4548 (by omega) hg
  · have es4551 : mq4538 8 4 = 0 := ((hFq4538 8 4 rfl).trans (yup_eq _ _ _ _))
    exact y_retU c91_20 ⟨rfl, hTq4538, hF4539, by omega⟩
set_option maxRecDepth 100000 in
theorem t93b_256 {L : Nat} {xs : Nat → Int32} {d nn : Nat} {m : yM} (hT : Ty gT m) (hp : m 8 4 = 0) {v : Int} (hv : 0 ≤ v ∧ v < m 256 15) (ho : (∀ (f : Int) (x3 : Option Value), 0 ≤ f ∧ f ≤ 12 * (v + 1) → YW (gZ L xs) 93 d 4 [some (.ref 8), some (yI f), some (yI (v + 1)), x3] [] m nn (qP m nn (fun r => -2147483648 ≤ r ∧ r < 2147483648)))) : ∀ (km : Nat) (f : Int) (i : Int), m 256 14 - i = km → 0 ≤ i ∧ i ≤ m 256 14 → 0 ≤ f ∧ f ≤ 12 * v + i → YW (gZ L xs) 93 d 17 [some (.ref 8), some (yI f), some (yI v), some (yI i)] [] m nn (qP m nn (fun r => -2147483648 ≤ r ∧ r < 2147483648)) := by
  intro km
  induction km using Nat.strongRecOn with
  | ind km ih =>
    intro f i hk hi hf
    have tb := hT.atp 256 14 0 12 rfl
    have tb2 := hT.atp 256 15 0 48 rfl
    refine y_iload 18 c93_17 rfl rfl ?_
    refine y_aload 19 c93_18 rfl rfl rfl ?_
    refine y_getS 22 (B := 256) c93_19 rfl kf8_4 (by first | rfl | (rw [show m 8 4 = 0 from by have e : m 8 4 = m 8 4 := rfl; omega]; rfl)) ?_
    refine y_getX 25 (m 256 14) c93_22 rfl kf256_14 rfl ?_
    refine y_icmp 49 28 c93_25 rfl rfl (yc_ge (by omega) (by omega)) (fun hb4552 => ?_) (fun hb4552 => ?_)
    · refine y_iinc 52 c93_49 rfl rfl rfl ?_
      refine y_goto 4 c93_52 rfl ?_
      exact ho f _ (by omega)
    · refine y_aload 29 c93_28 rfl rfl rfl ?_
      refine y_getR 32 c93_29 rfl kf8_0 ?_
      refine y_iload 33 c93_32 rfl rfl ?_
      refine y_aaload 34 c93_33 rfl kr9 (by omega) ?_
      refine y_iload 35 c93_34 rfl rfl ?_
      refine y_iaT 36 ((-2147483648)) 2147483647 c93_35 rfl (fa10 (by omega)) (by omega) hT (fz10 (by omega)) (fun v4553 hv4553 gv4553 => ?_)
      refine y_iconst 37 c93_36 rfl ?_
      refine y_icmp 43 40 c93_37 rfl rfl (yc_eq (by omega) (by omega)) (fun hb4554 => ?_) (fun hb4554 => ?_)
      · refine y_iinc 46 c93_43 rfl rfl rfl ?_
        refine y_goto 17 c93_46 rfl ?_
        exact ih (m 256 14 - (i + 1) : Int).toNat (by omega) f (i + 1)   (by omega) (by omega) (by omega)
      · refine y_iinc 43 c93_40 rfl rfl rfl ?_
        refine y_iinc 46 c93_43 rfl rfl rfl ?_
        refine y_goto 17 c93_46 rfl ?_
        exact ih (m 256 14 - (i + 1) : Int).toNat (by omega) (f + 1) (i + 1)   (by omega) (by omega) (by omega)
set_option maxRecDepth 100000 in
theorem t93a_256 {L : Nat} {xs : Nat → Int32} {d nn : Nat} {m : yM} (hT : Ty gT m) (hp : m 8 4 = 0) : ∀ (km : Nat) (f : Int) (v : Int) (x3 : Option Value), m 256 15 - v = km → 0 ≤ v ∧ v ≤ m 256 15 → 0 ≤ f ∧ f ≤ 12 * v → YW (gZ L xs) 93 d 4 [some (.ref 8), some (yI f), some (yI v), x3] [] m nn (qP m nn (fun r => -2147483648 ≤ r ∧ r < 2147483648)) := by
  intro km
  induction km using Nat.strongRecOn with
  | ind km ih =>
    intro f v x3 hk hv hf
    have tb := hT.atp 256 14 0 12 rfl
    have tb2 := hT.atp 256 15 0 48 rfl
    refine y_iload 5 c93_4 rfl rfl ?_
    refine y_aload 6 c93_5 rfl rfl rfl ?_
    refine y_getS 9 (B := 256) c93_6 rfl kf8_4 (by first | rfl | (rw [show m 8 4 = 0 from by have e : m 8 4 = m 8 4 := rfl; omega]; rfl)) ?_
    refine y_getX 12 (m 256 15) c93_9 rfl kf256_15 rfl ?_
    refine y_icmp 55 15 c93_12 rfl rfl (yc_ge (by omega) (by omega)) (fun hb4555 => ?_) (fun hb4555 => ?_)
    · refine y_iload 56 c93_55 rfl rfl ?_
      exact y_retP c93_56 (y_fit0 _) (by omega)
    · refine y_iconst 16 c93_15 rfl ?_
      refine y_istore 17 c93_16 rfl rfl ?_
      exact t93b_256 hT hp (by omega) (fun f2 y3 hf2 => ih (m 256 15 - (v + 1)).toNat (by omega) f2 (v + 1) y3 (by omega) (by omega) (by omega)) (m 256 14 - 0).toNat f 0 (by omega) (by omega) (by omega)
set_option maxRecDepth 100000 in
theorem t93_256 {L : Nat} {xs : Nat → Int32} {d nn : Nat} {m : yM} (hT : Ty gT m) (hp : m 8 4 = 0) : YC (gZ L xs) d 93 [.ref 8] m nn (qP m nn (fun r => -2147483648 ≤ r ∧ r < 2147483648)) := by
  refine YC.mkB [some (.ref 8), none, none, none] kn93 rfl rfl ?_
  refine y_iconst 1 c93_0 rfl ?_
  refine y_istore 2 c93_1 rfl rfl ?_
  refine y_iconst 3 c93_2 rfl ?_
  refine y_istore 4 c93_3 rfl rfl ?_
  have tb2 := hT.atp 256 15 0 48 rfl
  exact t93a_256 hT hp (m 256 15 - 0).toNat 0 0 none (by omega) (by omega) (by omega)
