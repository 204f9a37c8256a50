section
/-! CONTRACTS: the facts. Printed by wip/whole/gen92.py -/
set_option maxRecDepth 100000 in
theorem t82a_256 {L : Nat} {xs : Nat → Int32} {d nn : Nat} {m : yM} {k : Int} (hT : Ty gT m) (hp : m 8 4 = 0) (hk : 0 ≤ k ∧ k ≤ 39) (h2 : 0 ≤ m (276 + k.toNat) 2) (h3 : 0 ≤ m (276 + k.toNat) 3) : ∀ (km : Nat) (i : Int) (mi : yM), m 256 14 - i = km → 0 ≤ i ∧ i ≤ m 256 14 → Ty gT mi → Fr wFy m mi → YW (gZ L xs) 82 (d + 2) 2 [some (.ref 8), some (.ref (276 + k.toNat)), some (yI i)] [] mi nn (qU (fun m' n' => n' = nn ∧ Ty gT m' ∧ Fr wFy m m')) := by
  intro km
  induction km using Nat.strongRecOn with
  | ind km ih =>
    intro i mi hk hi hTi hFi
    have tb := hT.atp 256 14 0 12 rfl
    refine y_iload 3 c82_2 rfl rfl ?_
    refine y_aload 4 c82_3 rfl rfl rfl ?_
    refine y_getS 7 (B := 256) c82_4 rfl kf8_4 (by first | rfl | (rw [show mi 8 4 = 0 from by have e : mi 8 4 = m 8 4 := (hFi 8 4 rfl); omega]; rfl)) ?_
    refine y_getX 10 (m 256 14) c82_7 rfl kf256_14 (hFi 256 14 rfl) ?_
    refine y_icmp 74 13 c82_10 rfl rfl (yc_ge (by omega) (by omega)) (fun hb4328 => ?_) (fun hb4328 => ?_)
    · exact y_retU c82_74 ⟨rfl, hTi, hFi⟩
    · refine y_aload 14 c82_13 rfl rfl rfl ?_
      refine y_aload 15 c82_14 rfl rfl rfl ?_
      refine y_getR 18 c82_15 rfl kf8_0 ?_
      refine y_aload 19 c82_18 rfl rfl rfl ?_
      refine y_getX 22 (m (276 + k.toNat) 3) c82_19 rfl (ff276_3 (by omega)) (hFi (276 + k.toNat) 3 (wFy_h (by omega))) ?_
      have tb4329 := hT.atp (276 + k.toNat) 3 ((-1)) 47 (ft276_3 (by omega))
      refine y_aaload 23 c82_22 rfl kr9 (by omega) ?_
      refine y_iload 24 c82_23 rfl rfl ?_
      refine y_iaT 25 ((-2147483648)) 2147483647 c82_24 rfl (fa10 (by omega)) (by omega) hTi (fz10 (by omega)) (fun v4330 hv4330 gv4330 => ?_)
      refine y_callP 28 [.ref 8, yI v4330] [] c82_25 rfl rfl rfl rfl rfl (ycanO km78 ko8) (t78 hTi (by omega)) (fun r4331 hr4331 => ?_)
      refine y_if 68 31 c82_28 rfl rfl (yz_eq (by omega)) (fun hb4332 => ?_) (fun hb4332 => ?_)
      · refine y_iinc 71 c82_68 rfl rfl rfl ?_
        refine y_goto 2 c82_71 rfl ?_
        exact ih (m 256 14 - (i + 1) : Int).toNat (by omega) (i + 1)  _ (by omega) (by omega) hTi hFi
      · refine y_aload 32 c82_31 rfl rfl rfl ?_
        refine y_getS 35 (B := 256) c82_32 rfl kf8_4 (by first | rfl | (rw [show mi 8 4 = 0 from by have e : mi 8 4 = m 8 4 := (hFi 8 4 rfl); omega]; rfl)) ?_
        refine y_aload 36 c82_35 rfl rfl rfl ?_
        refine y_getS 39 (B := 256) c82_36 rfl kf8_4 (by first | rfl | (rw [show mi 8 4 = 0 from by have e : mi 8 4 = m 8 4 := (hFi 8 4 rfl); omega]; rfl)) ?_
        refine y_getR 42 c82_39 rfl kf256_7 ?_
        refine y_iload 43 c82_42 rfl rfl ?_
        refine y_iaT 44 0 5 c82_43 rfl ka264 (by omega) hTi rfl (fun v4333 hv4333 gv4333 => ?_)
        refine y_aload 45 c82_44 rfl rfl rfl ?_
        refine y_getX 48 (m (276 + k.toNat) 7) c82_45 rfl (ff276_7 (by omega)) (hFi (276 + k.toNat) 7 (wFy_h (by omega))) ?_
        have tb4334 := hT.atp (276 + k.toNat) 7 ((-1)) 5 (ft276_7 (by omega))
        refine y_callP 51 [.ref 256, yI v4333, yI (m (276 + k.toNat) 7)] [] c82_48 rfl rfl rfl rfl rfl (ycanO km81 ko256) (t81_256 hTi (by omega) (by omega)) (fun r4335 hr4335 => ?_)
        refine y_if 68 54 c82_51 rfl rfl (yz_eq (by omega)) (fun hb4336 => ?_) (fun hb4336 => ?_)
        · refine y_iinc 71 c82_68 rfl rfl rfl ?_
          refine y_goto 2 c82_71 rfl ?_
          exact ih (m 256 14 - (i + 1) : Int).toNat (by omega) (i + 1)  _ (by omega) (by omega) hTi hFi
        · refine y_aload 55 c82_54 rfl rfl rfl ?_
          refine y_aload 56 c82_55 rfl rfl rfl ?_
          refine y_getR 59 c82_56 rfl kf8_0 ?_
          refine y_aload 60 c82_59 rfl rfl rfl ?_
          refine y_getX 63 (m (276 + k.toNat) 2) c82_60 rfl (ff276_2 (by omega)) (hFi (276 + k.toNat) 2 (wFy_h (by omega))) ?_
          have tb4337 := hT.atp (276 + k.toNat) 2 ((-1)) 47 (ft276_2 (by omega))
          refine y_aaload 64 c82_63 rfl kr9 (by omega) ?_
          refine y_iload 65 c82_64 rfl rfl ?_
          refine y_callUB 68 [.ref 8, .ref (10 + (m (276 + k.toNat) 2).toNat), yI i] [] c82_65 rfl rfl rfl rfl rfl (ycanO km79 ko8) (t79 hTi (fa10 (by omega)) (fun _ => fz10 (by omega)) (by omega) (by omega)) (fun mq4338 nq4338 hq4338 => ?_)
          obtain ⟨rfl, hTq4338, hFq4338, hq4338⟩ := hq4338
          have hF4339 := hFi.tr hFq4338 (wTe_wFy (by omega))
          refine y_iinc 71 c82_68 rfl rfl rfl ?_
          refine y_goto 2 c82_71 rfl ?_
          exact ih (m 256 14 - (i + 1) : Int).toNat (by omega) (i + 1)  _ (by omega) (by omega) hTq4338 hF4339
set_option maxRecDepth 100000 in
theorem t82_256 {L : Nat} {xs : Nat → Int32} {d nn : Nat} {m : yM} {k : Int} (hT : Ty gT m) (hp : m 8 4 = 0) (hk : 0 ≤ k ∧ k ≤ 39) (h2 : 0 ≤ m (276 + k.toNat) 2) (h3 : 0 ≤ m (276 + k.toNat) 3) : YC (gZ L xs) (d + 2) 82 [.ref 8, .ref (276 + k.toNat)] m nn (qU (fun m' n' => n' = nn ∧ Ty gT m' ∧ Fr wFy m m')) := by
  refine YC.mkB [some (.ref 8), some (.ref (276 + k.toNat)), none] kn82 rfl rfl ?_
  refine y_iconst 1 c82_0 rfl ?_
  refine y_istore 2 c82_1 rfl rfl ?_
  have tb := hT.atp 256 14 0 12 rfl
  exact t82a_256 hT hp hk h2 h3 (m 256 14 - 0).toNat 0 m (by omega) (by omega) hT Fr.rf
set_option maxRecDepth 100000 in
theorem t84a_256 {L : Nat} {xs : Nat → Int32} {d nn : Nat} {m : yM} {k : Int} (hT : Ty gT m) (hp : m 8 4 = 0) (hk : 0 ≤ k ∧ k ≤ 39) (h2 : 0 ≤ m (276 + k.toNat) 2) (h3 : 0 ≤ m (276 + k.toNat) 3) (h6 : m (276 + k.toNat) 6 ≤ 7) : ∀ (km : Nat) (i : Int) (mi : yM), m 256 14 - i = km → 0 ≤ i ∧ i ≤ m 256 14 → Ty gT mi → Fr wFy m mi → YW (gZ L xs) 84 (d + 2) 2 [some (.ref 8), some (.ref (276 + k.toNat)), some (yI i)] [] mi nn (qU (fun m' n' => n' = nn ∧ Ty gT m' ∧ Fr wFy m m')) := by
  intro km
  induction km using Nat.strongRecOn with
  | ind km ih =>
    intro i mi hk hi hTi hFi
    have tb := hT.atp 256 14 0 12 rfl
    refine y_iload 3 c84_2 rfl rfl ?_
    refine y_aload 4 c84_3 rfl rfl rfl ?_
    refine y_getS 7 (B := 256) c84_4 rfl kf8_4 (by first | rfl | (rw [show mi 8 4 = 0 from by have e : mi 8 4 = m 8 4 := (hFi 8 4 rfl); omega]; rfl)) ?_
    refine y_getX 10 (m 256 14) c84_7 rfl kf256_14 (hFi 256 14 rfl) ?_
    refine y_icmp 67 13 c84_10 rfl rfl (yc_ge (by omega) (by omega)) (fun hb4340 => ?_) (fun hb4340 => ?_)
    · exact y_retU c84_67 ⟨rfl, hTi, hFi⟩
    · refine y_aload 14 c84_13 rfl rfl rfl ?_
      refine y_aload 15 c84_14 rfl rfl rfl ?_
      refine y_getR 18 c84_15 rfl kf8_0 ?_
      refine y_aload 19 c84_18 rfl rfl rfl ?_
      refine y_getX 22 (m (276 + k.toNat) 3) c84_19 rfl (ff276_3 (by omega)) (hFi (276 + k.toNat) 3 (wFy_h (by omega))) ?_
      have tb4341 := hT.atp (276 + k.toNat) 3 ((-1)) 47 (ft276_3 (by omega))
      refine y_aaload 23 c84_22 rfl kr9 (by omega) ?_
      refine y_iload 24 c84_23 rfl rfl ?_
      refine y_iaT 25 ((-2147483648)) 2147483647 c84_24 rfl (fa10 (by omega)) (by omega) hTi (fz10 (by omega)) (fun v4342 hv4342 gv4342 => ?_)
      refine y_callP 28 [.ref 8, yI v4342] [] c84_25 rfl rfl rfl rfl rfl (ycanO km78 ko8) (t78 hTi (by omega)) (fun r4343 hr4343 => ?_)
      refine y_if 61 31 c84_28 rfl rfl (yz_eq (by omega)) (fun hb4344 => ?_) (fun hb4344 => ?_)
      · refine y_iinc 64 c84_61 rfl rfl rfl ?_
        refine y_goto 2 c84_64 rfl ?_
        exact ih (m 256 14 - (i + 1) : Int).toNat (by omega) (i + 1)  _ (by omega) (by omega) hTi hFi
      · refine y_aload 32 c84_31 rfl rfl rfl ?_
        refine y_getX 35 (m (276 + k.toNat) 6) c84_32 rfl (ff276_6 (by omega)) (hFi (276 + k.toNat) 6 (wFy_h (by omega))) ?_
        have tb4345 := hT.atp (276 + k.toNat) 6 ((-1)) 11 (ft276_6 (by omega))
        refine y_iconst 36 c84_35 rfl ?_
        refine y_icmp 61 39 c84_36 rfl rfl (yc_eq (by omega) (by omega)) (fun hb4346 => ?_) (fun hb4346 => ?_)
        · refine y_iinc 64 c84_61 rfl rfl rfl ?_
          refine y_goto 2 c84_64 rfl ?_
          exact ih (m 256 14 - (i + 1) : Int).toNat (by omega) (i + 1)  _ (by omega) (by omega) hTi hFi
        · refine y_aload 40 c84_39 rfl rfl rfl ?_
          refine y_aload 41 c84_40 rfl rfl rfl ?_
          refine y_iload 42 c84_41 rfl rfl ?_
          refine y_aload 43 c84_42 rfl rfl rfl ?_
          refine y_getX 46 (m (276 + k.toNat) 6) c84_43 rfl (ff276_6 (by omega)) (hFi (276 + k.toNat) 6 (wFy_h (by omega))) ?_
          refine y_callAB 49 [.ref 8, yI i, yI (m (276 + k.toNat) 6)] [.ref 8] c84_46 rfl rfl rfl rfl rfl (ycanO km83 ko8) (t83 (by omega) (by omega)) (fun Rq4347 mq4347 nq4347 hq4347 => ?_)
          obtain ⟨rfl, rfl, hmq4347⟩ := hq4347
          obtain rfl := hmq4347.symm
          refine y_aload 50 c84_49 rfl rfl rfl ?_
          refine y_getR 53 c84_50 rfl kf8_0 ?_
          refine y_aload 54 c84_53 rfl rfl rfl ?_
          refine y_getX 57 (m (276 + k.toNat) 2) c84_54 rfl (ff276_2 (by omega)) (hFi (276 + k.toNat) 2 (wFy_h (by omega))) ?_
          have tb4348 := hT.atp (276 + k.toNat) 2 ((-1)) 47 (ft276_2 (by omega))
          refine y_aaload 58 c84_57 rfl kr9 (by omega) ?_
          have es4350 : mi 8 4 = m 8 4 := (hFi 8 4 rfl)
          have tb4351 := hT.atp 8 4 ((-1)) 1 rfl
          refine y_callUB 61 [.ref 8, .ref (73 + (i * 8 + (m (276 + k.toNat) 6)).toNat), .ref (10 + (m (276 + k.toNat) 2).toNat)] [] c84_58 rfl rfl rfl rfl rfl (ycanO km80 ko8) (t80_256 hTi (by omega) (fa73 (by omega)) (fun _ => fz73 (by omega)) (fa10 (by omega)) (fun _ => fz10 (by omega)) (by omega)) (fun mq4349 nq4349 hq4349 => ?_)
          obtain ⟨rfl, hTq4349, hFq4349⟩ := hq4349
          have hF4352 := hFi.tr hFq4349 (wTe_wFy (by omega))
          refine y_iinc 64 c84_61 rfl rfl rfl ?_
          refine y_goto 2 c84_64 rfl ?_
          exact ih (m 256 14 - (i + 1) : Int).toNat (by omega) (i + 1)  _ (by omega) (by omega) hTq4349 hF4352
set_option maxRecDepth 100000 in
theorem t84_256 {L : Nat} {xs : Nat → Int32} {d nn : Nat} {m : yM} {k : Int} (hT : Ty gT m) (hp : m 8 4 = 0) (hk : 0 ≤ k ∧ k ≤ 39) (h2 : 0 ≤ m (276 + k.toNat) 2) (h3 : 0 ≤ m (276 + k.toNat) 3) (h6 : m (276 + k.toNat) 6 ≤ 7) : YC (gZ L xs) (d + 2) 84 [.ref 8, .ref (276 + k.toNat)] m nn (qU (fun m' n' => n' = nn ∧ Ty gT m' ∧ Fr wFy m m')) := by
  refine YC.mkB [some (.ref 8), some (.ref (276 + k.toNat)), none] kn84 rfl rfl ?_
  refine y_iconst 1 c84_0 rfl ?_
  refine y_istore 2 c84_1 rfl rfl ?_
  have tb := hT.atp 256 14 0 12 rfl
  exact t84a_256 hT hp hk h2 h3 h6 (m 256 14 - 0).toNat 0 m (by omega) (by omega) hT Fr.rf
set_option maxRecDepth 100000 in
theorem t85a_256 {L : Nat} {xs : Nat → Int32} {d nn : Nat} {m : yM} {k : Int} (hT : Ty gT m) (hp : m 8 4 = 0) (hk : 0 ≤ k ∧ k ≤ 39) (h2 : 0 ≤ m (276 + k.toNat) 2) (h3 : 0 ≤ m (276 + k.toNat) 3) (h6 : m (276 + k.toNat) 6 ≤ 7) : ∀ (km : Nat) (i : Int) (mi : yM), m 256 14 - i = km → 0 ≤ i ∧ i ≤ m 256 14 → Ty gT mi → Fr wFy m mi → YW (gZ L xs) 85 (d + 2) 2 [some (.ref 8), some (.ref (276 + k.toNat)), some (yI i)] [] mi nn (qU (fun m' n' => n' = nn ∧ Ty gT m' ∧ Fr wFy m m')) := by
  intro km
  induction km using Nat.strongRecOn with
  | ind km ih =>
    intro i mi hk hi hTi hFi
    have tb := hT.atp 256 14 0 12 rfl
    refine y_iload 3 c85_2 rfl rfl ?_
    refine y_aload 4 c85_3 rfl rfl rfl ?_
    refine y_getS 7 (B := 256) c85_4 rfl kf8_4 (by first | rfl | (rw [show mi 8 4 = 0 from by have e : mi 8 4 = m 8 4 := (hFi 8 4 rfl); omega]; rfl)) ?_
    refine y_getX 10 (m 256 14) c85_7 rfl kf256_14 (hFi 256 14 rfl) ?_
    refine y_icmp 82 13 c85_10 rfl rfl (yc_ge (by omega) (by omega)) (fun hb4353 => ?_) (fun hb4353 => ?_)
    · exact y_retU c85_82 ⟨rfl, hTi, hFi⟩
    · refine y_aload 14 c85_13 rfl rfl rfl ?_
      refine y_aload 15 c85_14 rfl rfl rfl ?_
      refine y_getR 18 c85_15 rfl kf8_0 ?_
      refine y_aload 19 c85_18 rfl rfl rfl ?_
      refine y_getX 22 (m (276 + k.toNat) 2) c85_19 rfl (ff276_2 (by omega)) (hFi (276 + k.toNat) 2 (wFy_h (by omega))) ?_
      have tb4354 := hT.atp (276 + k.toNat) 2 ((-1)) 47 (ft276_2 (by omega))
      refine y_aaload 23 c85_22 rfl kr9 (by omega) ?_
      refine y_iload 24 c85_23 rfl rfl ?_
      refine y_iaT 25 ((-2147483648)) 2147483647 c85_24 rfl (fa10 (by omega)) (by omega) hTi (fz10 (by omega)) (fun v4355 hv4355 gv4355 => ?_)
      refine y_callP 28 [.ref 8, yI v4355] [] c85_25 rfl rfl rfl rfl rfl (ycanO km78 ko8) (t78 hTi (by omega)) (fun r4356 hr4356 => ?_)
      refine y_if 76 31 c85_28 rfl rfl (yz_eq (by omega)) (fun hb4357 => ?_) (fun hb4357 => ?_)
      · refine y_iinc 79 c85_76 rfl rfl rfl ?_
        refine y_goto 2 c85_79 rfl ?_
        exact ih (m 256 14 - (i + 1) : Int).toNat (by omega) (i + 1)  _ (by omega) (by omega) hTi hFi
      · refine y_aload 32 c85_31 rfl rfl rfl ?_
        refine y_getS 35 (B := 256) c85_32 rfl kf8_4 (by first | rfl | (rw [show mi 8 4 = 0 from by have e : mi 8 4 = m 8 4 := (hFi 8 4 rfl); omega]; rfl)) ?_
        refine y_aload 36 c85_35 rfl rfl rfl ?_
        refine y_getS 39 (B := 256) c85_36 rfl kf8_4 (by first | rfl | (rw [show mi 8 4 = 0 from by have e : mi 8 4 = m 8 4 := (hFi 8 4 rfl); omega]; rfl)) ?_
        refine y_getR 42 c85_39 rfl kf256_7 ?_
        refine y_iload 43 c85_42 rfl rfl ?_
        refine y_iaT 44 0 5 c85_43 rfl ka264 (by omega) hTi rfl (fun v4358 hv4358 gv4358 => ?_)
        refine y_aload 45 c85_44 rfl rfl rfl ?_
        refine y_getX 48 (m (276 + k.toNat) 6) c85_45 rfl (ff276_6 (by omega)) (hFi (276 + k.toNat) 6 (wFy_h (by omega))) ?_
        have tb4359 := hT.atp (276 + k.toNat) 6 ((-1)) 11 (ft276_6 (by omega))
        refine y_callP 51 [.ref 256, yI v4358, yI (m (276 + k.toNat) 6)] [] c85_48 rfl rfl rfl rfl rfl (ycanO km47 ko256) (t47_256 hTi (by omega) (by omega)) (fun r4360 hr4360 => ?_)
        refine y_if 76 54 c85_51 rfl rfl (yz_eq (by omega)) (fun hb4361 => ?_) (fun hb4361 => ?_)
        · refine y_iinc 79 c85_76 rfl rfl rfl ?_
          refine y_goto 2 c85_79 rfl ?_
          exact ih (m 256 14 - (i + 1) : Int).toNat (by omega) (i + 1)  _ (by omega) (by omega) hTi hFi
        · refine y_aload 55 c85_54 rfl rfl rfl ?_
          refine y_aload 56 c85_55 rfl rfl rfl ?_
          refine y_getR 59 c85_56 rfl kf8_0 ?_
          refine y_aload 60 c85_59 rfl rfl rfl ?_
          refine y_getX 63 (m (276 + k.toNat) 3) c85_60 rfl (ff276_3 (by omega)) (hFi (276 + k.toNat) 3 (wFy_h (by omega))) ?_
          have tb4362 := hT.atp (276 + k.toNat) 3 ((-1)) 47 (ft276_3 (by omega))
          refine y_aaload 64 c85_63 rfl kr9 (by omega) ?_
          refine y_aload 65 c85_64 rfl rfl rfl ?_
          refine y_iload 66 c85_65 rfl rfl ?_
          refine y_aload 67 c85_66 rfl rfl rfl ?_
          refine y_getX 70 (m (276 + k.toNat) 6) c85_67 rfl (ff276_6 (by omega)) (hFi (276 + k.toNat) 6 (wFy_h (by omega))) ?_
          refine y_callAB 73 [.ref 8, yI i, yI (m (276 + k.toNat) 6)] [.ref (10 + (m (276 + k.toNat) 3).toNat), .ref 8] c85_70 rfl rfl rfl rfl rfl (ycanO km83 ko8) (t83 (by omega) (by omega)) (fun Rq4363 mq4363 nq4363 hq4363 => ?_)
          obtain ⟨rfl, rfl, hmq4363⟩ := hq4363
          obtain rfl := hmq4363.symm
          have es4365 : mi 8 4 = m 8 4 := (hFi 8 4 rfl)
          have tb4366 := hT.atp 8 4 ((-1)) 1 rfl
          refine y_callUB 76 [.ref 8, .ref (10 + (m (276 + k.toNat) 3).toNat), .ref (73 + (i * 8 + (m (276 + k.toNat) 6)).toNat)] [] c85_73 rfl rfl rfl rfl rfl (ycanO km80 ko8) (t80_256 hTi (by omega) (fa10 (by omega)) (fun _ => fz10 (by omega)) (fa73 (by omega)) (fun _ => fz73 (by omega)) (by omega)) (fun mq4364 nq4364 hq4364 => ?_)
          obtain ⟨rfl, hTq4364, hFq4364⟩ := hq4364
          have hF4367 := hFi.tr hFq4364 (wTe_wFy (by omega))
          refine y_iinc 79 c85_76 rfl rfl rfl ?_
          refine y_goto 2 c85_79 rfl ?_
          exact ih (m 256 14 - (i + 1) : Int).toNat (by omega) (i + 1)  _ (by omega) (by omega) hTq4364 hF4367
set_option maxRecDepth 100000 in
theorem t85_256 {L : Nat} {xs : Nat → Int32} {d nn : Nat} {m : yM} {k : Int} (hT : Ty gT m) (hp : m 8 4 = 0) (hk : 0 ≤ k ∧ k ≤ 39) (h2 : 0 ≤ m (276 + k.toNat) 2) (h3 : 0 ≤ m (276 + k.toNat) 3) (h6 : m (276 + k.toNat) 6 ≤ 7) : YC (gZ L xs) (d + 2) 85 [.ref 8, .ref (276 + k.toNat)] m nn (qU (fun m' n' => n' = nn ∧ Ty gT m' ∧ Fr wFy m m')) := by
  refine YC.mkB [some (.ref 8), some (.ref (276 + k.toNat)), none] kn85 rfl rfl ?_
  refine y_iconst 1 c85_0 rfl ?_
  refine y_istore 2 c85_1 rfl rfl ?_
  have tb := hT.atp 256 14 0 12 rfl
  exact t85a_256 hT hp hk h2 h3 h6 (m 256 14 - 0).toNat 0 m (by omega) (by omega) hT Fr.rf
set_option maxRecDepth 100000 in
theorem t86a_256 {L : Nat} {xs : Nat → Int32} {d nn : Nat} {m : yM} {k : Int} (hT : Ty gT m) (hp : m 8 4 = 0) (hk : 0 ≤ k ∧ k ≤ 39) (h3 : 0 ≤ m (276 + k.toNat) 3) (h6 : 0 ≤ m (276 + k.toNat) 6) (hn : ∀ k : Nat, (k : Int) < m 256 16 → m (276 + k) 6 ≤ 11) (hin : ∀ k' : Nat, (k' : Int) < m 256 16 → m (276 + k') 0 = 4 → m (276 + k') 6 = m (276 + k.toNat) 6 → k' = k.toNat) (h0 : ∀ k' : Nat, (k' : Int) < m 256 16 → m (276 + k') 0 = 4 → 0 ≤ m (276 + k') 6) (hG : GO 256 266 276 m) : ∀ (km : Nat) (i : Int) (x3 : Option Value) (mi : yM), m 256 14 - i = km → 0 ≤ i ∧ i ≤ m 256 14 → Ty gT mi → Fr wFx m mi → GO 256 266 276 mi → YW (gZ L xs) 86 (d + 2) 2 [some (.ref 8), some (.ref (276 + k.toNat)), some (yI i), x3] [] mi nn (qU (fun m' n' => n' = nn ∧ Ty gT m' ∧ Fr wFx m m' ∧ GO 256 266 276 m')) := by
  intro km
  induction km using Nat.strongRecOn with
  | ind km ih =>
    intro i x3 mi hk hi hTi hFi hGo
    have tb := hT.atp 256 14 0 12 rfl
    have hni : ∀ j : Nat, (j : Int) < mi 256 16 → mi (276 + j) 6 ≤ 11 := fun j hj => by rw [hFi 256 16 rfl] at hj; rw [hFi _ 6 (wFx_h (by omega))]; exact hn j hj
    have hini : ∀ j : Nat, (j : Int) < mi 256 16 → mi (276 + j) 0 = 4 → mi (276 + j) 6 = mi (276 + k.toNat) 6 → j = k.toNat := fun j hj => by rw [hFi 256 16 rfl] at hj; rw [hFi _ 0 (wFx_h (by omega)), hFi _ 6 (wFx_h (by omega)), hFi _ 6 (wFx_h (by omega))]; exact hin j hj
    have h0i : ∀ j : Nat, (j : Int) < mi 256 16 → mi (276 + j) 0 = 4 → 0 ≤ mi (276 + j) 6 := fun j hj => by rw [hFi 256 16 rfl] at hj; rw [hFi _ 0 (wFx_h (by omega)), hFi _ 6 (wFx_h (by omega))]; exact h0 j hj
    refine y_iload 3 c86_2 rfl rfl ?_
    refine y_aload 4 c86_3 rfl rfl rfl ?_
    refine y_getS 7 (B := 256) c86_4 rfl kf8_4 (by first | rfl | (rw [show mi 8 4 = 0 from by have e : mi 8 4 = m 8 4 := (hFi 8 4 rfl); omega]; rfl)) ?_
    refine y_getX 10 (m 256 14) c86_7 rfl kf256_14 (hFi 256 14 rfl) ?_
    refine y_icmp 112 13 c86_10 rfl rfl (yc_ge (by omega) (by omega)) (fun hb4368 => ?_) (fun hb4368 => ?_)
    · exact y_retU c86_112 ⟨rfl, hTi, hFi, hGo⟩
    · refine y_aload 14 c86_13 rfl rfl rfl ?_
      refine y_aload 15 c86_14 rfl rfl rfl ?_
      refine y_getR 18 c86_15 rfl kf8_0 ?_
      refine y_aload 19 c86_18 rfl rfl rfl ?_
      refine y_getX 22 (m (276 + k.toNat) 3) c86_19 rfl (ff276_3 (by omega)) (hFi (276 + k.toNat) 3 (wFx_h (by omega))) ?_
      have tb4369 := hT.atp (276 + k.toNat) 3 ((-1)) 47 (ft276_3 (by omega))
      refine y_aaload 23 c86_22 rfl kr9 (by omega) ?_
      refine y_iload 24 c86_23 rfl rfl ?_
      refine y_iaT 25 ((-2147483648)) 2147483647 c86_24 rfl (fa10 (by omega)) (by omega) hTi (fz10 (by omega)) (fun v4370 hv4370 gv4370 => ?_)
      refine y_callP 28 [.ref 8, yI v4370] [] c86_25 rfl rfl rfl rfl rfl (ycanO km78 ko8) (t78 hTi (by omega)) (fun r4371 hr4371 => ?_)
      refine y_if 106 31 c86_28 rfl rfl (yz_eq (by omega)) (fun hb4372 => ?_) (fun hb4372 => ?_)
      · refine y_iinc 109 c86_106 rfl rfl rfl ?_
        refine y_goto 2 c86_109 rfl ?_
        exact ih (m 256 14 - (i + 1) : Int).toNat (by omega) (i + 1) _  _ (by omega) (by omega) hTi hFi hGo
      · refine y_aload 32 c86_31 rfl rfl rfl ?_
        refine y_getS 35 (B := 256) c86_32 rfl kf8_4 (by first | rfl | (rw [show mi 8 4 = 0 from by have e : mi 8 4 = m 8 4 := (hFi 8 4 rfl); omega]; rfl)) ?_
        refine y_aload 36 c86_35 rfl rfl rfl ?_
        refine y_getS 39 (B := 256) c86_36 rfl kf8_4 (by first | rfl | (rw [show mi 8 4 = 0 from by have e : mi 8 4 = m 8 4 := (hFi 8 4 rfl); omega]; rfl)) ?_
        refine y_getR 42 c86_39 rfl kf256_7 ?_
        refine y_iload 43 c86_42 rfl rfl ?_
        refine y_iaT 44 0 5 c86_43 rfl ka264 (by omega) hTi rfl (fun v4373 hv4373 gv4373 => ?_)
        refine y_aload 45 c86_44 rfl rfl rfl ?_
        refine y_getX 48 (m (276 + k.toNat) 4) c86_45 rfl (ff276_4 (by omega)) (hFi (276 + k.toNat) 4 (wFx_h (by omega))) ?_
        have tb4374 := hT.atp (276 + k.toNat) 4 ((-2147483648)) 2147483647 (ft276_4 (by omega))
        refine y_aload 49 c86_48 rfl rfl rfl ?_
        refine y_getX 52 (m (276 + k.toNat) 8) c86_49 rfl (ff276_8 (by omega)) (hFi (276 + k.toNat) 8 (wFx_h (by omega))) ?_
        have tb4375 := hT.atp (276 + k.toNat) 8 0 2 (ft276_8 (by omega))
        have es4377 : mi 256 10 = m 256 10 := (hFi 256 10 rfl)
        have tb4378 := hT.atp 256 10 0 10 rfl
        refine y_callP 55 [.ref 256, yI v4373, yI (m (276 + k.toNat) 4), yI (m (276 + k.toNat) 8)] [] c86_52 rfl rfl rfl rfl rfl (ycanO km72 ko256) (t72_256 hTi (by omega) (by omega) (by omega)) (fun r4376 hr4376 => ?_)
        refine y_istore 56 c86_55 rfl rfl ?_
        refine y_iload 57 c86_56 rfl rfl ?_
        refine y_iconst 58 c86_57 rfl ?_
        refine y_icmp 106 61 c86_58 rfl rfl (yc_eq (by omega) (by omega)) (fun hb4379 => ?_) (fun hb4379 => ?_)
        · refine y_iinc 109 c86_106 rfl rfl rfl ?_
          refine y_goto 2 c86_109 rfl ?_
          exact ih (m 256 14 - (i + 1) : Int).toNat (by omega) (i + 1) _  _ (by omega) (by omega) hTi hFi hGo
        · refine y_aload 62 c86_61 rfl rfl rfl ?_
          refine y_aload 63 c86_62 rfl rfl rfl ?_
          refine y_getR 66 c86_63 rfl kf8_1 ?_
          refine y_aload 67 c86_66 rfl rfl rfl ?_
          refine y_getX 70 (m (276 + k.toNat) 6) c86_67 rfl (ff276_6 (by omega)) (hFi (276 + k.toNat) 6 (wFx_h (by omega))) ?_
          have tb4380 := hT.atp (276 + k.toNat) 6 ((-1)) 11 (ft276_6 (by omega))
          refine y_aaload 71 c86_70 rfl kr58 (by omega) ?_
          refine y_iload 72 c86_71 rfl rfl ?_
          refine y_callUB 75 [.ref 8, .ref (59 + (m (276 + k.toNat) 6).toNat), yI r4376] [] c86_72 rfl rfl rfl rfl rfl (ycanO km79 ko8) (t79 hTi (fa59 (by omega)) (fun _ => fz59 (by omega)) (by omega) (by omega)) (fun mq4381 nq4381 hq4381 => ?_)
          obtain ⟨rfl, hTq4381, hFq4381, hq4381⟩ := hq4381
          have hF4382 := hFi.tr hFq4381 (wTe_wFx (by omega))
          refine y_aload 76 c86_75 rfl rfl rfl ?_
          refine y_aload 77 c86_76 rfl rfl rfl ?_
          refine y_getR 80 c86_77 rfl kf8_2 ?_
          refine y_iload 81 c86_80 rfl rfl ?_
          refine y_callUB 84 [.ref 8, .ref 71, yI r4376] [] c86_81 rfl rfl rfl rfl rfl (ycanO km79 ko8) (t79 hTq4381 ka71 (fun _ => rfl) (by omega) (by omega)) (fun mq4383 nq4383 hq4383 => ?_)
          obtain ⟨rfl, hTq4383, hFq4383, hq4383⟩ := hq4383
          have hF4384 := hF4382.tr hFq4383 (wTe_wFx (by omega))
          refine y_aload 85 c86_84 rfl rfl rfl ?_
          refine y_aload 86 c86_85 rfl rfl rfl ?_
          refine y_getR 89 c86_86 rfl kf8_0 ?_
          refine y_aload 90 c86_89 rfl rfl rfl ?_
          refine y_getS 93 (B := 256) c86_90 rfl kf8_4 (by first | rfl | (rw [show mq4383 8 4 = 0 from by have e : mq4383 8 4 = m 8 4 := ((hFq4383 8 4 (wTe_n (by omega) (by decide))).trans ((hFq4381 8 4 (wTe_n (by omega) (by decide))).trans (hFi 8 4 rfl))); omega]; rfl)) ?_
          refine y_getR 96 c86_93 rfl kf256_5 ?_
          refine y_iload 97 c86_96 rfl rfl ?_
          refine y_aaload 98 c86_97 rfl kr262 (by omega) ?_
          refine y_callP 101 [.ref (266 + r4376.toNat)] [.ref 9, .ref 8] c86_98 rfl rfl rfl rfl rfl (ycanO km57 (fo266 (by omega))) (t57_256 hTq4383 (by omega)) (fun r4385 hr4385 => ?_)
          refine y_aaload 102 c86_101 rfl kr9 (by omega) ?_
          refine y_iload 103 c86_102 rfl rfl ?_
          refine y_callUB 106 [.ref 8, .ref (10 + r4385.toNat), yI i] [] c86_103 rfl rfl rfl rfl rfl (ycanO km79 ko8) (t79 hTq4383 (fa10 (by omega)) (fun _ => fz10 (by omega)) (by omega) (by omega)) (fun mq4386 nq4386 hq4386 => ?_)
          obtain ⟨rfl, hTq4386, hFq4386, hq4386⟩ := hq4386
          have hF4387 := hF4384.tr hFq4386 (wTe_wFx (by omega))
          refine y_iinc 109 c86_106 rfl rfl rfl ?_
          refine y_goto 2 c86_109 rfl ?_
          exact ih (m 256 14 - (i + 1) : Int).toNat (by omega) (i + 1) _  _ (by omega) (by omega) hTq4386 hF4387 ((hGo.tell (k := k.toNat) (j := r4376) (by omega) hni hini h0i (by have := hFi (276 + k.toNat) 6 (wFx_h (by omega)); omega) (by have := hTi.atp (276 + k.toNat) 6 (-1) 11 (ft276_6 (by omega)); omega) hFq4381 (by rw [hFi (276 + k.toNat) 6 (wFx_h (by omega))]) hq4381 (by have e1 := hr4376.2.2 (by omega); have e2 := hFi (276 + k.toNat) 8 (wFx_h (by omega)); omega)).fr (by omega) (fun j hj => by rw [hFq4381 256 16 (wTe_n (by omega) (by decide))] at hj; rw [hFq4381 (276 + j) 6 (wTe_n (by omega) (by omega))]; exact hni j hj) ((Fr.rf.tr hFq4383 (wTe_wFy (by omega))).tr hFq4386 (wTe_wFy (by omega))))
set_option maxRecDepth 100000 in
theorem t86_256 {L : Nat} {xs : Nat → Int32} {d nn : Nat} {m : yM} {k : Int} (hT : Ty gT m) (hp : m 8 4 = 0) (hk : 0 ≤ k ∧ k ≤ 39) (h3 : 0 ≤ m (276 + k.toNat) 3) (h6 : 0 ≤ m (276 + k.toNat) 6) (hn : ∀ k : Nat, (k : Int) < m 256 16 → m (276 + k) 6 ≤ 11) (hin : ∀ k' : Nat, (k' : Int) < m 256 16 → m (276 + k') 0 = 4 → m (276 + k') 6 = m (276 + k.toNat) 6 → k' = k.toNat) (h0 : ∀ k' : Nat, (k' : Int) < m 256 16 → m (276 + k') 0 = 4 → 0 ≤ m (276 + k') 6) (hG : GO 256 266 276 m) : YC (gZ L xs) (d + 2) 86 [.ref 8, .ref (276 + k.toNat)] m nn (qU (fun m' n' => n' = nn ∧ Ty gT m' ∧ Fr wFx m m' ∧ GO 256 266 276 m')) := by
  refine YC.mkB [some (.ref 8), some (.ref (276 + k.toNat)), none, none] kn86 rfl rfl ?_
  refine y_iconst 1 c86_0 rfl ?_
  refine y_istore 2 c86_1 rfl rfl ?_
  have tb := hT.atp 256 14 0 12 rfl
  exact t86a_256 hT hp hk h3 h6 hn hin h0 hG (m 256 14 - 0).toNat 0 none m (by omega) (by omega) hT Fr.rf hG
set_option maxRecDepth 100000 in
theorem t88_256 {L : Nat} {xs : Nat → Int32} {d nn : Nat} {m : yM} {k j : Int} (hT : Ty gT m) (hp : m 8 4 = 0) (hk : 0 ≤ k ∧ k ≤ 39) (hj : 0 ≤ j ∧ j ≤ 9) (hM : MP 266 m) (h8 : m (266 + j.toNat) 3 = m (276 + k.toNat) 8) (h9 : 1 ≤ m (276 + k.toNat) 8 → 0 ≤ m (276 + k.toNat) 9) (h10 : 2 ≤ m (276 + k.toNat) 8 → 0 ≤ m (276 + k.toNat) 10) : YC (gZ L xs) (d + 2) 88 [.ref 8, .ref (276 + k.toNat), .ref (266 + j.toNat)] m nn (qU (fun m' n' => n' = nn ∧ Ty gT m' ∧ Fr wFy m m')) := by
  refine YC.mkB [some (.ref 8), some (.ref (276 + k.toNat)), some (.ref (266 + j.toNat))] kn88 rfl rfl ?_
  have hF : Fr wFy m m := Fr.rf
  refine y_aload 1 c88_0 rfl rfl rfl ?_
  refine y_getX 4 (m (276 + k.toNat) 8) c88_1 rfl (ff276_8 (by omega)) rfl ?_
  have tb4388 := hT.atp (276 + k.toNat) 8 0 2 (ft276_8 (by omega))
  refine y_if 30 7 c88_4 rfl rfl (yz_le (by omega)) (fun hb4389 => ?_) (fun hb4389 => ?_)
  · refine y_aload 31 c88_30 rfl rfl rfl ?_
    refine y_getX 34 (m (276 + k.toNat) 8) c88_31 rfl (ff276_8 (by omega)) rfl ?_
    refine y_iconst 35 c88_34 rfl ?_
    refine y_icmp 61 38 c88_35 rfl rfl (yc_le (by omega) (by omega)) (fun hb4390 => ?_) (fun hb4390 => ?_)
    · refine y_aload 62 c88_61 rfl rfl rfl ?_
      refine y_getX 65 (m (276 + k.toNat) 2) c88_62 rfl (ff276_2 (by omega)) rfl ?_
      have tb4391 := hT.atp (276 + k.toNat) 2 ((-1)) 47 (ft276_2 (by omega))
      refine y_iconst 66 c88_65 rfl ?_
      refine y_icmp 91 69 c88_66 rfl rfl (yc_eq (by omega) (by omega)) (fun hb4392 => ?_) (fun hb4392 => ?_)
      · exact y_retU c88_91 ⟨rfl, hT, hF⟩
      · refine y_aload 70 c88_69 rfl rfl rfl ?_
        refine y_aload 71 c88_70 rfl rfl rfl ?_
        refine y_getR 74 c88_71 rfl kf8_0 ?_
        refine y_aload 75 c88_74 rfl rfl rfl ?_
        refine y_getX 78 (m (266 + j.toNat) 2) c88_75 rfl (ff266_2 (by omega)) rfl ?_
        have tb4393 := hT.atp (266 + j.toNat) 2 0 46 (ft266_2 (by omega))
        refine y_aaload 79 c88_78 rfl kr9 (by omega) ?_
        refine y_aload 80 c88_79 rfl rfl rfl ?_
        refine y_getR 83 c88_80 rfl kf8_0 ?_
        refine y_aload 84 c88_83 rfl rfl rfl ?_
        refine y_getX 87 (m (276 + k.toNat) 2) c88_84 rfl (ff276_2 (by omega)) rfl ?_
        refine y_aaload 88 c88_87 rfl kr9 (by omega) ?_
        have tb4395 := hT.atp 8 4 ((-1)) 1 rfl
        refine y_callUB 91 [.ref 8, .ref (10 + (m (266 + j.toNat) 2).toNat), .ref (10 + (m (276 + k.toNat) 2).toNat)] [] c88_88 rfl rfl rfl rfl rfl (ycanO km80 ko8) (t80_256 hT (by omega) (fa10 (by omega)) (fun _ => fz10 (by omega)) (fa10 (by omega)) (fun _ => fz10 (by omega)) (by omega)) (fun mq4394 nq4394 hq4394 => ?_)
        obtain ⟨rfl, hTq4394, hFq4394⟩ := hq4394
        have hF4396 := hF.tr hFq4394 (wTe_wFy (by omega))
        exact y_retU c88_91 ⟨rfl, hTq4394, hF4396⟩
    · exfalso; omega
  · refine y_aload 8 c88_7 rfl rfl rfl ?_
    refine y_aload 9 c88_8 rfl rfl rfl ?_
    refine y_getR 12 c88_9 rfl kf8_0 ?_
    refine y_aload 13 c88_12 rfl rfl rfl ?_
    refine y_getX 16 (m (276 + k.toNat) 9) c88_13 rfl (ff276_9 (by omega)) rfl ?_
    have tb4397 := hT.atp (276 + k.toNat) 9 ((-1)) 47 (ft276_9 (by omega))
    refine y_aaload 17 c88_16 rfl kr9 (by omega) ?_
    refine y_aload 18 c88_17 rfl rfl rfl ?_
    refine y_getR 21 c88_18 rfl kf8_0 ?_
    refine y_aload 22 c88_21 rfl rfl rfl ?_
    refine y_iconst 23 c88_22 rfl ?_
    have tb4399 := hT.atp (266 + j.toNat) 3 0 2 (ft266_3 (by omega))
    refine y_callP 26 [.ref (266 + j.toNat), yI 0] [.ref 9, .ref (10 + (m (276 + k.toNat) 9).toNat), .ref 8] c88_23 rfl rfl rfl rfl rfl (ycanO km87 (fo266 (by omega))) (t87_256 hT (by omega) (by omega) hM) (fun r4398 hr4398 => ?_)
    refine y_aaload 27 c88_26 rfl kr9 (by omega) ?_
    have tb4401 := hT.atp 8 4 ((-1)) 1 rfl
    refine y_callUB 30 [.ref 8, .ref (10 + (m (276 + k.toNat) 9).toNat), .ref (10 + r4398.toNat)] [] c88_27 rfl rfl rfl rfl rfl (ycanO km80 ko8) (t80_256 hT (by omega) (fa10 (by omega)) (fun _ => fz10 (by omega)) (fa10 (by omega)) (fun _ => fz10 (by omega)) (by omega)) (fun mq4400 nq4400 hq4400 => ?_)
    obtain ⟨rfl, hTq4400, hFq4400⟩ := hq4400
    have hF4402 := hF.tr hFq4400 (wTe_wFy (by omega))
    refine y_aload 31 c88_30 rfl rfl rfl ?_
    refine y_getX 34 (m (276 + k.toNat) 8) c88_31 rfl (ff276_8 (by omega)) (hFq4400 (276 + k.toNat) 8 (wTe_n (by omega) (by omega))) ?_
    refine y_iconst 35 c88_34 rfl ?_
    refine y_icmp 61 38 c88_35 rfl rfl (yc_le (by omega) (by omega)) (fun hb4403 => ?_) (fun hb4403 => ?_)
    · refine y_aload 62 c88_61 rfl rfl rfl ?_
      refine y_getX 65 (m (276 + k.toNat) 2) c88_62 rfl (ff276_2 (by omega)) (hFq4400 (276 + k.toNat) 2 (wTe_n (by omega) (by omega))) ?_
      have tb4404 := hT.atp (276 + k.toNat) 2 ((-1)) 47 (ft276_2 (by omega))
      refine y_iconst 66 c88_65 rfl ?_
      refine y_icmp 91 69 c88_66 rfl rfl (yc_eq (by omega) (by omega)) (fun hb4405 => ?_) (fun hb4405 => ?_)
      · exact y_retU c88_91 ⟨rfl, hTq4400, hF4402⟩
      · refine y_aload 70 c88_69 rfl rfl rfl ?_
        refine y_aload 71 c88_70 rfl rfl rfl ?_
        refine y_getR 74 c88_71 rfl kf8_0 ?_
        refine y_aload 75 c88_74 rfl rfl rfl ?_
        refine y_getX 78 (m (266 + j.toNat) 2) c88_75 rfl (ff266_2 (by omega)) (hFq4400 (266 + j.toNat) 2 (wTe_n (by omega) (by omega))) ?_
        have tb4406 := hT.atp (266 + j.toNat) 2 0 46 (ft266_2 (by omega))
        refine y_aaload 79 c88_78 rfl kr9 (by omega) ?_
        refine y_aload 80 c88_79 rfl rfl rfl ?_
        refine y_getR 83 c88_80 rfl kf8_0 ?_
        refine y_aload 84 c88_83 rfl rfl rfl ?_
        refine y_getX 87 (m (276 + k.toNat) 2) c88_84 rfl (ff276_2 (by omega)) (hFq4400 (276 + k.toNat) 2 (wTe_n (by omega) (by omega))) ?_
        refine y_aaload 88 c88_87 rfl kr9 (by omega) ?_
        have es4408 : mq4400 8 4 = m 8 4 := (hFq4400 8 4 (wTe_n (by omega) (by decide)))
        refine y_callUB 91 [.ref 8, .ref (10 + (m (266 + j.toNat) 2).toNat), .ref (10 + (m (276 + k.toNat) 2).toNat)] [] c88_88 rfl rfl rfl rfl rfl (ycanO km80 ko8) (t80_256 hTq4400 (by omega) (fa10 (by omega)) (fun _ => fz10 (by omega)) (fa10 (by omega)) (fun _ => fz10 (by omega)) (by omega)) (fun mq4407 nq4407 hq4407 => ?_)
        obtain ⟨rfl, hTq4407, hFq4407⟩ := hq4407
        have hF4409 := hF4402.tr hFq4407 (wTe_wFy (by omega))
        exact y_retU c88_91 ⟨rfl, hTq4407, hF4409⟩
    · refine y_aload 39 c88_38 rfl rfl rfl ?_
      refine y_aload 40 c88_39 rfl rfl rfl ?_
      refine y_getR 43 c88_40 rfl kf8_0 ?_
      refine y_aload 44 c88_43 rfl rfl rfl ?_
      refine y_getX 47 (m (276 + k.toNat) 10) c88_44 rfl (ff276_10 (by omega)) (hFq4400 (276 + k.toNat) 10 (wTe_n (by omega) (by omega))) ?_
      have tb4410 := hT.atp (276 + k.toNat) 10 ((-1)) 47 (ft276_10 (by omega))
      refine y_aaload 48 c88_47 rfl kr9 (by omega) ?_
      refine y_aload 49 c88_48 rfl rfl rfl ?_
      refine y_getR 52 c88_49 rfl kf8_0 ?_
      refine y_aload 53 c88_52 rfl rfl rfl ?_
      refine y_iconst 54 c88_53 rfl ?_
      have es4412 : mq4400 (266 + j.toNat) 3 = m (266 + j.toNat) 3 := (hFq4400 (266 + j.toNat) 3 (wTe_n (by omega) (by omega)))
      refine y_callP 57 [.ref (266 + j.toNat), yI 1] [.ref 9, .ref (10 + (m (276 + k.toNat) 10).toNat), .ref 8] c88_54 rfl rfl rfl rfl rfl (ycanO km87 (fo266 (by omega))) (t87_256 hTq4400 (by omega) (by omega) (hM.fr (fun k hk => hFq4400 _ _ (wTe_n (by omega) (by omega))) (fun k hk => hFq4400 _ _ (wTe_n (by omega) (by omega))))) (fun r4411 hr4411 => ?_)
      refine y_aaload 58 c88_57 rfl kr9 (by omega) ?_
      have es4414 : mq4400 8 4 = m 8 4 := (hFq4400 8 4 (wTe_n (by omega) (by decide)))
      refine y_callUB 61 [.ref 8, .ref (10 + (m (276 + k.toNat) 10).toNat), .ref (10 + r4411.toNat)] [] c88_58 rfl rfl rfl rfl rfl (ycanO km80 ko8) (t80_256 hTq4400 (by omega) (fa10 (by omega)) (fun _ => fz10 (by omega)) (fa10 (by omega)) (fun _ => fz10 (by omega)) (by omega)) (fun mq4413 nq4413 hq4413 => ?_)
      obtain ⟨rfl, hTq4413, hFq4413⟩ := hq4413
      have hF4415 := hF4402.tr hFq4413 (wTe_wFy (by omega))
      refine y_aload 62 c88_61 rfl rfl rfl ?_
      refine y_getX 65 (m (276 + k.toNat) 2) c88_62 rfl (ff276_2 (by omega)) ((hFq4413 (276 + k.toNat) 2 (wTe_n (by omega) (by omega))).trans (hFq4400 (276 + k.toNat) 2 (wTe_n (by omega) (by omega)))) ?_
      have tb4416 := hT.atp (276 + k.toNat) 2 ((-1)) 47 (ft276_2 (by omega))
      refine y_iconst 66 c88_65 rfl ?_
      refine y_icmp 91 69 c88_66 rfl rfl (yc_eq (by omega) (by omega)) (fun hb4417 => ?_) (fun hb4417 => ?_)
      · exact y_retU c88_91 ⟨rfl, hTq4413, hF4415⟩
      · refine y_aload 70 c88_69 rfl rfl rfl ?_
        refine y_aload 71 c88_70 rfl rfl rfl ?_
        refine y_getR 74 c88_71 rfl kf8_0 ?_
        refine y_aload 75 c88_74 rfl rfl rfl ?_
        refine y_getX 78 (m (266 + j.toNat) 2) c88_75 rfl (ff266_2 (by omega)) ((hFq4413 (266 + j.toNat) 2 (wTe_n (by omega) (by omega))).trans (hFq4400 (266 + j.toNat) 2 (wTe_n (by omega) (by omega)))) ?_
        have tb4418 := hT.atp (266 + j.toNat) 2 0 46 (ft266_2 (by omega))
        refine y_aaload 79 c88_78 rfl kr9 (by omega) ?_
        refine y_aload 80 c88_79 rfl rfl rfl ?_
        refine y_getR 83 c88_80 rfl kf8_0 ?_
        refine y_aload 84 c88_83 rfl rfl rfl ?_
        refine y_getX 87 (m (276 + k.toNat) 2) c88_84 rfl (ff276_2 (by omega)) ((hFq4413 (276 + k.toNat) 2 (wTe_n (by omega) (by omega))).trans (hFq4400 (276 + k.toNat) 2 (wTe_n (by omega) (by omega)))) ?_
        refine y_aaload 88 c88_87 rfl kr9 (by omega) ?_
        have es4420 : mq4413 8 4 = m 8 4 := ((hFq4413 8 4 (wTe_n (by omega) (by decide))).trans (hFq4400 8 4 (wTe_n (by omega) (by decide))))
        refine y_callUB 91 [.ref 8, .ref (10 + (m (266 + j.toNat) 2).toNat), .ref (10 + (m (276 + k.toNat) 2).toNat)] [] c88_88 rfl rfl rfl rfl rfl (ycanO km80 ko8) (t80_256 hTq4413 (by omega) (fa10 (by omega)) (fun _ => fz10 (by omega)) (fa10 (by omega)) (fun _ => fz10 (by omega)) (by omega)) (fun mq4419 nq4419 hq4419 => ?_)
        obtain ⟨rfl, hTq4419, hFq4419⟩ := hq4419
        have hF4421 := hF4415.tr hFq4419 (wTe_wFy (by omega))
        exact y_retU c88_91 ⟨rfl, hTq4419, hF4421⟩
set_option maxRecDepth 100000 in
theorem t89a_256 {L : Nat} {xs : Nat → Int32} {d nn : Nat} {m : yM} {k : Int} (hT : Ty gT m) (hp : m 8 4 = 0) (hk : 0 ≤ k ∧ k ≤ 39) (hkc : k < m 256 16) (h4 : m (276 + k.toNat) 0 = 4) (h6 : 0 ≤ m (276 + k.toNat) 6) (hM : MP 266 m) (h9 : 1 ≤ m (276 + k.toNat) 8 → 0 ≤ m (276 + k.toNat) 9) (h10 : 2 ≤ m (276 + k.toNat) 8 → 0 ≤ m (276 + k.toNat) 10) (hG : GO 256 266 276 m) : ∀ (km : Nat) (i : Int) (mi : yM), m 256 10 - i = km → 0 ≤ i ∧ i ≤ m 256 10 → Ty gT mi → Fr wFy m mi → YW (gZ L xs) 89 (d + 3) 2 [some (.ref 8), some (.ref (276 + k.toNat)), some (yI i)] [] mi nn (qU (fun m' n' => n' = nn ∧ Ty gT m' ∧ Fr wFy m m')) := by
  intro km
  induction km using Nat.strongRecOn with
  | ind km ih =>
    intro i mi hk hi hTi hFi
    have tb := hT.atp 256 10 0 10 rfl
    refine y_iload 3 c89_2 rfl rfl ?_
    refine y_aload 4 c89_3 rfl rfl rfl ?_
    refine y_getS 7 (B := 256) c89_4 rfl kf8_4 (by first | rfl | (rw [show mi 8 4 = 0 from by have e : mi 8 4 = m 8 4 := (hFi 8 4 rfl); omega]; rfl)) ?_
    refine y_getX 10 (m 256 10) c89_7 rfl kf256_10 (hFi 256 10 rfl) ?_
    refine y_icmp 51 13 c89_10 rfl rfl (yc_ge (by omega) (by omega)) (fun hb4422 => ?_) (fun hb4422 => ?_)
    · exact y_retU c89_51 ⟨rfl, hTi, hFi⟩
    · refine y_aload 14 c89_13 rfl rfl rfl ?_
      refine y_aload 15 c89_14 rfl rfl rfl ?_
      refine y_getR 18 c89_15 rfl kf8_1 ?_
      refine y_aload 19 c89_18 rfl rfl rfl ?_
      refine y_getX 22 (m (276 + k.toNat) 6) c89_19 rfl (ff276_6 (by omega)) (hFi (276 + k.toNat) 6 (wFy_h (by omega))) ?_
      have tb4423 := hT.atp (276 + k.toNat) 6 ((-1)) 11 (ft276_6 (by omega))
      refine y_aaload 23 c89_22 rfl kr58 (by omega) ?_
      refine y_iload 24 c89_23 rfl rfl ?_
      refine y_iaT 25 ((-2147483648)) 2147483647 c89_24 rfl (fa59 (by omega)) (by omega) hTi (fz59 (by omega)) (fun v4424 hv4424 gv4424 => ?_)
      refine y_callP 28 [.ref 8, yI v4424] [] c89_25 rfl rfl rfl rfl rfl (ycanO km78 ko8) (t78 hTi (by omega)) (fun r4425 hr4425 => ?_)
      refine y_if 45 31 c89_28 rfl rfl (yz_eq (by omega)) (fun hb4426 => ?_) (fun hb4426 => ?_)
      · refine y_iinc 48 c89_45 rfl rfl rfl ?_
        refine y_goto 2 c89_48 rfl ?_
        exact ih (m 256 10 - (i + 1) : Int).toNat (by omega) (i + 1)  _ (by omega) (by omega) hTi hFi
      · refine y_aload 32 c89_31 rfl rfl rfl ?_
        refine y_aload 33 c89_32 rfl rfl rfl ?_
        refine y_aload 34 c89_33 rfl rfl rfl ?_
        refine y_getS 37 (B := 256) c89_34 rfl kf8_4 (by first | rfl | (rw [show mi 8 4 = 0 from by have e : mi 8 4 = m 8 4 := (hFi 8 4 rfl); omega]; rfl)) ?_
        refine y_getR 40 c89_37 rfl kf256_5 ?_
        refine y_iload 41 c89_40 rfl rfl ?_
        refine y_aaload 42 c89_41 rfl kr262 (by omega) ?_
        have es4428 : mi 8 4 = m 8 4 := (hFi 8 4 rfl)
        have tb4429 := hT.atp 8 4 ((-1)) 1 rfl
        have es4430 : mi (276 + k.toNat) 8 = m (276 + k.toNat) 8 := (hFi (276 + k.toNat) 8 (wFy_h (by omega)))
        have tb4431 := hT.atp (276 + k.toNat) 8 0 2 (ft276_8 (by omega))
        have es4432 : mi (276 + k.toNat) 9 = m (276 + k.toNat) 9 := (hFi (276 + k.toNat) 9 (wFy_h (by omega)))
        have tb4433 := hT.atp (276 + k.toNat) 9 ((-1)) 47 (ft276_9 (by omega))
        have es4434 : mi (276 + k.toNat) 10 = m (276 + k.toNat) 10 := (hFi (276 + k.toNat) 10 (wFy_h (by omega)))
        have tb4435 := hT.atp (276 + k.toNat) 10 ((-1)) 47 (ft276_10 (by omega))
        have es4436 : mi (266 + i.toNat) 3 = m (266 + i.toNat) 3 := (hFi (266 + i.toNat) 3 (wFy_h (by omega)))
        have tb4437 := hT.atp (266 + i.toNat) 3 0 2 (ft266_3 (by omega))
        have hg3 := hG k.toNat (by omega) h4 i.toNat (by omega) (by rw [hFi _ _ (wFy_g (by omega))] at hv4424; omega)
        refine y_callUB 45 [.ref 8, .ref (276 + k.toNat), .ref (266 + i.toNat)] [] c89_42 rfl rfl rfl rfl rfl (ycanO km88 ko8) (t88_256 (k := k) (j := i) hTi (by omega) (by omega) (by omega) (hM.fr (fun k hk => hFi _ _ (wFy_h (by omega))) (fun k hk => hFi _ _ (wFy_h (by omega)))) (by omega) (by omega) (by omega)) (fun mq4427 nq4427 hq4427 => ?_)
        obtain ⟨rfl, hTq4427, hFq4427⟩ := hq4427
        have hF4438 := hFi.tr hFq4427 (fun _ _ e => e)
        refine y_iinc 48 c89_45 rfl rfl rfl ?_
        refine y_goto 2 c89_48 rfl ?_
        exact ih (m 256 10 - (i + 1) : Int).toNat (by omega) (i + 1)  _ (by omega) (by omega) hTq4427 hF4438
set_option maxRecDepth 100000 in
theorem t89_256 {L : Nat} {xs : Nat → Int32} {d nn : Nat} {m : yM} {k : Int} (hT : Ty gT m) (hp : m 8 4 = 0) (hk : 0 ≤ k ∧ k ≤ 39) (hkc : k < m 256 16) (h4 : m (276 + k.toNat) 0 = 4) (h6 : 0 ≤ m (276 + k.toNat) 6) (hM : MP 266 m) (h9 : 1 ≤ m (276 + k.toNat) 8 → 0 ≤ m (276 + k.toNat) 9) (h10 : 2 ≤ m (276 + k.toNat) 8 → 0 ≤ m (276 + k.toNat) 10) (hG : GO 256 266 276 m) : YC (gZ L xs) (d + 3) 89 [.ref 8, .ref (276 + k.toNat)] m nn (qU (fun m' n' => n' = nn ∧ Ty gT m' ∧ Fr wFy m m')) := by
  refine YC.mkB [some (.ref 8), some (.ref (276 + k.toNat)), none] kn89 rfl rfl ?_
  refine y_iconst 1 c89_0 rfl ?_
  refine y_istore 2 c89_1 rfl rfl ?_
  have tb := hT.atp 256 10 0 10 rfl
  exact t89a_256 hT hp hk hkc h4 h6 hM h9 h10 hG (m 256 10 - 0).toNat 0 m (by omega) (by omega) hT Fr.rf
set_option maxRecDepth 100000 in
theorem t90_256 {L : Nat} {xs : Nat → Int32} {d nn : Nat} {m : yM} {k : Int} (hT : Ty gT m) (hp : m 8 4 = 0) (hk : 0 ≤ k ∧ k ≤ 39) (hkc : k < m 256 16) (hM : MP 266 m) (hR : RG 276 265 m 0 (m 256 16) 0 (m 256 12) 0 (m 256 13)) (hL : NL 276 m 0 (m 256 16)) (hG : GO 256 266 276 m) : YC (gZ L xs) (d + 4) 90 [.ref 8, .ref (276 + k.toNat)] m nn (qU (fun m' n' => n' = nn ∧ Ty gT m' ∧ Fr wFx m m' ∧ GO 256 266 276 m')) := by
  have tb16 := hT.atp 256 16 0 40 rfl
  have hn : ∀ k : Nat, (k : Int) < m 256 16 → m (276 + k) 6 ≤ 11 := fun k hk => (hT.atp (276 + k) 6 (-1) 11 (ft276_6 (by omega))).2
  have h0 : ∀ k' : Nat, (k' : Int) < m 256 16 → m (276 + k') 0 = 4 → 0 ≤ m (276 + k') 6 := fun k' hk' h4 => ((hR.1 k' (by omega) hk').2 h4).1
  have hin : m (276 + k.toNat) 0 = 4 → ∀ k' : Nat, (k' : Int) < m 256 16 → m (276 + k') 0 = 4 → m (276 + k') 6 = m (276 + k.toNat) 6 → k' = k.toNat := by
    intro h4 k' hk' h4' h6
    rcases Nat.lt_trichotomy k' k.toNat with q | q | q
    · have := hR.2.1 k' k.toNat (by omega) q (by omega) h4' h4; omega
    · exact q
    · have := hR.2.1 k.toNat k' (by omega) q (by omega) h4 h4'; omega
  have hsv := (hR.1 k.toNat (by omega) (by omega)).1
  unfold SV at hsv
  obtain ⟨s1, s2, s3, s4, s5⟩ := hsv
  have hl := hL k.toNat (by omega) (by omega)
  refine YC.mkB [some (.ref 8), some (.ref (276 + k.toNat))] kn90 rfl rfl ?_
  have hF : Fr wFx m m := Fr.rf
  refine y_aload 1 c90_0 rfl rfl rfl ?_
  refine y_getX 4 (m (276 + k.toNat) 0) c90_1 rfl (ff276_0 (by omega)) rfl ?_
  have tb4439 := hT.atp (276 + k.toNat) 0 0 9 (ft276_0 (by omega))
  by_cases hk4440 : m (276 + k.toNat) 0 = 2
  · refine y_top 2 hk4440 ?_
    refine y_tsw 72 c90_4 (by decide) (by decide) rfl rfl ?_
    refine y_aload 73 c90_72 rfl rfl rfl ?_
    refine y_aload 74 c90_73 rfl rfl rfl ?_
    refine y_getR 77 c90_74 rfl kf8_0 ?_
    refine y_aload 78 c90_77 rfl rfl rfl ?_
    refine y_getX 81 (m (276 + k.toNat) 3) c90_78 rfl (ff276_3 (by omega)) rfl ?_
    have tb4441 := hT.atp (276 + k.toNat) 3 ((-1)) 47 (ft276_3 (by omega))
    refine y_aaload 82 c90_81 rfl kr9 (by omega) ?_
    refine y_aload 83 c90_82 rfl rfl rfl ?_
    refine y_getR 86 c90_83 rfl kf8_0 ?_
    refine y_aload 87 c90_86 rfl rfl rfl ?_
    refine y_getX 90 (m (276 + k.toNat) 2) c90_87 rfl (ff276_2 (by omega)) rfl ?_
    have tb4442 := hT.atp (276 + k.toNat) 2 ((-1)) 47 (ft276_2 (by omega))
    refine y_aaload 91 c90_90 rfl kr9 (by omega) ?_
    have tb4444 := hT.atp 8 4 ((-1)) 1 rfl
    refine y_callUB 94 [.ref 8, .ref (10 + (m (276 + k.toNat) 3).toNat), .ref (10 + (m (276 + k.toNat) 2).toNat)] [] c90_91 rfl rfl rfl rfl rfl (ycanO km80 ko8) (t80_256 hT (by omega) (fa10 (by omega)) (fun _ => fz10 (by omega)) (fa10 (by omega)) (fun _ => fz10 (by omega)) (by omega)) (fun mq4443 nq4443 hq4443 => ?_)
    obtain ⟨rfl, hTq4443, hFq4443⟩ := hq4443
    have hF4445 := hF.tr hFq4443 (wTe_wFx (by omega))
    refine y_goto 134 c90_94 rfl ?_
    exact y_retU c90_134 ⟨rfl, hTq4443, hF4445, (hG.fr (by omega) hn (Fr.rf.tr hFq4443 (wTe_wFy (by omega))))⟩
  by_cases hk4446 : m (276 + k.toNat) 0 = 3
  · refine y_top 3 hk4446 ?_
    refine y_tsw 113 c90_4 (by decide) (by decide) rfl rfl ?_
    refine y_aload 114 c90_113 rfl rfl rfl ?_
    refine y_aload 115 c90_114 rfl rfl rfl ?_
    have tb4448 := hT.atp 8 4 ((-1)) 1 rfl
    have tb4449 := hT.atp 256 16 0 40 rfl
    have tb4450 := hT.atp 256 10 0 10 rfl
    have tb4451 := hT.atp (276 + k.toNat) 2 ((-1)) 47 (ft276_2 (by omega))
    have tb4452 := hT.atp (276 + k.toNat) 3 ((-1)) 47 (ft276_3 (by omega))
    have tb4453 := hT.atp (276 + k.toNat) 6 ((-1)) 11 (ft276_6 (by omega))
    have tb4454 := hT.atp (276 + k.toNat) 8 0 2 (ft276_8 (by omega))
    have tb4455 := hT.atp (276 + k.toNat) 9 ((-1)) 47 (ft276_9 (by omega))
    have tb4456 := hT.atp (276 + k.toNat) 10 ((-1)) 47 (ft276_10 (by omega))
    refine y_callUB 118 [.ref 8, .ref (276 + k.toNat)] [] c90_115 rfl rfl rfl rfl rfl (ycanO km85 ko8) (t85_256 (k := k) hT (by omega) (by omega) (by omega) (by omega) (by omega)) (fun mq4447 nq4447 hq4447 => ?_)
    obtain ⟨rfl, hTq4447, hFq4447⟩ := hq4447
    have hF4457 := hF.tr hFq4447 wFy_wFx
    refine y_goto 134 c90_118 rfl ?_
    exact y_retU c90_134 ⟨rfl, hTq4447, hF4457, (hG.fr (by omega) hn hFq4447)⟩
  by_cases hk4458 : m (276 + k.toNat) 0 = 4
  · refine y_top 4 hk4458 ?_
    refine y_tsw 121 c90_4 (by decide) (by decide) rfl rfl ?_
    refine y_aload 122 c90_121 rfl rfl rfl ?_
    refine y_aload 123 c90_122 rfl rfl rfl ?_
    have tb4460 := hT.atp 8 4 ((-1)) 1 rfl
    have tb4461 := hT.atp 256 16 0 40 rfl
    have tb4462 := hT.atp 256 10 0 10 rfl
    have tb4463 := hT.atp (276 + k.toNat) 2 ((-1)) 47 (ft276_2 (by omega))
    have tb4464 := hT.atp (276 + k.toNat) 3 ((-1)) 47 (ft276_3 (by omega))
    have tb4465 := hT.atp (276 + k.toNat) 6 ((-1)) 11 (ft276_6 (by omega))
    have tb4466 := hT.atp (276 + k.toNat) 8 0 2 (ft276_8 (by omega))
    have tb4467 := hT.atp (276 + k.toNat) 9 ((-1)) 47 (ft276_9 (by omega))
    have tb4468 := hT.atp (276 + k.toNat) 10 ((-1)) 47 (ft276_10 (by omega))
    refine y_callUB 126 [.ref 8, .ref (276 + k.toNat)] [] c90_123 rfl rfl rfl rfl rfl (ycanO km86 ko8) (t86_256 (k := k) hT (by omega) (by omega) (by omega) (by omega) hn (hin (by omega)) h0 hG) (fun mq4459 nq4459 hq4459 => ?_)
    obtain ⟨rfl, hTq4459, hFq4459, hGq4459⟩ := hq4459
    have hF4469 := hF.tr hFq4459 (fun _ _ e => e)
    refine y_aload 127 c90_126 rfl rfl rfl ?_
    refine y_aload 128 c90_127 rfl rfl rfl ?_
    have es4471 : mq4459 8 4 = m 8 4 := (hFq4459 8 4 rfl)
    have es4472 : mq4459 256 16 = m 256 16 := (hFq4459 256 16 rfl)
    have es4473 : mq4459 256 10 = m 256 10 := (hFq4459 256 10 rfl)
    have es4474 : mq4459 (276 + k.toNat) 0 = m (276 + k.toNat) 0 := (hFq4459 (276 + k.toNat) 0 (wFx_h (by omega)))
    have es4475 : mq4459 (276 + k.toNat) 2 = m (276 + k.toNat) 2 := (hFq4459 (276 + k.toNat) 2 (wFx_h (by omega)))
    have es4476 : mq4459 (276 + k.toNat) 3 = m (276 + k.toNat) 3 := (hFq4459 (276 + k.toNat) 3 (wFx_h (by omega)))
    have es4477 : mq4459 (276 + k.toNat) 6 = m (276 + k.toNat) 6 := (hFq4459 (276 + k.toNat) 6 (wFx_h (by omega)))
    have es4478 : mq4459 (276 + k.toNat) 8 = m (276 + k.toNat) 8 := (hFq4459 (276 + k.toNat) 8 (wFx_h (by omega)))
    have es4479 : mq4459 (276 + k.toNat) 9 = m (276 + k.toNat) 9 := (hFq4459 (276 + k.toNat) 9 (wFx_h (by omega)))
    have es4480 : mq4459 (276 + k.toNat) 10 = m (276 + k.toNat) 10 := (hFq4459 (276 + k.toNat) 10 (wFx_h (by omega)))
    refine y_callUB 131 [.ref 8, .ref (276 + k.toNat)] [] c90_128 rfl rfl rfl rfl rfl (ycanO km89 ko8) (t89_256 (k := k) hTq4459 (by omega) (by omega) (by omega) (by omega) (by omega) (hM.fr (fun k hk => hFq4459 _ _ (wFx_h (by omega))) (fun k hk => hFq4459 _ _ (wFx_h (by omega)))) (by omega) (by omega) hGq4459) (fun mq4470 nq4470 hq4470 => ?_)
    obtain ⟨rfl, hTq4470, hFq4470⟩ := hq4470
    have hF4481 := hF4469.tr hFq4470 wFy_wFx
    refine y_goto 134 c90_131 rfl ?_
    exact y_retU c90_134 ⟨rfl, hTq4470, hF4481, (hGq4459.fr (by omega) (fun j hj => by rw [hFq4459 256 16 rfl] at hj; rw [hFq4459 _ 6 (wFx_h (by omega))]; exact hn j hj) hFq4470)⟩
  by_cases hk4482 : m (276 + k.toNat) 0 = 5
  · refine y_top 5 hk4482 ?_
    refine y_tsw 52 c90_4 (by decide) (by decide) rfl rfl ?_
    refine y_aload 53 c90_52 rfl rfl rfl ?_
    refine y_aload 54 c90_53 rfl rfl rfl ?_
    refine y_getR 57 c90_54 rfl kf8_0 ?_
    refine y_aload 58 c90_57 rfl rfl rfl ?_
    refine y_getX 61 (m (276 + k.toNat) 2) c90_58 rfl (ff276_2 (by omega)) rfl ?_
    have tb4483 := hT.atp (276 + k.toNat) 2 ((-1)) 47 (ft276_2 (by omega))
    refine y_aaload 62 c90_61 rfl kr9 (by omega) ?_
    refine y_aload 63 c90_62 rfl rfl rfl ?_
    refine y_getX 66 (m (276 + k.toNat) 6) c90_63 rfl (ff276_6 (by omega)) rfl ?_
    have tb4484 := hT.atp (276 + k.toNat) 6 ((-1)) 11 (ft276_6 (by omega))
    refine y_callUB 69 [.ref 8, .ref (10 + (m (276 + k.toNat) 2).toNat), yI (m (276 + k.toNat) 6)] [] c90_66 rfl rfl rfl rfl rfl (ycanO km79 ko8) (t79 hT (fa10 (by omega)) (fun _ => fz10 (by omega)) (by omega) (by omega)) (fun mq4485 nq4485 hq4485 => ?_)
    obtain ⟨rfl, hTq4485, hFq4485, hq4485⟩ := hq4485
    have hF4486 := hF.tr hFq4485 (wTe_wFx (by omega))
    refine y_goto 134 c90_69 rfl ?_
    exact y_retU c90_134 ⟨rfl, hTq4485, hF4486, (hG.fr (by omega) hn (Fr.rf.tr hFq4485 (wTe_wFy (by omega))))⟩
  by_cases hk4487 : m (276 + k.toNat) 0 = 6
  · refine y_top 6 hk4487 ?_
    refine y_tsw 134 c90_4 (by decide) (by decide) rfl rfl ?_
    exact y_retU c90_134 ⟨rfl, hT, hF, hG⟩
  by_cases hk4488 : m (276 + k.toNat) 0 = 7
  · refine y_top 7 hk4488 ?_
    refine y_tsw 97 c90_4 (by decide) (by decide) rfl rfl ?_
    refine y_aload 98 c90_97 rfl rfl rfl ?_
    refine y_aload 99 c90_98 rfl rfl rfl ?_
    have tb4490 := hT.atp 8 4 ((-1)) 1 rfl
    have tb4491 := hT.atp 256 16 0 40 rfl
    have tb4492 := hT.atp 256 10 0 10 rfl
    have tb4493 := hT.atp (276 + k.toNat) 2 ((-1)) 47 (ft276_2 (by omega))
    have tb4494 := hT.atp (276 + k.toNat) 3 ((-1)) 47 (ft276_3 (by omega))
    have tb4495 := hT.atp (276 + k.toNat) 6 ((-1)) 11 (ft276_6 (by omega))
    have tb4496 := hT.atp (276 + k.toNat) 8 0 2 (ft276_8 (by omega))
    have tb4497 := hT.atp (276 + k.toNat) 9 ((-1)) 47 (ft276_9 (by omega))
    have tb4498 := hT.atp (276 + k.toNat) 10 ((-1)) 47 (ft276_10 (by omega))
    refine y_callUB 102 [.ref 8, .ref (276 + k.toNat)] [] c90_99 rfl rfl rfl rfl rfl (ycanO km82 ko8) (t82_256 (k := k) hT (by omega) (by omega) (by omega) (by omega)) (fun mq4489 nq4489 hq4489 => ?_)
    obtain ⟨rfl, hTq4489, hFq4489⟩ := hq4489
    have hF4499 := hF.tr hFq4489 wFy_wFx
    refine y_goto 134 c90_102 rfl ?_
    exact y_retU c90_134 ⟨rfl, hTq4489, hF4499, (hG.fr (by omega) hn hFq4489)⟩
  by_cases hk4500 : m (276 + k.toNat) 0 = 8
  · refine y_top 8 hk4500 ?_
    refine y_tsw 72 c90_4 (by decide) (by decide) rfl rfl ?_
    refine y_aload 73 c90_72 rfl rfl rfl ?_
    refine y_aload 74 c90_73 rfl rfl rfl ?_
    refine y_getR 77 c90_74 rfl kf8_0 ?_
    refine y_aload 78 c90_77 rfl rfl rfl ?_
    refine y_getX 81 (m (276 + k.toNat) 3) c90_78 rfl (ff276_3 (by omega)) rfl ?_
    have tb4501 := hT.atp (276 + k.toNat) 3 ((-1)) 47 (ft276_3 (by omega))
    refine y_aaload 82 c90_81 rfl kr9 (by omega) ?_
    refine y_aload 83 c90_82 rfl rfl rfl ?_
    refine y_getR 86 c90_83 rfl kf8_0 ?_
    refine y_aload 87 c90_86 rfl rfl rfl ?_
    refine y_getX 90 (m (276 + k.toNat) 2) c90_87 rfl (ff276_2 (by omega)) rfl ?_
    have tb4502 := hT.atp (276 + k.toNat) 2 ((-1)) 47 (ft276_2 (by omega))
    refine y_aaload 91 c90_90 rfl kr9 (by omega) ?_
    have tb4504 := hT.atp 8 4 ((-1)) 1 rfl
    refine y_callUB 94 [.ref 8, .ref (10 + (m (276 + k.toNat) 3).toNat), .ref (10 + (m (276 + k.toNat) 2).toNat)] [] c90_91 rfl rfl rfl rfl rfl (ycanO km80 ko8) (t80_256 hT (by omega) (fa10 (by omega)) (fun _ => fz10 (by omega)) (fa10 (by omega)) (fun _ => fz10 (by omega)) (by omega)) (fun mq4503 nq4503 hq4503 => ?_)
    obtain ⟨rfl, hTq4503, hFq4503⟩ := hq4503
    have hF4505 := hF.tr hFq4503 (wTe_wFx (by omega))
    refine y_goto 134 c90_94 rfl ?_
    exact y_retU c90_134 ⟨rfl, hTq4503, hF4505, (hG.fr (by omega) hn (Fr.rf.tr hFq4503 (wTe_wFy (by omega))))⟩
  by_cases hk4506 : m (276 + k.toNat) 0 = 9
  · refine y_top 9 hk4506 ?_
    refine y_tsw 105 c90_4 (by decide) (by decide) rfl rfl ?_
    refine y_aload 106 c90_105 rfl rfl rfl ?_
    refine y_aload 107 c90_106 rfl rfl rfl ?_
    have tb4508 := hT.atp 8 4 ((-1)) 1 rfl
    have tb4509 := hT.atp 256 16 0 40 rfl
    have tb4510 := hT.atp 256 10 0 10 rfl
    have tb4511 := hT.atp (276 + k.toNat) 2 ((-1)) 47 (ft276_2 (by omega))
    have tb4512 := hT.atp (276 + k.toNat) 3 ((-1)) 47 (ft276_3 (by omega))
    have tb4513 := hT.atp (276 + k.toNat) 6 ((-1)) 11 (ft276_6 (by omega))
    have tb4514 := hT.atp (276 + k.toNat) 8 0 2 (ft276_8 (by omega))
    have tb4515 := hT.atp (276 + k.toNat) 9 ((-1)) 47 (ft276_9 (by omega))
    have tb4516 := hT.atp (276 + k.toNat) 10 ((-1)) 47 (ft276_10 (by omega))
    refine y_callUB 110 [.ref 8, .ref (276 + k.toNat)] [] c90_107 rfl rfl rfl rfl rfl (ycanO km84 ko8) (t84_256 (k := k) hT (by omega) (by omega) (by omega) (by omega) (by omega)) (fun mq4507 nq4507 hq4507 => ?_)
    obtain ⟨rfl, hTq4507, hFq4507⟩ := hq4507
    have hF4517 := hF.tr hFq4507 wFy_wFx
    refine y_goto 134 c90_110 rfl ?_
    exact y_retU c90_134 ⟨rfl, hTq4507, hF4517, (hG.fr (by omega) hn hFq4507)⟩
  refine y_tswd 134 c90_4 (by omega) (by omega) rfl ?_
  exact y_retU c90_134 ⟨rfl, hT, hF, hG⟩
def wFd8 (a q : Nat) : Bool := (a == 8 && (q == 4 || q == 5 || q == 6)) || decide (9 ≤ a ∧ a < 169)
theorem wFx_wFd8 : ∀ a q, wFx a q = true → wFd8 a q = true := by
  intro a q h
  simp [wFx] at h
  simp [wFd8]
  omega
theorem wFd8_10 {k q : Nat} (h : k < 48) : wFd8 (10 + k) q = true := by
  simp [wFd8]
  omega
theorem wFd8_h {a q : Nat} (h : 169 ≤ a) : wFd8 a q = false := by
  cases e : wFd8 a q with
  | false => rfl
  | true => simp [wFd8] at e <;> omega
theorem GO.n8 {A B S : Nat} {m : yM} {q : Nat} {v : Int} (h : GO A B S m) (hA : 169 ≤ A ∧ 169 ≤ B ∧ 169 ≤ S := by decide) : GO A B S (yup m 8 q v) := by
  intro k hk h4 i hi hne
  rw [yup_na (by omega)] at hk hi h4
  rw [yup_na (by omega), yup_na (by omega)] at hne
  rw [yup_na (by omega), yup_na (by omega)]
  exact h k hk h4 i hi hne
set_option maxRecDepth 100000 in
theorem t91b_256 {L : Nat} {xs : Nat → Int32} {d nn : Nat} {m : yM} (hT : Ty gT m) (hM : MP 266 m) (hR : RG 276 265 m 0 (m 256 16) 0 (m 256 12) 0 (m 256 13)) (hL : NL 276 m 0 (m 256 16)) {r : Int} (hr : 0 ≤ r ∧ r < 2000) (ho : ∀ (x2 x3 : Option Value) (mi : yM), Ty gT mi → Fr wFd8 m mi → mi 8 5 = r + 1 → mi 8 4 = 0 → GO 256 266 276 mi → YW (gZ L xs) 91 (d + 5) 65 [some (.ref 8), some (.ref 256), x2, x3] [] mi nn (qU (fun m' n' => n' = nn ∧ Ty gT m' ∧ Fr wFd8 m m' ∧ m' 8 4 = 0))) : ∀ (km : Nat) (i : Int) (x3 : Option Value) (mi : yM), m 256 16 - i = km → 0 ≤ i ∧ i ≤ m 256 16 → Ty gT mi → Fr wFd8 m mi → mi 8 5 = r → mi 8 4 = 0 → GO 256 266 276 mi → YW (gZ L xs) 91 (d + 5) 88 [some (.ref 8), some (.ref 256), some (yI i), x3] [] mi nn (qU (fun m' n' => n' = nn ∧ Ty gT m' ∧ Fr wFd8 m m' ∧ m' 8 4 = 0)) := by
  intro km
  induction km using Nat.strongRecOn with
  | ind km ih =>
    intro i x3 mi hk hi hTi hFi h5 h4 hGi
    have tb := hT.atp 256 16 0 40 rfl
    refine y_iload 89 c91_88 rfl rfl ?_
    refine y_aload 90 c91_89 rfl rfl rfl ?_
    refine y_getS 93 (B := 256) c91_90 rfl kf8_4 (by first | rfl | (rw [show mi 8 4 = 0 from by have e : mi 8 4 = mi 8 4 := rfl; omega]; rfl)) ?_
    refine y_getX 96 (m 256 16) c91_93 rfl kf256_16 (hFi 256 16 rfl) ?_
    refine y_icmp 136 99 c91_96 rfl rfl (yc_ge (by omega) (by omega)) (fun hb4518 => ?_) (fun hb4518 => ?_)
    · refine y_aload 137 c91_136 rfl rfl rfl ?_
      refine y_dup 138 c91_137 rfl rfl ?_
      refine y_getX 141 (mi 8 5) c91_138 rfl kf8_5 rfl ?_
      have tb4519 := hTi.atp 8 5 0 2000 rfl
      refine y_iconst 142 c91_141 rfl ?_
      refine y_iadd 143 c91_142 rfl ?_
      refine y_putI 146 c91_143 rfl kf8_5 (y_fit0 _) ?_
      have hT4520 := hTi.up 8 5 ((mi 8 5) + 1) 0 2000 rfl (by omega)
      have hF4521 := hFi.up 8 5 ((mi 8 5) + 1) rfl
      refine y_goto 65 c91_146 rfl ?_
      have es4522 : (yup mi 8 5 ((mi 8 5) + 1)) 8 5 = (mi 8 5) + 1 := rfl
      have es4523 : (yup mi 8 5 ((mi 8 5) + 1)) 8 4 = mi 8 4 := rfl
      have tb4524 := hTi.atp 8 4 ((-1)) 1 rfl
      refine ho _ _ _ hT4520 hF4521 (by omega) (by omega) ?_
      exact GO.n8 hGi
    · refine y_aload 100 c91_99 rfl rfl rfl ?_
      refine y_getS 103 (B := 256) c91_100 rfl kf8_4 (by first | rfl | (rw [show mi 8 4 = 0 from by have e : mi 8 4 = mi 8 4 := rfl; omega]; rfl)) ?_
      refine y_getR 106 c91_103 rfl kf256_6 ?_
      refine y_iload 107 c91_106 rfl rfl ?_
      refine y_aaload 108 c91_107 rfl kr263 (by omega) ?_
      refine y_astore 109 c91_108 rfl rfl rfl ?_
      refine y_aload 110 c91_109 rfl rfl rfl ?_
      refine y_aload 111 c91_110 rfl rfl rfl ?_
      refine y_getR 114 c91_111 rfl kf8_2 ?_
      refine y_aload 115 c91_114 rfl rfl rfl ?_
      refine y_getX 118 (m (276 + i.toNat) 1) c91_115 rfl (ff276_1 (by omega)) (hFi (276 + i.toNat) 1 (wFd8_h (by omega))) ?_
      have tb4525 := hT.atp (276 + i.toNat) 1 0 9 (ft276_1 (by omega))
      refine y_iaT 119 ((-2147483648)) 2147483647 c91_118 rfl ka71 (by omega) hTi rfl (fun v4526 hv4526 gv4526 => ?_)
      refine y_callP 122 [.ref 8, yI v4526] [] c91_119 rfl rfl rfl rfl rfl (ycanO km78 ko8) (t78 hTi (by omega)) (fun r4527 hr4527 => ?_)
      refine y_if 130 125 c91_122 rfl rfl (yz_eq (by omega)) (fun hb4528 => ?_) (fun hb4528 => ?_)
      · refine y_iinc 133 c91_130 rfl rfl rfl ?_
        refine y_goto 88 c91_133 rfl ?_
        exact ih (m 256 16 - (i + 1) : Int).toNat (by omega) (i + 1) _  _ (by omega) (by omega) hTi hFi (by have e : mi 8 5 = mi 8 5 := rfl; omega) (by have e : mi 8 4 = mi 8 4 := rfl; omega) hGi
      · refine y_aload 126 c91_125 rfl rfl rfl ?_
        refine y_aload 127 c91_126 rfl rfl rfl ?_
        have tb4530 := hTi.atp 8 4 ((-1)) 1 rfl
        have es4531 : mi 256 16 = m 256 16 := (hFi 256 16 rfl)
        have eq4529_16 := hFi 256 16 rfl
        have eq4529_12 := hFi 256 12 rfl
        have eq4529_13 := hFi 256 13 rfl
        refine y_callUB 130 [.ref 8, .ref (276 + i.toNat)] [] c91_127 rfl rfl rfl rfl rfl (ycanO km90 ko8) (t90_256 (k := i) hTi (by omega) (by omega) (by omega) (hM.fr (fun k hk => hFi _ _ (wFd8_h (by omega))) (fun k hk => hFi _ _ (wFd8_h (by omega)))) (by rw [eq4529_16, eq4529_12, eq4529_13]; exact (hR.fr (m' := mi) (c3 := m 256 12) (fun j _ _ q _ => hFi _ _ (wFd8_h (by omega))) (fun z _ _ => hFi 265 z rfl) (Int.le_refl _))) (by rw [eq4529_16]; exact hL.fr (fun j _ _ => ⟨hFi _ _ (wFd8_h (by omega)), hFi _ _ (wFd8_h (by omega))⟩)) hGi) (fun mq4529 nq4529 hq4529 => ?_)
        obtain ⟨rfl, hTq4529, hFq4529, hGq4529⟩ := hq4529
        have hF4532 := hFi.tr hFq4529 wFx_wFd8
        refine y_iinc 133 c91_130 rfl rfl rfl ?_
        refine y_goto 88 c91_133 rfl ?_
        exact ih (m 256 16 - (i + 1) : Int).toNat (by omega) (i + 1) _  _ (by omega) (by omega) hTq4529 hF4532 (by have e : mq4529 8 5 = mi 8 5 := (hFq4529 8 5 rfl); omega) (by have e : mq4529 8 4 = mi 8 4 := (hFq4529 8 4 rfl); omega) hGq4529
set_option maxRecDepth 100000 in
theorem t91a_256 {L : Nat} {xs : Nat → Int32} {d nn : Nat} {m : yM} (hT : Ty gT m) (hM : MP 266 m) (hR : RG 276 265 m 0 (m 256 16) 0 (m 256 12) 0 (m 256 13)) (hL : NL 276 m 0 (m 256 16)) : ∀ (k : Nat) (x2 x3 : Option Value) (mi : yM), 2000 - mi 8 5 = k → Ty gT mi → Fr wFd8 m mi → mi 8 4 = 0 → GO 256 266 276 mi → YW (gZ L xs) 91 (d + 5) 65 [some (.ref 8), some (.ref 256), x2, x3] [] mi nn (qU (fun m' n' => n' = nn ∧ Ty gT m' ∧ Fr wFd8 m m' ∧ m' 8 4 = 0)) := by
  intro k
  induction k using Nat.strongRecOn with
  | ind k ih =>
    intro x2 x3 mi hk hTi hFi h4 hGi
    have tb5 := hTi.atp 8 5 0 2000 rfl
    have tbm := hT.atp 256 16 0 40 rfl
    refine y_aload 66 c91_65 rfl rfl rfl ?_
    refine y_getX 69 (mi 8 5) c91_66 rfl kf8_5 rfl ?_
    refine y_iconst 72 c91_69 rfl ?_
    refine y_icmp 149 75 c91_72 rfl rfl (yc_ge (by omega) (by omega)) (fun hb4533 => ?_) (fun hb4533 => ?_)
    · exact y_retU c91_149 ⟨rfl, hTi, hFi, h4⟩
    · refine y_aload 76 c91_75 rfl rfl rfl ?_
      refine y_getX 79 (mi 8 5) c91_76 rfl kf8_5 rfl ?_
      refine y_aload 80 c91_79 rfl rfl rfl ?_
      refine y_getX 83 (mi 8 6) c91_80 rfl kf8_6 rfl ?_
      have tb4534 := hTi.atp 8 6 0 2001 rfl
      refine y_icmp 149 86 c91_83 rfl rfl (yc_ne (by omega) (by omega)) (fun hb4535 => ?_) (fun hb4535 => ?_)
      · exact y_retU c91_149 ⟨rfl, hTi, hFi, h4⟩
      · refine y_iconst 87 c91_86 rfl ?_
        refine y_istore 88 c91_87 rfl rfl ?_
        exact t91b_256 hT hM hR hL (r := mi 8 5) (by omega) (fun y2 y3 mj j1 j2 j3 j4 j5 => ih (2000 - mj 8 5).toNat (by omega) y2 y3 mj (by omega) j1 j2 j4 j5) (m 256 16 - 0).toNat 0 _ mi (by omega) (by omega) hTi hFi rfl h4 hGi
set_option maxRecDepth 100000 in
theorem t91_256 {L : Nat} {xs : Nat → Int32} {d nn : Nat} {m : yM} (hT : Ty gT m) (hM : MP 266 m) (hR : RG 276 265 m 0 (m 256 16) 0 (m 256 12) 0 (m 256 13)) (hL : NL 276 m 0 (m 256 16)) : YC (gZ L xs) (d + 5) 91 [.ref 8, .ref 256] m nn (qU (fun m' n' => n' = nn ∧ Ty gT m' ∧ Fr wFd8 m m' ∧ m' 8 4 = 0)) := by
  have tb16 := hT.atp 256 16 0 40 rfl
  refine YC.mkB [some (.ref 8), some (.ref 256), none, none] kn91 rfl rfl ?_
  have hF : Fr wFd8 m m := Fr.rf
  refine y_aload 1 c91_0 rfl rfl rfl ?_
  refine y_aload 2 c91_1 rfl rfl rfl ?_
  refine y_putS 5 0 c91_2 rfl kf8_4 rfl ?_
  have hT4536 := hT.up 8 4 0 ((-1)) 1 rfl (by omega)
  have hF4537 := hF.up 8 4 0 rfl
  refine y_aload 6 c91_5 rfl rfl rfl ?_
  refine y_callUB 9 [.ref 8] [] c91_6 rfl rfl rfl rfl rfl (ycanO km77 ko8) (t77 hT4536) (fun mq4538 nq4538 hq4538 => ?_)
  obtain ⟨rfl, hTq4538, hFq4538, hq4538, hzq4538⟩ := hq4538
  have hF4539 := hF4537.tr hFq4538 wFx_wFd8
  refine y_aload 10 c91_9 rfl rfl rfl ?_
  refine y_getS 13 (B := 256) c91_10 rfl kf8_4 (by first | rfl | (rw [show mq4538 8 4 = 0 from by have e : mq4538 8 4 = 0 := ((hFq4538 8 4 rfl).trans (yup_eq _ _ _ _)); omega]; rfl)) ?_
  refine y_getX 16 (m 256 17) c91_13 rfl kf256_17 ((hFq4538 256 17 rfl).trans (yup_na (by decide))) ?_
  have tb4540 := hT.atp 256 17 ((-1)) 9 rfl
  refine y_iconst 17 c91_16 rfl ?_
  refine y_icmp 21 20 c91_17 rfl rfl (yc_ne (by omega) (by omega)) (fun hb4541 => ?_) (fun hb4541 => ?_)
  · refine y_aload 22 c91_21 rfl rfl rfl ?_
    refine y_getR 25 c91_22 rfl kf8_2 ?_
    refine y_aload 26 c91_25 rfl rfl rfl ?_
    refine y_getS 29 (B := 256) c91_26 rfl kf8_4 (by first | rfl | (rw [show mq4538 8 4 = 0 from by have e : mq4538 8 4 = 0 := ((hFq4538 8 4 rfl).trans (yup_eq _ _ _ _)); omega]; rfl)) ?_
    refine y_getX 32 (m 256 17) c91_29 rfl kf256_17 ((hFq4538 256 17 rfl).trans (yup_na (by decide))) ?_
    refine y_iconst 33 c91_32 rfl ?_
    refine y_iastore 34 c91_33 rfl ka71 (by omega) (y_nar0 _) ?_
    have hT4542 := hTq4538.up 71 ((m 256 17).toNat) 0 ((-2147483648)) 2147483647 rfl (by omega)
    have hF4543 := hF4539.up 71 ((m 256 17).toNat) 0 rfl
    refine y_aload 35 c91_34 rfl rfl rfl ?_
    refine y_getR 38 c91_35 rfl kf8_0 ?_
    refine y_aload 39 c91_38 rfl rfl rfl ?_
    refine y_getS 42 (B := 256) c91_39 rfl kf8_4 (by first | rfl | (rw [show (yup mq4538 71 ((m 256 17).toNat) 0) 8 4 = 0 from by have e : (yup mq4538 71 ((m 256 17).toNat) 0) 8 4 = 0 := ((yup_na (by decide)).trans ((hFq4538 8 4 rfl).trans (yup_eq _ _ _ _))); omega]; rfl)) ?_
    refine y_getR 45 c91_42 rfl kf256_5 ?_
    refine y_aload 46 c91_45 rfl rfl rfl ?_
    refine y_getS 49 (B := 256) c91_46 rfl kf8_4 (by first | rfl | (rw [show (yup mq4538 71 ((m 256 17).toNat) 0) 8 4 = 0 from by have e : (yup mq4538 71 ((m 256 17).toNat) 0) 8 4 = 0 := ((yup_na (by decide)).trans ((hFq4538 8 4 rfl).trans (yup_eq _ _ _ _))); omega]; rfl)) ?_
    refine y_getX 52 (m 256 17) c91_49 rfl kf256_17 ((yup_na (by decide)).trans ((hFq4538 256 17 rfl).trans (yup_na (by decide)))) ?_
    refine y_aaload 53 c91_52 rfl kr262 (by omega) ?_
    refine y_callP 56 [.ref (266 + (m 256 17).toNat)] [.ref 9] c91_53 rfl rfl rfl rfl rfl (ycanO km57 (fo266 (by omega))) (t57_256 hT4542 (by omega)) (fun r4544 hr4544 => ?_)
    refine y_aaload 57 c91_56 rfl kr9 (by omega) ?_
    refine y_iconst 58 c91_57 rfl ?_
    refine y_iconst 59 c91_58 rfl ?_
    refine y_iastore 60 c91_59 rfl (fa10 (by omega)) (by omega) (y_nar0 _) ?_
    have hT4545 := hT4542.up (10 + r4544.toNat) ((0 : Int).toNat) 0 ((-2147483648)) 2147483647 (fz10 (by omega)) (by omega)
    have hF4546 := hF4543.up (10 + r4544.toNat) ((0 : Int).toNat) 0 (wFd8_10 (by omega))
    refine y_aload 61 c91_60 rfl rfl rfl ?_
    refine y_iconst 62 c91_61 rfl ?_
    refine y_putI 65 c91_62 rfl kf8_5 (y_fit0 _) ?_
    have hT4547 := hT4545.up 8 5 0 0 2000 rfl (by omega)
    have hF4548 := hF4546.up 8 5 0 rfl
    have es4549 : (yup (yup (yup mq4538 71 ((m 256 17).toNat) 0) (10 + r4544.toNat) ((0 : Int).toNat) 0) 8 5 0) 8 5 = 0 := rfl
    have es4550 : (yup (yup (yup mq4538 71 ((m 256 17).toNat) 0) (10 + r4544.toNat) ((0 : Int).toNat) 0) 8 5 0) 8 4 = 0 := ((yup_nk (by decide)).trans ((yup_na (by omega)).trans ((yup_na (by decide)).trans ((hFq4538 8 4 rfl).trans (yup_eq _ _ _ _)))))
    have hg : GO 256 266 276 (yup (yup (yup mq4538 71 ((m 256 17).toNat) 0) (10 + r4544.toNat) ((0 : Int).toNat) 0) 8 5 0) := by
      intro k hk h4 i hi hne
      exfalso
      apply hne
      rw [hF4548 _ _ (wFd8_h (by omega))] at hk hi
      rw [hF4548 _ 6 (wFd8_h (by omega))]
      have t6 := hT.atp (276 + k) 6 (-1) 11 (ft276_6 (by omega))
      have t10 := hT.atp 256 10 0 10 rfl
      exact ((yup_na (by omega)).trans ((yup_na (by omega)).trans ((yup_na (by omega)).trans (hzq4538 _ i (by omega) (by omega)))))
    exact t91a_256 hT hM hR hL 2000 none none _ (by omega) hT4547 hF4548 (by omega) hg
  · have es4551 : mq4538 8 4 = 0 := ((hFq4538 8 4 rfl).trans (yup_eq _ _ _ _))
    exact y_retU c91_20 ⟨rfl, hTq4538, hF4539, by omega⟩
set_option maxRecDepth 100000 in
theorem t93b_256 {L : Nat} {xs : Nat → Int32} {d nn : Nat} {m : yM} (hT : Ty gT m) (hp : m 8 4 = 0) {v : Int} (hv : 0 ≤ v ∧ v < m 256 15) (ho : (∀ (f : Int) (x3 : Option Value), 0 ≤ f ∧ f ≤ 12 * (v + 1) → YW (gZ L xs) 93 d 4 [some (.ref 8), some (yI f), some (yI (v + 1)), x3] [] m nn (qP m nn (fun r => -2147483648 ≤ r ∧ r < 2147483648)))) : ∀ (km : Nat) (f : Int) (i : Int), m 256 14 - i = km → 0 ≤ i ∧ i ≤ m 256 14 → 0 ≤ f ∧ f ≤ 12 * v + i → YW (gZ L xs) 93 d 17 [some (.ref 8), some (yI f), some (yI v), some (yI i)] [] m nn (qP m nn (fun r => -2147483648 ≤ r ∧ r < 2147483648)) := by
  intro km
  induction km using Nat.strongRecOn with
  | ind km ih =>
    intro f i hk hi hf
    have tb := hT.atp 256 14 0 12 rfl
    have tb2 := hT.atp 256 15 0 48 rfl
    refine y_iload 18 c93_17 rfl rfl ?_
    refine y_aload 19 c93_18 rfl rfl rfl ?_
    refine y_getS 22 (B := 256) c93_19 rfl kf8_4 (by first | rfl | (rw [show m 8 4 = 0 from by have e : m 8 4 = m 8 4 := rfl; omega]; rfl)) ?_
    refine y_getX 25 (m 256 14) c93_22 rfl kf256_14 rfl ?_
    refine y_icmp 49 28 c93_25 rfl rfl (yc_ge (by omega) (by omega)) (fun hb4552 => ?_) (fun hb4552 => ?_)
    · refine y_iinc 52 c93_49 rfl rfl rfl ?_
      refine y_goto 4 c93_52 rfl ?_
      exact ho f _ (by omega)
    · refine y_aload 29 c93_28 rfl rfl rfl ?_
      refine y_getR 32 c93_29 rfl kf8_0 ?_
      refine y_iload 33 c93_32 rfl rfl ?_
      refine y_aaload 34 c93_33 rfl kr9 (by omega) ?_
      refine y_iload 35 c93_34 rfl rfl ?_
      refine y_iaT 36 ((-2147483648)) 2147483647 c93_35 rfl (fa10 (by omega)) (by omega) hT (fz10 (by omega)) (fun v4553 hv4553 gv4553 => ?_)
      refine y_iconst 37 c93_36 rfl ?_
      refine y_icmp 43 40 c93_37 rfl rfl (yc_eq (by omega) (by omega)) (fun hb4554 => ?_) (fun hb4554 => ?_)
      · refine y_iinc 46 c93_43 rfl rfl rfl ?_
        refine y_goto 17 c93_46 rfl ?_
        exact ih (m 256 14 - (i + 1) : Int).toNat (by omega) f (i + 1)   (by omega) (by omega) (by omega)
      · refine y_iinc 43 c93_40 rfl rfl rfl ?_
        refine y_iinc 46 c93_43 rfl rfl rfl ?_
        refine y_goto 17 c93_46 rfl ?_
        exact ih (m 256 14 - (i + 1) : Int).toNat (by omega) (f + 1) (i + 1)   (by omega) (by omega) (by omega)
set_option maxRecDepth 100000 in
theorem t93a_256 {L : Nat} {xs : Nat → Int32} {d nn : Nat} {m : yM} (hT : Ty gT m) (hp : m 8 4 = 0) : ∀ (km : Nat) (f : Int) (v : Int) (x3 : Option Value), m 256 15 - v = km → 0 ≤ v ∧ v ≤ m 256 15 → 0 ≤ f ∧ f ≤ 12 * v → YW (gZ L xs) 93 d 4 [some (.ref 8), some (yI f), some (yI v), x3] [] m nn (qP m nn (fun r => -2147483648 ≤ r ∧ r < 2147483648)) := by
  intro km
  induction km using Nat.strongRecOn with
  | ind km ih =>
    intro f v x3 hk hv hf
    have tb := hT.atp 256 14 0 12 rfl
    have tb2 := hT.atp 256 15 0 48 rfl
    refine y_iload 5 c93_4 rfl rfl ?_
    refine y_aload 6 c93_5 rfl rfl rfl ?_
    refine y_getS 9 (B := 256) c93_6 rfl kf8_4 (by first | rfl | (rw [show m 8 4 = 0 from by have e : m 8 4 = m 8 4 := rfl; omega]; rfl)) ?_
    refine y_getX 12 (m 256 15) c93_9 rfl kf256_15 rfl ?_
    refine y_icmp 55 15 c93_12 rfl rfl (yc_ge (by omega) (by omega)) (fun hb4555 => ?_) (fun hb4555 => ?_)
    · refine y_iload 56 c93_55 rfl rfl ?_
      exact y_retP c93_56 (y_fit0 _) (by omega)
    · refine y_iconst 16 c93_15 rfl ?_
      refine y_istore 17 c93_16 rfl rfl ?_
      exact t93b_256 hT hp (by omega) (fun f2 y3 hf2 => ih (m 256 15 - (v + 1)).toNat (by omega) f2 (v + 1) y3 (by omega) (by omega) (by omega)) (m 256 14 - 0).toNat f 0 (by omega) (by omega) (by omega)
set_option maxRecDepth 100000 in
theorem t93_256 {L : Nat} {xs : Nat → Int32} {d nn : Nat} {m : yM} (hT : Ty gT m) (hp : m 8 4 = 0) : YC (gZ L xs) d 93 [.ref 8] m nn (qP m nn (fun r => -2147483648 ≤ r ∧ r < 2147483648)) := by
  refine YC.mkB [some (.ref 8), none, none, none] kn93 rfl rfl ?_
  refine y_iconst 1 c93_0 rfl ?_
  refine y_istore 2 c93_1 rfl rfl ?_
  refine y_iconst 3 c93_2 rfl ?_
  refine y_istore 4 c93_3 rfl rfl ?_
  have tb2 := hT.atp 256 15 0 48 rfl
  exact t93a_256 hT hp (m 256 15 - 0).toNat 0 0 none (by omega) (by omega) (by omega)
end
section
/-! CONTRACTS: the facts. Printed by wip/whole/gen92.py -/
set_option maxRecDepth 100000 in
theorem t82a_316 {L : Nat} {xs : Nat → Int32} {d nn : Nat} {m : yM} {k : Int} (hT : Ty gT m) (hp : m 8 4 = 1) (hk : 0 ≤ k ∧ k ≤ 39) (h2 : 0 ≤ m (336 + k.toNat) 2) (h3 : 0 ≤ m (336 + k.toNat) 3) : ∀ (km : Nat) (i : Int) (mi : yM), m 316 14 - i = km → 0 ≤ i ∧ i ≤ m 316 14 → Ty gT mi → Fr wFy m mi → YW (gZ L xs) 82 (d + 2) 2 [some (.ref 8), some (.ref (336 + k.toNat)), some (yI i)] [] mi nn (qU (fun m' n' => n' = nn ∧ Ty gT m' ∧ Fr wFy m m')) := by
  intro km
  induction km using Nat.strongRecOn with
  | ind km ih =>
    intro i mi hk hi hTi hFi
    have tb := hT.atp 316 14 0 12 rfl
    refine y_iload 3 c82_2 rfl rfl ?_
    refine y_aload 4 c82_3 rfl rfl rfl ?_
    refine y_getS 7 (B := 316) c82_4 rfl kf8_4 (by first | rfl | (rw [show mi 8 4 = 1 from by have e : mi 8 4 = m 8 4 := (hFi 8 4 rfl); omega]; rfl)) ?_
    refine y_getX 10 (m 316 14) c82_7 rfl kf316_14 (hFi 316 14 rfl) ?_
    refine y_icmp 74 13 c82_10 rfl rfl (yc_ge (by omega) (by omega)) (fun hb4556 => ?_) (fun hb4556 => ?_)
    · exact y_retU c82_74 ⟨rfl, hTi, hFi⟩
    · refine y_aload 14 c82_13 rfl rfl rfl ?_
      refine y_aload 15 c82_14 rfl rfl rfl ?_
      refine y_getR 18 c82_15 rfl kf8_0 ?_
      refine y_aload 19 c82_18 rfl rfl rfl ?_
      refine y_getX 22 (m (336 + k.toNat) 3) c82_19 rfl (ff336_3 (by omega)) (hFi (336 + k.toNat) 3 (wFy_h (by omega))) ?_
      have tb4557 := hT.atp (336 + k.toNat) 3 ((-1)) 47 (ft336_3 (by omega))
      refine y_aaload 23 c82_22 rfl kr9 (by omega) ?_
      refine y_iload 24 c82_23 rfl rfl ?_
      refine y_iaT 25 ((-2147483648)) 2147483647 c82_24 rfl (fa10 (by omega)) (by omega) hTi (fz10 (by omega)) (fun v4558 hv4558 gv4558 => ?_)
      refine y_callP 28 [.ref 8, yI v4558] [] c82_25 rfl rfl rfl rfl rfl (ycanO km78 ko8) (t78 hTi (by omega)) (fun r4559 hr4559 => ?_)
      refine y_if 68 31 c82_28 rfl rfl (yz_eq (by omega)) (fun hb4560 => ?_) (fun hb4560 => ?_)
      · refine y_iinc 71 c82_68 rfl rfl rfl ?_
        refine y_goto 2 c82_71 rfl ?_
        exact ih (m 316 14 - (i + 1) : Int).toNat (by omega) (i + 1)  _ (by omega) (by omega) hTi hFi
      · refine y_aload 32 c82_31 rfl rfl rfl ?_
        refine y_getS 35 (B := 316) c82_32 rfl kf8_4 (by first | rfl | (rw [show mi 8 4 = 1 from by have e : mi 8 4 = m 8 4 := (hFi 8 4 rfl); omega]; rfl)) ?_
        refine y_aload 36 c82_35 rfl rfl rfl ?_
        refine y_getS 39 (B := 316) c82_36 rfl kf8_4 (by first | rfl | (rw [show mi 8 4 = 1 from by have e : mi 8 4 = m 8 4 := (hFi 8 4 rfl); omega]; rfl)) ?_
        refine y_getR 42 c82_39 rfl kf316_7 ?_
        refine y_iload 43 c82_42 rfl rfl ?_
        refine y_iaT 44 0 5 c82_43 rfl ka324 (by omega) hTi rfl (fun v4561 hv4561 gv4561 => ?_)
        refine y_aload 45 c82_44 rfl rfl rfl ?_
        refine y_getX 48 (m (336 + k.toNat) 7) c82_45 rfl (ff336_7 (by omega)) (hFi (336 + k.toNat) 7 (wFy_h (by omega))) ?_
        have tb4562 := hT.atp (336 + k.toNat) 7 ((-1)) 5 (ft336_7 (by omega))
        refine y_callP 51 [.ref 316, yI v4561, yI (m (336 + k.toNat) 7)] [] c82_48 rfl rfl rfl rfl rfl (ycanO km81 ko316) (t81_316 hTi (by omega) (by omega)) (fun r4563 hr4563 => ?_)
        refine y_if 68 54 c82_51 rfl rfl (yz_eq (by omega)) (fun hb4564 => ?_) (fun hb4564 => ?_)
        · refine y_iinc 71 c82_68 rfl rfl rfl ?_
          refine y_goto 2 c82_71 rfl ?_
          exact ih (m 316 14 - (i + 1) : Int).toNat (by omega) (i + 1)  _ (by omega) (by omega) hTi hFi
        · refine y_aload 55 c82_54 rfl rfl rfl ?_
          refine y_aload 56 c82_55 rfl rfl rfl ?_
          refine y_getR 59 c82_56 rfl kf8_0 ?_
          refine y_aload 60 c82_59 rfl rfl rfl ?_
          refine y_getX 63 (m (336 + k.toNat) 2) c82_60 rfl (ff336_2 (by omega)) (hFi (336 + k.toNat) 2 (wFy_h (by omega))) ?_
          have tb4565 := hT.atp (336 + k.toNat) 2 ((-1)) 47 (ft336_2 (by omega))
          refine y_aaload 64 c82_63 rfl kr9 (by omega) ?_
          refine y_iload 65 c82_64 rfl rfl ?_
          refine y_callUB 68 [.ref 8, .ref (10 + (m (336 + k.toNat) 2).toNat), yI i] [] c82_65 rfl rfl rfl rfl rfl (ycanO km79 ko8) (t79 hTi (fa10 (by omega)) (fun _ => fz10 (by omega)) (by omega) (by omega)) (fun mq4566 nq4566 hq4566 => ?_)
          obtain ⟨rfl, hTq4566, hFq4566, hq4566⟩ := hq4566
          have hF4567 := hFi.tr hFq4566 (wTe_wFy (by omega))
          refine y_iinc 71 c82_68 rfl rfl rfl ?_
          refine y_goto 2 c82_71 rfl ?_
          exact ih (m 316 14 - (i + 1) : Int).toNat (by omega) (i + 1)  _ (by omega) (by omega) hTq4566 hF4567
set_option maxRecDepth 100000 in
theorem t82_316 {L : Nat} {xs : Nat → Int32} {d nn : Nat} {m : yM} {k : Int} (hT : Ty gT m) (hp : m 8 4 = 1) (hk : 0 ≤ k ∧ k ≤ 39) (h2 : 0 ≤ m (336 + k.toNat) 2) (h3 : 0 ≤ m (336 + k.toNat) 3) : YC (gZ L xs) (d + 2) 82 [.ref 8, .ref (336 + k.toNat)] m nn (qU (fun m' n' => n' = nn ∧ Ty gT m' ∧ Fr wFy m m')) := by
  refine YC.mkB [some (.ref 8), some (.ref (336 + k.toNat)), none] kn82 rfl rfl ?_
  refine y_iconst 1 c82_0 rfl ?_
  refine y_istore 2 c82_1 rfl rfl ?_
  have tb := hT.atp 316 14 0 12 rfl
  exact t82a_316 hT hp hk h2 h3 (m 316 14 - 0).toNat 0 m (by omega) (by omega) hT Fr.rf
set_option maxRecDepth 100000 in
theorem t84a_316 {L : Nat} {xs : Nat → Int32} {d nn : Nat} {m : yM} {k : Int} (hT : Ty gT m) (hp : m 8 4 = 1) (hk : 0 ≤ k ∧ k ≤ 39) (h2 : 0 ≤ m (336 + k.toNat) 2) (h3 : 0 ≤ m (336 + k.toNat) 3) (h6 : m (336 + k.toNat) 6 ≤ 7) : ∀ (km : Nat) (i : Int) (mi : yM), m 316 14 - i = km → 0 ≤ i ∧ i ≤ m 316 14 → Ty gT mi → Fr wFy m mi → YW (gZ L xs) 84 (d + 2) 2 [some (.ref 8), some (.ref (336 + k.toNat)), some (yI i)] [] mi nn (qU (fun m' n' => n' = nn ∧ Ty gT m' ∧ Fr wFy m m')) := by
  intro km
  induction km using Nat.strongRecOn with
  | ind km ih =>
    intro i mi hk hi hTi hFi
    have tb := hT.atp 316 14 0 12 rfl
    refine y_iload 3 c84_2 rfl rfl ?_
    refine y_aload 4 c84_3 rfl rfl rfl ?_
    refine y_getS 7 (B := 316) c84_4 rfl kf8_4 (by first | rfl | (rw [show mi 8 4 = 1 from by have e : mi 8 4 = m 8 4 := (hFi 8 4 rfl); omega]; rfl)) ?_
    refine y_getX 10 (m 316 14) c84_7 rfl kf316_14 (hFi 316 14 rfl) ?_
    refine y_icmp 67 13 c84_10 rfl rfl (yc_ge (by omega) (by omega)) (fun hb4568 => ?_) (fun hb4568 => ?_)
    · exact y_retU c84_67 ⟨rfl, hTi, hFi⟩
    · refine y_aload 14 c84_13 rfl rfl rfl ?_
      refine y_aload 15 c84_14 rfl rfl rfl ?_
      refine y_getR 18 c84_15 rfl kf8_0 ?_
      refine y_aload 19 c84_18 rfl rfl rfl ?_
      refine y_getX 22 (m (336 + k.toNat) 3) c84_19 rfl (ff336_3 (by omega)) (hFi (336 + k.toNat) 3 (wFy_h (by omega))) ?_
      have tb4569 := hT.atp (336 + k.toNat) 3 ((-1)) 47 (ft336_3 (by omega))
      refine y_aaload 23 c84_22 rfl kr9 (by omega) ?_
      refine y_iload 24 c84_23 rfl rfl ?_
      refine y_iaT 25 ((-2147483648)) 2147483647 c84_24 rfl (fa10 (by omega)) (by omega) hTi (fz10 (by omega)) (fun v4570 hv4570 gv4570 => ?_)
      refine y_callP 28 [.ref 8, yI v4570] [] c84_25 rfl rfl rfl rfl rfl (ycanO km78 ko8) (t78 hTi (by omega)) (fun r4571 hr4571 => ?_)
      refine y_if 61 31 c84_28 rfl rfl (yz_eq (by omega)) (fun hb4572 => ?_) (fun hb4572 => ?_)
      · refine y_iinc 64 c84_61 rfl rfl rfl ?_
        refine y_goto 2 c84_64 rfl ?_
        exact ih (m 316 14 - (i + 1) : Int).toNat (by omega) (i + 1)  _ (by omega) (by omega) hTi hFi
      · refine y_aload 32 c84_31 rfl rfl rfl ?_
        refine y_getX 35 (m (336 + k.toNat) 6) c84_32 rfl (ff336_6 (by omega)) (hFi (336 + k.toNat) 6 (wFy_h (by omega))) ?_
        have tb4573 := hT.atp (336 + k.toNat) 6 ((-1)) 11 (ft336_6 (by omega))
        refine y_iconst 36 c84_35 rfl ?_
        refine y_icmp 61 39 c84_36 rfl rfl (yc_eq (by omega) (by omega)) (fun hb4574 => ?_) (fun hb4574 => ?_)
        · refine y_iinc 64 c84_61 rfl rfl rfl ?_
          refine y_goto 2 c84_64 rfl ?_
          exact ih (m 316 14 - (i + 1) : Int).toNat (by omega) (i + 1)  _ (by omega) (by omega) hTi hFi
        · refine y_aload 40 c84_39 rfl rfl rfl ?_
          refine y_aload 41 c84_40 rfl rfl rfl ?_
          refine y_iload 42 c84_41 rfl rfl ?_
          refine y_aload 43 c84_42 rfl rfl rfl ?_
          refine y_getX 46 (m (336 + k.toNat) 6) c84_43 rfl (ff336_6 (by omega)) (hFi (336 + k.toNat) 6 (wFy_h (by omega))) ?_
          refine y_callAB 49 [.ref 8, yI i, yI (m (336 + k.toNat) 6)] [.ref 8] c84_46 rfl rfl rfl rfl rfl (ycanO km83 ko8) (t83 (by omega) (by omega)) (fun Rq4575 mq4575 nq4575 hq4575 => ?_)
          obtain ⟨rfl, rfl, hmq4575⟩ := hq4575
          obtain rfl := hmq4575.symm
          refine y_aload 50 c84_49 rfl rfl rfl ?_
          refine y_getR 53 c84_50 rfl kf8_0 ?_
          refine y_aload 54 c84_53 rfl rfl rfl ?_
          refine y_getX 57 (m (336 + k.toNat) 2) c84_54 rfl (ff336_2 (by omega)) (hFi (336 + k.toNat) 2 (wFy_h (by omega))) ?_
          have tb4576 := hT.atp (336 + k.toNat) 2 ((-1)) 47 (ft336_2 (by omega))
          refine y_aaload 58 c84_57 rfl kr9 (by omega) ?_
          have es4578 : mi 8 4 = m 8 4 := (hFi 8 4 rfl)
          have tb4579 := hT.atp 8 4 ((-1)) 1 rfl
          refine y_callUB 61 [.ref 8, .ref (73 + (i * 8 + (m (336 + k.toNat) 6)).toNat), .ref (10 + (m (336 + k.toNat) 2).toNat)] [] c84_58 rfl rfl rfl rfl rfl (ycanO km80 ko8) (t80_316 hTi (by omega) (fa73 (by omega)) (fun _ => fz73 (by omega)) (fa10 (by omega)) (fun _ => fz10 (by omega)) (by omega)) (fun mq4577 nq4577 hq4577 => ?_)
          obtain ⟨rfl, hTq4577, hFq4577⟩ := hq4577
          have hF4580 := hFi.tr hFq4577 (wTe_wFy (by omega))
          refine y_iinc 64 c84_61 rfl rfl rfl ?_
          refine y_goto 2 c84_64 rfl ?_
          exact ih (m 316 14 - (i + 1) : Int).toNat (by omega) (i + 1)  _ (by omega) (by omega) hTq4577 hF4580
set_option maxRecDepth 100000 in
theorem t84_316 {L : Nat} {xs : Nat → Int32} {d nn : Nat} {m : yM} {k : Int} (hT : Ty gT m) (hp : m 8 4 = 1) (hk : 0 ≤ k ∧ k ≤ 39) (h2 : 0 ≤ m (336 + k.toNat) 2) (h3 : 0 ≤ m (336 + k.toNat) 3) (h6 : m (336 + k.toNat) 6 ≤ 7) : YC (gZ L xs) (d + 2) 84 [.ref 8, .ref (336 + k.toNat)] m nn (qU (fun m' n' => n' = nn ∧ Ty gT m' ∧ Fr wFy m m')) := by
  refine YC.mkB [some (.ref 8), some (.ref (336 + k.toNat)), none] kn84 rfl rfl ?_
  refine y_iconst 1 c84_0 rfl ?_
  refine y_istore 2 c84_1 rfl rfl ?_
  have tb := hT.atp 316 14 0 12 rfl
  exact t84a_316 hT hp hk h2 h3 h6 (m 316 14 - 0).toNat 0 m (by omega) (by omega) hT Fr.rf
set_option maxRecDepth 100000 in
theorem t85a_316 {L : Nat} {xs : Nat → Int32} {d nn : Nat} {m : yM} {k : Int} (hT : Ty gT m) (hp : m 8 4 = 1) (hk : 0 ≤ k ∧ k ≤ 39) (h2 : 0 ≤ m (336 + k.toNat) 2) (h3 : 0 ≤ m (336 + k.toNat) 3) (h6 : m (336 + k.toNat) 6 ≤ 7) : ∀ (km : Nat) (i : Int) (mi : yM), m 316 14 - i = km → 0 ≤ i ∧ i ≤ m 316 14 → Ty gT mi → Fr wFy m mi → YW (gZ L xs) 85 (d + 2) 2 [some (.ref 8), some (.ref (336 + k.toNat)), some (yI i)] [] mi nn (qU (fun m' n' => n' = nn ∧ Ty gT m' ∧ Fr wFy m m')) := by
  intro km
  induction km using Nat.strongRecOn with
  | ind km ih =>
    intro i mi hk hi hTi hFi
    have tb := hT.atp 316 14 0 12 rfl
    refine y_iload 3 c85_2 rfl rfl ?_
    refine y_aload 4 c85_3 rfl rfl rfl ?_
    refine y_getS 7 (B := 316) c85_4 rfl kf8_4 (by first | rfl | (rw [show mi 8 4 = 1 from by have e : mi 8 4 = m 8 4 := (hFi 8 4 rfl); omega]; rfl)) ?_
    refine y_getX 10 (m 316 14) c85_7 rfl kf316_14 (hFi 316 14 rfl) ?_
    refine y_icmp 82 13 c85_10 rfl rfl (yc_ge (by omega) (by omega)) (fun hb4581 => ?_) (fun hb4581 => ?_)
    · exact y_retU c85_82 ⟨rfl, hTi, hFi⟩
    · refine y_aload 14 c85_13 rfl rfl rfl ?_
      refine y_aload 15 c85_14 rfl rfl rfl ?_
      refine y_getR 18 c85_15 rfl kf8_0 ?_
      refine y_aload 19 c85_18 rfl rfl rfl ?_
      refine y_getX 22 (m (336 + k.toNat) 2) c85_19 rfl (ff336_2 (by omega)) (hFi (336 + k.toNat) 2 (wFy_h (by omega))) ?_
      have tb4582 := hT.atp (336 + k.toNat) 2 ((-1)) 47 (ft336_2 (by omega))
      refine y_aaload 23 c85_22 rfl kr9 (by omega) ?_
      refine y_iload 24 c85_23 rfl rfl ?_
      refine y_iaT 25 ((-2147483648)) 2147483647 c85_24 rfl (fa10 (by omega)) (by omega) hTi (fz10 (by omega)) (fun v4583 hv4583 gv4583 => ?_)
      refine y_callP 28 [.ref 8, yI v4583] [] c85_25 rfl rfl rfl rfl rfl (ycanO km78 ko8) (t78 hTi (by omega)) (fun r4584 hr4584 => ?_)
      refine y_if 76 31 c85_28 rfl rfl (yz_eq (by omega)) (fun hb4585 => ?_) (fun hb4585 => ?_)
      · refine y_iinc 79 c85_76 rfl rfl rfl ?_
        refine y_goto 2 c85_79 rfl ?_
        exact ih (m 316 14 - (i + 1) : Int).toNat (by omega) (i + 1)  _ (by omega) (by omega) hTi hFi
      · refine y_aload 32 c85_31 rfl rfl rfl ?_
        refine y_getS 35 (B := 316) c85_32 rfl kf8_4 (by first | rfl | (rw [show mi 8 4 = 1 from by have e : mi 8 4 = m 8 4 := (hFi 8 4 rfl); omega]; rfl)) ?_
        refine y_aload 36 c85_35 rfl rfl rfl ?_
        refine y_getS 39 (B := 316) c85_36 rfl kf8_4 (by first | rfl | (rw [show mi 8 4 = 1 from by have e : mi 8 4 = m 8 4 := (hFi 8 4 rfl); omega]; rfl)) ?_
        refine y_getR 42 c85_39 rfl kf316_7 ?_
        refine y_iload 43 c85_42 rfl rfl ?_
        refine y_iaT 44 0 5 c85_43 rfl ka324 (by omega) hTi rfl (fun v4586 hv4586 gv4586 => ?_)
        refine y_aload 45 c85_44 rfl rfl rfl ?_
        refine y_getX 48 (m (336 + k.toNat) 6) c85_45 rfl (ff336_6 (by omega)) (hFi (336 + k.toNat) 6 (wFy_h (by omega))) ?_
        have tb4587 := hT.atp (336 + k.toNat) 6 ((-1)) 11 (ft336_6 (by omega))
        refine y_callP 51 [.ref 316, yI v4586, yI (m (336 + k.toNat) 6)] [] c85_48 rfl rfl rfl rfl rfl (ycanO km47 ko316) (t47_316 hTi (by omega) (by omega)) (fun r4588 hr4588 => ?_)
        refine y_if 76 54 c85_51 rfl rfl (yz_eq (by omega)) (fun hb4589 => ?_) (fun hb4589 => ?_)
        · refine y_iinc 79 c85_76 rfl rfl rfl ?_
          refine y_goto 2 c85_79 rfl ?_
          exact ih (m 316 14 - (i + 1) : Int).toNat (by omega) (i + 1)  _ (by omega) (by omega) hTi hFi
        · refine y_aload 55 c85_54 rfl rfl rfl ?_
          refine y_aload 56 c85_55 rfl rfl rfl ?_
          refine y_getR 59 c85_56 rfl kf8_0 ?_
          refine y_aload 60 c85_59 rfl rfl rfl ?_
          refine y_getX 63 (m (336 + k.toNat) 3) c85_60 rfl (ff336_3 (by omega)) (hFi (336 + k.toNat) 3 (wFy_h (by omega))) ?_
          have tb4590 := hT.atp (336 + k.toNat) 3 ((-1)) 47 (ft336_3 (by omega))
          refine y_aaload 64 c85_63 rfl kr9 (by omega) ?_
          refine y_aload 65 c85_64 rfl rfl rfl ?_
          refine y_iload 66 c85_65 rfl rfl ?_
          refine y_aload 67 c85_66 rfl rfl rfl ?_
          refine y_getX 70 (m (336 + k.toNat) 6) c85_67 rfl (ff336_6 (by omega)) (hFi (336 + k.toNat) 6 (wFy_h (by omega))) ?_
          refine y_callAB 73 [.ref 8, yI i, yI (m (336 + k.toNat) 6)] [.ref (10 + (m (336 + k.toNat) 3).toNat), .ref 8] c85_70 rfl rfl rfl rfl rfl (ycanO km83 ko8) (t83 (by omega) (by omega)) (fun Rq4591 mq4591 nq4591 hq4591 => ?_)
          obtain ⟨rfl, rfl, hmq4591⟩ := hq4591
          obtain rfl := hmq4591.symm
          have es4593 : mi 8 4 = m 8 4 := (hFi 8 4 rfl)
          have tb4594 := hT.atp 8 4 ((-1)) 1 rfl
          refine y_callUB 76 [.ref 8, .ref (10 + (m (336 + k.toNat) 3).toNat), .ref (73 + (i * 8 + (m (336 + k.toNat) 6)).toNat)] [] c85_73 rfl rfl rfl rfl rfl (ycanO km80 ko8) (t80_316 hTi (by omega) (fa10 (by omega)) (fun _ => fz10 (by omega)) (fa73 (by omega)) (fun _ => fz73 (by omega)) (by omega)) (fun mq4592 nq4592 hq4592 => ?_)
          obtain ⟨rfl, hTq4592, hFq4592⟩ := hq4592
          have hF4595 := hFi.tr hFq4592 (wTe_wFy (by omega))
          refine y_iinc 79 c85_76 rfl rfl rfl ?_
          refine y_goto 2 c85_79 rfl ?_
          exact ih (m 316 14 - (i + 1) : Int).toNat (by omega) (i + 1)  _ (by omega) (by omega) hTq4592 hF4595
set_option maxRecDepth 100000 in
theorem t85_316 {L : Nat} {xs : Nat → Int32} {d nn : Nat} {m : yM} {k : Int} (hT : Ty gT m) (hp : m 8 4 = 1) (hk : 0 ≤ k ∧ k ≤ 39) (h2 : 0 ≤ m (336 + k.toNat) 2) (h3 : 0 ≤ m (336 + k.toNat) 3) (h6 : m (336 + k.toNat) 6 ≤ 7) : YC (gZ L xs) (d + 2) 85 [.ref 8, .ref (336 + k.toNat)] m nn (qU (fun m' n' => n' = nn ∧ Ty gT m' ∧ Fr wFy m m')) := by
  refine YC.mkB [some (.ref 8), some (.ref (336 + k.toNat)), none] kn85 rfl rfl ?_
  refine y_iconst 1 c85_0 rfl ?_
  refine y_istore 2 c85_1 rfl rfl ?_
  have tb := hT.atp 316 14 0 12 rfl
  exact t85a_316 hT hp hk h2 h3 h6 (m 316 14 - 0).toNat 0 m (by omega) (by omega) hT Fr.rf
set_option maxRecDepth 100000 in
theorem t86a_316 {L : Nat} {xs : Nat → Int32} {d nn : Nat} {m : yM} {k : Int} (hT : Ty gT m) (hp : m 8 4 = 1) (hk : 0 ≤ k ∧ k ≤ 39) (h3 : 0 ≤ m (336 + k.toNat) 3) (h6 : 0 ≤ m (336 + k.toNat) 6) (hn : ∀ k : Nat, (k : Int) < m 316 16 → m (336 + k) 6 ≤ 11) (hin : ∀ k' : Nat, (k' : Int) < m 316 16 → m (336 + k') 0 = 4 → m (336 + k') 6 = m (336 + k.toNat) 6 → k' = k.toNat) (h0 : ∀ k' : Nat, (k' : Int) < m 316 16 → m (336 + k') 0 = 4 → 0 ≤ m (336 + k') 6) (hG : GO 316 326 336 m) : ∀ (km : Nat) (i : Int) (x3 : Option Value) (mi : yM), m 316 14 - i = km → 0 ≤ i ∧ i ≤ m 316 14 → Ty gT mi → Fr wFx m mi → GO 316 326 336 mi → YW (gZ L xs) 86 (d + 2) 2 [some (.ref 8), some (.ref (336 + k.toNat)), some (yI i), x3] [] mi nn (qU (fun m' n' => n' = nn ∧ Ty gT m' ∧ Fr wFx m m' ∧ GO 316 326 336 m')) := by
  intro km
  induction km using Nat.strongRecOn with
  | ind km ih =>
    intro i x3 mi hk hi hTi hFi hGo
    have tb := hT.atp 316 14 0 12 rfl
    have hni : ∀ j : Nat, (j : Int) < mi 316 16 → mi (336 + j) 6 ≤ 11 := fun j hj => by rw [hFi 316 16 rfl] at hj; rw [hFi _ 6 (wFx_h (by omega))]; exact hn j hj
    have hini : ∀ j : Nat, (j : Int) < mi 316 16 → mi (336 + j) 0 = 4 → mi (336 + j) 6 = mi (336 + k.toNat) 6 → j = k.toNat := fun j hj => by rw [hFi 316 16 rfl] at hj; rw [hFi _ 0 (wFx_h (by omega)), hFi _ 6 (wFx_h (by omega)), hFi _ 6 (wFx_h (by omega))]; exact hin j hj
    have h0i : ∀ j : Nat, (j : Int) < mi 316 16 → mi (336 + j) 0 = 4 → 0 ≤ mi (336 + j) 6 := fun j hj => by rw [hFi 316 16 rfl] at hj; rw [hFi _ 0 (wFx_h (by omega)), hFi _ 6 (wFx_h (by omega))]; exact h0 j hj
    refine y_iload 3 c86_2 rfl rfl ?_
    refine y_aload 4 c86_3 rfl rfl rfl ?_
    refine y_getS 7 (B := 316) c86_4 rfl kf8_4 (by first | rfl | (rw [show mi 8 4 = 1 from by have e : mi 8 4 = m 8 4 := (hFi 8 4 rfl); omega]; rfl)) ?_
    refine y_getX 10 (m 316 14) c86_7 rfl kf316_14 (hFi 316 14 rfl) ?_
    refine y_icmp 112 13 c86_10 rfl rfl (yc_ge (by omega) (by omega)) (fun hb4596 => ?_) (fun hb4596 => ?_)
    · exact y_retU c86_112 ⟨rfl, hTi, hFi, hGo⟩
    · refine y_aload 14 c86_13 rfl rfl rfl ?_
      refine y_aload 15 c86_14 rfl rfl rfl ?_
      refine y_getR 18 c86_15 rfl kf8_0 ?_
      refine y_aload 19 c86_18 rfl rfl rfl ?_
      refine y_getX 22 (m (336 + k.toNat) 3) c86_19 rfl (ff336_3 (by omega)) (hFi (336 + k.toNat) 3 (wFx_h (by omega))) ?_
      have tb4597 := hT.atp (336 + k.toNat) 3 ((-1)) 47 (ft336_3 (by omega))
      refine y_aaload 23 c86_22 rfl kr9 (by omega) ?_
      refine y_iload 24 c86_23 rfl rfl ?_
      refine y_iaT 25 ((-2147483648)) 2147483647 c86_24 rfl (fa10 (by omega)) (by omega) hTi (fz10 (by omega)) (fun v4598 hv4598 gv4598 => ?_)
      refine y_callP 28 [.ref 8, yI v4598] [] c86_25 rfl rfl rfl rfl rfl (ycanO km78 ko8) (t78 hTi (by omega)) (fun r4599 hr4599 => ?_)
      refine y_if 106 31 c86_28 rfl rfl (yz_eq (by omega)) (fun hb4600 => ?_) (fun hb4600 => ?_)
      · refine y_iinc 109 c86_106 rfl rfl rfl ?_
        refine y_goto 2 c86_109 rfl ?_
        exact ih (m 316 14 - (i + 1) : Int).toNat (by omega) (i + 1) _  _ (by omega) (by omega) hTi hFi hGo
      · refine y_aload 32 c86_31 rfl rfl rfl ?_
        refine y_getS 35 (B := 316) c86_32 rfl kf8_4 (by first | rfl | (rw [show mi 8 4 = 1 from by have e : mi 8 4 = m 8 4 := (hFi 8 4 rfl); omega]; rfl)) ?_
        refine y_aload 36 c86_35 rfl rfl rfl ?_
        refine y_getS 39 (B := 316) c86_36 rfl kf8_4 (by first | rfl | (rw [show mi 8 4 = 1 from by have e : mi 8 4 = m 8 4 := (hFi 8 4 rfl); omega]; rfl)) ?_
        refine y_getR 42 c86_39 rfl kf316_7 ?_
        refine y_iload 43 c86_42 rfl rfl ?_
        refine y_iaT 44 0 5 c86_43 rfl ka324 (by omega) hTi rfl (fun v4601 hv4601 gv4601 => ?_)
        refine y_aload 45 c86_44 rfl rfl rfl ?_
        refine y_getX 48 (m (336 + k.toNat) 4) c86_45 rfl (ff336_4 (by omega)) (hFi (336 + k.toNat) 4 (wFx_h (by omega))) ?_
        have tb4602 := hT.atp (336 + k.toNat) 4 ((-2147483648)) 2147483647 (ft336_4 (by omega))
        refine y_aload 49 c86_48 rfl rfl rfl ?_
        refine y_getX 52 (m (336 + k.toNat) 8) c86_49 rfl (ff336_8 (by omega)) (hFi (336 + k.toNat) 8 (wFx_h (by omega))) ?_
        have tb4603 := hT.atp (336 + k.toNat) 8 0 2 (ft336_8 (by omega))
        have es4605 : mi 316 10 = m 316 10 := (hFi 316 10 rfl)
        have tb4606 := hT.atp 316 10 0 10 rfl
        refine y_callP 55 [.ref 316, yI v4601, yI (m (336 + k.toNat) 4), yI (m (336 + k.toNat) 8)] [] c86_52 rfl rfl rfl rfl rfl (ycanO km72 ko316) (t72_316 hTi (by omega) (by omega) (by omega)) (fun r4604 hr4604 => ?_)
        refine y_istore 56 c86_55 rfl rfl ?_
        refine y_iload 57 c86_56 rfl rfl ?_
        refine y_iconst 58 c86_57 rfl ?_
        refine y_icmp 106 61 c86_58 rfl rfl (yc_eq (by omega) (by omega)) (fun hb4607 => ?_) (fun hb4607 => ?_)
        · refine y_iinc 109 c86_106 rfl rfl rfl ?_
          refine y_goto 2 c86_109 rfl ?_
          exact ih (m 316 14 - (i + 1) : Int).toNat (by omega) (i + 1) _  _ (by omega) (by omega) hTi hFi hGo
        · refine y_aload 62 c86_61 rfl rfl rfl ?_
          refine y_aload 63 c86_62 rfl rfl rfl ?_
          refine y_getR 66 c86_63 rfl kf8_1 ?_
          refine y_aload 67 c86_66 rfl rfl rfl ?_
          refine y_getX 70 (m (336 + k.toNat) 6) c86_67 rfl (ff336_6 (by omega)) (hFi (336 + k.toNat) 6 (wFx_h (by omega))) ?_
          have tb4608 := hT.atp (336 + k.toNat) 6 ((-1)) 11 (ft336_6 (by omega))
          refine y_aaload 71 c86_70 rfl kr58 (by omega) ?_
          refine y_iload 72 c86_71 rfl rfl ?_
          refine y_callUB 75 [.ref 8, .ref (59 + (m (336 + k.toNat) 6).toNat), yI r4604] [] c86_72 rfl rfl rfl rfl rfl (ycanO km79 ko8) (t79 hTi (fa59 (by omega)) (fun _ => fz59 (by omega)) (by omega) (by omega)) (fun mq4609 nq4609 hq4609 => ?_)
          obtain ⟨rfl, hTq4609, hFq4609, hq4609⟩ := hq4609
          have hF4610 := hFi.tr hFq4609 (wTe_wFx (by omega))
          refine y_aload 76 c86_75 rfl rfl rfl ?_
          refine y_aload 77 c86_76 rfl rfl rfl ?_
          refine y_getR 80 c86_77 rfl kf8_2 ?_
          refine y_iload 81 c86_80 rfl rfl ?_
          refine y_callUB 84 [.ref 8, .ref 71, yI r4604] [] c86_81 rfl rfl rfl rfl rfl (ycanO km79 ko8) (t79 hTq4609 ka71 (fun _ => rfl) (by omega) (by omega)) (fun mq4611 nq4611 hq4611 => ?_)
          obtain ⟨rfl, hTq4611, hFq4611, hq4611⟩ := hq4611
          have hF4612 := hF4610.tr hFq4611 (wTe_wFx (by omega))
          refine y_aload 85 c86_84 rfl rfl rfl ?_
          refine y_aload 86 c86_85 rfl rfl rfl ?_
          refine y_getR 89 c86_86 rfl kf8_0 ?_
          refine y_aload 90 c86_89 rfl rfl rfl ?_
          refine y_getS 93 (B := 316) c86_90 rfl kf8_4 (by first | rfl | (rw [show mq4611 8 4 = 1 from by have e : mq4611 8 4 = m 8 4 := ((hFq4611 8 4 (wTe_n (by omega) (by decide))).trans ((hFq4609 8 4 (wTe_n (by omega) (by decide))).trans (hFi 8 4 rfl))); omega]; rfl)) ?_
          refine y_getR 96 c86_93 rfl kf316_5 ?_
          refine y_iload 97 c86_96 rfl rfl ?_
          refine y_aaload 98 c86_97 rfl kr322 (by omega) ?_
          refine y_callP 101 [.ref (326 + r4604.toNat)] [.ref 9, .ref 8] c86_98 rfl rfl rfl rfl rfl (ycanO km57 (fo326 (by omega))) (t57_316 hTq4611 (by omega)) (fun r4613 hr4613 => ?_)
          refine y_aaload 102 c86_101 rfl kr9 (by omega) ?_
          refine y_iload 103 c86_102 rfl rfl ?_
          refine y_callUB 106 [.ref 8, .ref (10 + r4613.toNat), yI i] [] c86_103 rfl rfl rfl rfl rfl (ycanO km79 ko8) (t79 hTq4611 (fa10 (by omega)) (fun _ => fz10 (by omega)) (by omega) (by omega)) (fun mq4614 nq4614 hq4614 => ?_)
          obtain ⟨rfl, hTq4614, hFq4614, hq4614⟩ := hq4614
          have hF4615 := hF4612.tr hFq4614 (wTe_wFx (by omega))
          refine y_iinc 109 c86_106 rfl rfl rfl ?_
          refine y_goto 2 c86_109 rfl ?_
          exact ih (m 316 14 - (i + 1) : Int).toNat (by omega) (i + 1) _  _ (by omega) (by omega) hTq4614 hF4615 ((hGo.tell (k := k.toNat) (j := r4604) (by omega) hni hini h0i (by have := hFi (336 + k.toNat) 6 (wFx_h (by omega)); omega) (by have := hTi.atp (336 + k.toNat) 6 (-1) 11 (ft336_6 (by omega)); omega) hFq4609 (by rw [hFi (336 + k.toNat) 6 (wFx_h (by omega))]) hq4609 (by have e1 := hr4604.2.2 (by omega); have e2 := hFi (336 + k.toNat) 8 (wFx_h (by omega)); omega)).fr (by omega) (fun j hj => by rw [hFq4609 316 16 (wTe_n (by omega) (by decide))] at hj; rw [hFq4609 (336 + j) 6 (wTe_n (by omega) (by omega))]; exact hni j hj) ((Fr.rf.tr hFq4611 (wTe_wFy (by omega))).tr hFq4614 (wTe_wFy (by omega))))
set_option maxRecDepth 100000 in
theorem t86_316 {L : Nat} {xs : Nat → Int32} {d nn : Nat} {m : yM} {k : Int} (hT : Ty gT m) (hp : m 8 4 = 1) (hk : 0 ≤ k ∧ k ≤ 39) (h3 : 0 ≤ m (336 + k.toNat) 3) (h6 : 0 ≤ m (336 + k.toNat) 6) (hn : ∀ k : Nat, (k : Int) < m 316 16 → m (336 + k) 6 ≤ 11) (hin : ∀ k' : Nat, (k' : Int) < m 316 16 → m (336 + k') 0 = 4 → m (336 + k') 6 = m (336 + k.toNat) 6 → k' = k.toNat) (h0 : ∀ k' : Nat, (k' : Int) < m 316 16 → m (336 + k') 0 = 4 → 0 ≤ m (336 + k') 6) (hG : GO 316 326 336 m) : YC (gZ L xs) (d + 2) 86 [.ref 8, .ref (336 + k.toNat)] m nn (qU (fun m' n' => n' = nn ∧ Ty gT m' ∧ Fr wFx m m' ∧ GO 316 326 336 m')) := by
  refine YC.mkB [some (.ref 8), some (.ref (336 + k.toNat)), none, none] kn86 rfl rfl ?_
  refine y_iconst 1 c86_0 rfl ?_
  refine y_istore 2 c86_1 rfl rfl ?_
  have tb := hT.atp 316 14 0 12 rfl
  exact t86a_316 hT hp hk h3 h6 hn hin h0 hG (m 316 14 - 0).toNat 0 none m (by omega) (by omega) hT Fr.rf hG
set_option maxRecDepth 100000 in
theorem t88_316 {L : Nat} {xs : Nat → Int32} {d nn : Nat} {m : yM} {k j : Int} (hT : Ty gT m) (hp : m 8 4 = 1) (hk : 0 ≤ k ∧ k ≤ 39) (hj : 0 ≤ j ∧ j ≤ 9) (hM : MP 326 m) (h8 : m (326 + j.toNat) 3 = m (336 + k.toNat) 8) (h9 : 1 ≤ m (336 + k.toNat) 8 → 0 ≤ m (336 + k.toNat) 9) (h10 : 2 ≤ m (336 + k.toNat) 8 → 0 ≤ m (336 + k.toNat) 10) : YC (gZ L xs) (d + 2) 88 [.ref 8, .ref (336 + k.toNat), .ref (326 + j.toNat)] m nn (qU (fun m' n' => n' = nn ∧ Ty gT m' ∧ Fr wFy m m')) := by
  refine YC.mkB [some (.ref 8), some (.ref (336 + k.toNat)), some (.ref (326 + j.toNat))] kn88 rfl rfl ?_
  have hF : Fr wFy m m := Fr.rf
  refine y_aload 1 c88_0 rfl rfl rfl ?_
  refine y_getX 4 (m (336 + k.toNat) 8) c88_1 rfl (ff336_8 (by omega)) rfl ?_
  have tb4616 := hT.atp (336 + k.toNat) 8 0 2 (ft336_8 (by omega))
  refine y_if 30 7 c88_4 rfl rfl (yz_le (by omega)) (fun hb4617 => ?_) (fun hb4617 => ?_)
  · refine y_aload 31 c88_30 rfl rfl rfl ?_
    refine y_getX 34 (m (336 + k.toNat) 8) c88_31 rfl (ff336_8 (by omega)) rfl ?_
    refine y_iconst 35 c88_34 rfl ?_
    refine y_icmp 61 38 c88_35 rfl rfl (yc_le (by omega) (by omega)) (fun hb4618 => ?_) (fun hb4618 => ?_)
    · refine y_aload 62 c88_61 rfl rfl rfl ?_
      refine y_getX 65 (m (336 + k.toNat) 2) c88_62 rfl (ff336_2 (by omega)) rfl ?_
      have tb4619 := hT.atp (336 + k.toNat) 2 ((-1)) 47 (ft336_2 (by omega))
      refine y_iconst 66 c88_65 rfl ?_
      refine y_icmp 91 69 c88_66 rfl rfl (yc_eq (by omega) (by omega)) (fun hb4620 => ?_) (fun hb4620 => ?_)
      · exact y_retU c88_91 ⟨rfl, hT, hF⟩
      · refine y_aload 70 c88_69 rfl rfl rfl ?_
        refine y_aload 71 c88_70 rfl rfl rfl ?_
        refine y_getR 74 c88_71 rfl kf8_0 ?_
        refine y_aload 75 c88_74 rfl rfl rfl ?_
        refine y_getX 78 (m (326 + j.toNat) 2) c88_75 rfl (ff326_2 (by omega)) rfl ?_
        have tb4621 := hT.atp (326 + j.toNat) 2 0 46 (ft326_2 (by omega))
        refine y_aaload 79 c88_78 rfl kr9 (by omega) ?_
        refine y_aload 80 c88_79 rfl rfl rfl ?_
        refine y_getR 83 c88_80 rfl kf8_0 ?_
        refine y_aload 84 c88_83 rfl rfl rfl ?_
        refine y_getX 87 (m (336 + k.toNat) 2) c88_84 rfl (ff336_2 (by omega)) rfl ?_
        refine y_aaload 88 c88_87 rfl kr9 (by omega) ?_
        have tb4623 := hT.atp 8 4 ((-1)) 1 rfl
        refine y_callUB 91 [.ref 8, .ref (10 + (m (326 + j.toNat) 2).toNat), .ref (10 + (m (336 + k.toNat) 2).toNat)] [] c88_88 rfl rfl rfl rfl rfl (ycanO km80 ko8) (t80_316 hT (by omega) (fa10 (by omega)) (fun _ => fz10 (by omega)) (fa10 (by omega)) (fun _ => fz10 (by omega)) (by omega)) (fun mq4622 nq4622 hq4622 => ?_)
        obtain ⟨rfl, hTq4622, hFq4622⟩ := hq4622
        have hF4624 := hF.tr hFq4622 (wTe_wFy (by omega))
        exact y_retU c88_91 ⟨rfl, hTq4622, hF4624⟩
    · exfalso; omega
  · refine y_aload 8 c88_7 rfl rfl rfl ?_
    refine y_aload 9 c88_8 rfl rfl rfl ?_
    refine y_getR 12 c88_9 rfl kf8_0 ?_
    refine y_aload 13 c88_12 rfl rfl rfl ?_
    refine y_getX 16 (m (336 + k.toNat) 9) c88_13 rfl (ff336_9 (by omega)) rfl ?_
    have tb4625 := hT.atp (336 + k.toNat) 9 ((-1)) 47 (ft336_9 (by omega))
    refine y_aaload 17 c88_16 rfl kr9 (by omega) ?_
    refine y_aload 18 c88_17 rfl rfl rfl ?_
    refine y_getR 21 c88_18 rfl kf8_0 ?_
    refine y_aload 22 c88_21 rfl rfl rfl ?_
    refine y_iconst 23 c88_22 rfl ?_
    have tb4627 := hT.atp (326 + j.toNat) 3 0 2 (ft326_3 (by omega))
    refine y_callP 26 [.ref (326 + j.toNat), yI 0] [.ref 9, .ref (10 + (m (336 + k.toNat) 9).toNat), .ref 8] c88_23 rfl rfl rfl rfl rfl (ycanO km87 (fo326 (by omega))) (t87_316 hT (by omega) (by omega) hM) (fun r4626 hr4626 => ?_)
    refine y_aaload 27 c88_26 rfl kr9 (by omega) ?_
    have tb4629 := hT.atp 8 4 ((-1)) 1 rfl
    refine y_callUB 30 [.ref 8, .ref (10 + (m (336 + k.toNat) 9).toNat), .ref (10 + r4626.toNat)] [] c88_27 rfl rfl rfl rfl rfl (ycanO km80 ko8) (t80_316 hT (by omega) (fa10 (by omega)) (fun _ => fz10 (by omega)) (fa10 (by omega)) (fun _ => fz10 (by omega)) (by omega)) (fun mq4628 nq4628 hq4628 => ?_)
    obtain ⟨rfl, hTq4628, hFq4628⟩ := hq4628
    have hF4630 := hF.tr hFq4628 (wTe_wFy (by omega))
    refine y_aload 31 c88_30 rfl rfl rfl ?_
    refine y_getX 34 (m (336 + k.toNat) 8) c88_31 rfl (ff336_8 (by omega)) (hFq4628 (336 + k.toNat) 8 (wTe_n (by omega) (by omega))) ?_
    refine y_iconst 35 c88_34 rfl ?_
    refine y_icmp 61 38 c88_35 rfl rfl (yc_le (by omega) (by omega)) (fun hb4631 => ?_) (fun hb4631 => ?_)
    · refine y_aload 62 c88_61 rfl rfl rfl ?_
      refine y_getX 65 (m (336 + k.toNat) 2) c88_62 rfl (ff336_2 (by omega)) (hFq4628 (336 + k.toNat) 2 (wTe_n (by omega) (by omega))) ?_
      have tb4632 := hT.atp (336 + k.toNat) 2 ((-1)) 47 (ft336_2 (by omega))
      refine y_iconst 66 c88_65 rfl ?_
      refine y_icmp 91 69 c88_66 rfl rfl (yc_eq (by omega) (by omega)) (fun hb4633 => ?_) (fun hb4633 => ?_)
      · exact y_retU c88_91 ⟨rfl, hTq4628, hF4630⟩
      · refine y_aload 70 c88_69 rfl rfl rfl ?_
        refine y_aload 71 c88_70 rfl rfl rfl ?_
        refine y_getR 74 c88_71 rfl kf8_0 ?_
        refine y_aload 75 c88_74 rfl rfl rfl ?_
        refine y_getX 78 (m (326 + j.toNat) 2) c88_75 rfl (ff326_2 (by omega)) (hFq4628 (326 + j.toNat) 2 (wTe_n (by omega) (by omega))) ?_
        have tb4634 := hT.atp (326 + j.toNat) 2 0 46 (ft326_2 (by omega))
        refine y_aaload 79 c88_78 rfl kr9 (by omega) ?_
        refine y_aload 80 c88_79 rfl rfl rfl ?_
        refine y_getR 83 c88_80 rfl kf8_0 ?_
        refine y_aload 84 c88_83 rfl rfl rfl ?_
        refine y_getX 87 (m (336 + k.toNat) 2) c88_84 rfl (ff336_2 (by omega)) (hFq4628 (336 + k.toNat) 2 (wTe_n (by omega) (by omega))) ?_
        refine y_aaload 88 c88_87 rfl kr9 (by omega) ?_
        have es4636 : mq4628 8 4 = m 8 4 := (hFq4628 8 4 (wTe_n (by omega) (by decide)))
        refine y_callUB 91 [.ref 8, .ref (10 + (m (326 + j.toNat) 2).toNat), .ref (10 + (m (336 + k.toNat) 2).toNat)] [] c88_88 rfl rfl rfl rfl rfl (ycanO km80 ko8) (t80_316 hTq4628 (by omega) (fa10 (by omega)) (fun _ => fz10 (by omega)) (fa10 (by omega)) (fun _ => fz10 (by omega)) (by omega)) (fun mq4635 nq4635 hq4635 => ?_)
        obtain ⟨rfl, hTq4635, hFq4635⟩ := hq4635
        have hF4637 := hF4630.tr hFq4635 (wTe_wFy (by omega))
        exact y_retU c88_91 ⟨rfl, hTq4635, hF4637⟩
    · refine y_aload 39 c88_38 rfl rfl rfl ?_
      refine y_aload 40 c88_39 rfl rfl rfl ?_
      refine y_getR 43 c88_40 rfl kf8_0 ?_
      refine y_aload 44 c88_43 rfl rfl rfl ?_
      refine y_getX 47 (m (336 + k.toNat) 10) c88_44 rfl (ff336_10 (by omega)) (hFq4628 (336 + k.toNat) 10 (wTe_n (by omega) (by omega))) ?_
      have tb4638 := hT.atp (336 + k.toNat) 10 ((-1)) 47 (ft336_10 (by omega))
      refine y_aaload 48 c88_47 rfl kr9 (by omega) ?_
      refine y_aload 49 c88_48 rfl rfl rfl ?_
      refine y_getR 52 c88_49 rfl kf8_0 ?_
      refine y_aload 53 c88_52 rfl rfl rfl ?_
      refine y_iconst 54 c88_53 rfl ?_
      have es4640 : mq4628 (326 + j.toNat) 3 = m (326 + j.toNat) 3 := (hFq4628 (326 + j.toNat) 3 (wTe_n (by omega) (by omega)))
      refine y_callP 57 [.ref (326 + j.toNat), yI 1] [.ref 9, .ref (10 + (m (336 + k.toNat) 10).toNat), .ref 8] c88_54 rfl rfl rfl rfl rfl (ycanO km87 (fo326 (by omega))) (t87_316 hTq4628 (by omega) (by omega) (hM.fr (fun k hk => hFq4628 _ _ (wTe_n (by omega) (by omega))) (fun k hk => hFq4628 _ _ (wTe_n (by omega) (by omega))))) (fun r4639 hr4639 => ?_)
      refine y_aaload 58 c88_57 rfl kr9 (by omega) ?_
      have es4642 : mq4628 8 4 = m 8 4 := (hFq4628 8 4 (wTe_n (by omega) (by decide)))
      refine y_callUB 61 [.ref 8, .ref (10 + (m (336 + k.toNat) 10).toNat), .ref (10 + r4639.toNat)] [] c88_58 rfl rfl rfl rfl rfl (ycanO km80 ko8) (t80_316 hTq4628 (by omega) (fa10 (by omega)) (fun _ => fz10 (by omega)) (fa10 (by omega)) (fun _ => fz10 (by omega)) (by omega)) (fun mq4641 nq4641 hq4641 => ?_)
      obtain ⟨rfl, hTq4641, hFq4641⟩ := hq4641
      have hF4643 := hF4630.tr hFq4641 (wTe_wFy (by omega))
      refine y_aload 62 c88_61 rfl rfl rfl ?_
      refine y_getX 65 (m (336 + k.toNat) 2) c88_62 rfl (ff336_2 (by omega)) ((hFq4641 (336 + k.toNat) 2 (wTe_n (by omega) (by omega))).trans (hFq4628 (336 + k.toNat) 2 (wTe_n (by omega) (by omega)))) ?_
      have tb4644 := hT.atp (336 + k.toNat) 2 ((-1)) 47 (ft336_2 (by omega))
      refine y_iconst 66 c88_65 rfl ?_
      refine y_icmp 91 69 c88_66 rfl rfl (yc_eq (by omega) (by omega)) (fun hb4645 => ?_) (fun hb4645 => ?_)
      · exact y_retU c88_91 ⟨rfl, hTq4641, hF4643⟩
      · refine y_aload 70 c88_69 rfl rfl rfl ?_
        refine y_aload 71 c88_70 rfl rfl rfl ?_
        refine y_getR 74 c88_71 rfl kf8_0 ?_
        refine y_aload 75 c88_74 rfl rfl rfl ?_
        refine y_getX 78 (m (326 + j.toNat) 2) c88_75 rfl (ff326_2 (by omega)) ((hFq4641 (326 + j.toNat) 2 (wTe_n (by omega) (by omega))).trans (hFq4628 (326 + j.toNat) 2 (wTe_n (by omega) (by omega)))) ?_
        have tb4646 := hT.atp (326 + j.toNat) 2 0 46 (ft326_2 (by omega))
        refine y_aaload 79 c88_78 rfl kr9 (by omega) ?_
        refine y_aload 80 c88_79 rfl rfl rfl ?_
        refine y_getR 83 c88_80 rfl kf8_0 ?_
        refine y_aload 84 c88_83 rfl rfl rfl ?_
        refine y_getX 87 (m (336 + k.toNat) 2) c88_84 rfl (ff336_2 (by omega)) ((hFq4641 (336 + k.toNat) 2 (wTe_n (by omega) (by omega))).trans (hFq4628 (336 + k.toNat) 2 (wTe_n (by omega) (by omega)))) ?_
        refine y_aaload 88 c88_87 rfl kr9 (by omega) ?_
        have es4648 : mq4641 8 4 = m 8 4 := ((hFq4641 8 4 (wTe_n (by omega) (by decide))).trans (hFq4628 8 4 (wTe_n (by omega) (by decide))))
        refine y_callUB 91 [.ref 8, .ref (10 + (m (326 + j.toNat) 2).toNat), .ref (10 + (m (336 + k.toNat) 2).toNat)] [] c88_88 rfl rfl rfl rfl rfl (ycanO km80 ko8) (t80_316 hTq4641 (by omega) (fa10 (by omega)) (fun _ => fz10 (by omega)) (fa10 (by omega)) (fun _ => fz10 (by omega)) (by omega)) (fun mq4647 nq4647 hq4647 => ?_)
        obtain ⟨rfl, hTq4647, hFq4647⟩ := hq4647
        have hF4649 := hF4643.tr hFq4647 (wTe_wFy (by omega))
        exact y_retU c88_91 ⟨rfl, hTq4647, hF4649⟩
set_option maxRecDepth 100000 in
theorem t89a_316 {L : Nat} {xs : Nat → Int32} {d nn : Nat} {m : yM} {k : Int} (hT : Ty gT m) (hp : m 8 4 = 1) (hk : 0 ≤ k ∧ k ≤ 39) (hkc : k < m 316 16) (h4 : m (336 + k.toNat) 0 = 4) (h6 : 0 ≤ m (336 + k.toNat) 6) (hM : MP 326 m) (h9 : 1 ≤ m (336 + k.toNat) 8 → 0 ≤ m (336 + k.toNat) 9) (h10 : 2 ≤ m (336 + k.toNat) 8 → 0 ≤ m (336 + k.toNat) 10) (hG : GO 316 326 336 m) : ∀ (km : Nat) (i : Int) (mi : yM), m 316 10 - i = km → 0 ≤ i ∧ i ≤ m 316 10 → Ty gT mi → Fr wFy m mi → YW (gZ L xs) 89 (d + 3) 2 [some (.ref 8), some (.ref (336 + k.toNat)), some (yI i)] [] mi nn (qU (fun m' n' => n' = nn ∧ Ty gT m' ∧ Fr wFy m m')) := by
  intro km
  induction km using Nat.strongRecOn with
  | ind km ih =>
    intro i mi hk hi hTi hFi
    have tb := hT.atp 316 10 0 10 rfl
    refine y_iload 3 c89_2 rfl rfl ?_
    refine y_aload 4 c89_3 rfl rfl rfl ?_
    refine y_getS 7 (B := 316) c89_4 rfl kf8_4 (by first | rfl | (rw [show mi 8 4 = 1 from by have e : mi 8 4 = m 8 4 := (hFi 8 4 rfl); omega]; rfl)) ?_
    refine y_getX 10 (m 316 10) c89_7 rfl kf316_10 (hFi 316 10 rfl) ?_
    refine y_icmp 51 13 c89_10 rfl rfl (yc_ge (by omega) (by omega)) (fun hb4650 => ?_) (fun hb4650 => ?_)
    · exact y_retU c89_51 ⟨rfl, hTi, hFi⟩
    · refine y_aload 14 c89_13 rfl rfl rfl ?_
      refine y_aload 15 c89_14 rfl rfl rfl ?_
      refine y_getR 18 c89_15 rfl kf8_1 ?_
      refine y_aload 19 c89_18 rfl rfl rfl ?_
      refine y_getX 22 (m (336 + k.toNat) 6) c89_19 rfl (ff336_6 (by omega)) (hFi (336 + k.toNat) 6 (wFy_h (by omega))) ?_
      have tb4651 := hT.atp (336 + k.toNat) 6 ((-1)) 11 (ft336_6 (by omega))
      refine y_aaload 23 c89_22 rfl kr58 (by omega) ?_
      refine y_iload 24 c89_23 rfl rfl ?_
      refine y_iaT 25 ((-2147483648)) 2147483647 c89_24 rfl (fa59 (by omega)) (by omega) hTi (fz59 (by omega)) (fun v4652 hv4652 gv4652 => ?_)
      refine y_callP 28 [.ref 8, yI v4652] [] c89_25 rfl rfl rfl rfl rfl (ycanO km78 ko8) (t78 hTi (by omega)) (fun r4653 hr4653 => ?_)
      refine y_if 45 31 c89_28 rfl rfl (yz_eq (by omega)) (fun hb4654 => ?_) (fun hb4654 => ?_)
      · refine y_iinc 48 c89_45 rfl rfl rfl ?_
        refine y_goto 2 c89_48 rfl ?_
        exact ih (m 316 10 - (i + 1) : Int).toNat (by omega) (i + 1)  _ (by omega) (by omega) hTi hFi
      · refine y_aload 32 c89_31 rfl rfl rfl ?_
        refine y_aload 33 c89_32 rfl rfl rfl ?_
        refine y_aload 34 c89_33 rfl rfl rfl ?_
        refine y_getS 37 (B := 316) c89_34 rfl kf8_4 (by first | rfl | (rw [show mi 8 4 = 1 from by have e : mi 8 4 = m 8 4 := (hFi 8 4 rfl); omega]; rfl)) ?_
        refine y_getR 40 c89_37 rfl kf316_5 ?_
        refine y_iload 41 c89_40 rfl rfl ?_
        refine y_aaload 42 c89_41 rfl kr322 (by omega) ?_
        have es4656 : mi 8 4 = m 8 4 := (hFi 8 4 rfl)
        have tb4657 := hT.atp 8 4 ((-1)) 1 rfl
        have es4658 : mi (336 + k.toNat) 8 = m (336 + k.toNat) 8 := (hFi (336 + k.toNat) 8 (wFy_h (by omega)))
        have tb4659 := hT.atp (336 + k.toNat) 8 0 2 (ft336_8 (by omega))
        have es4660 : mi (336 + k.toNat) 9 = m (336 + k.toNat) 9 := (hFi (336 + k.toNat) 9 (wFy_h (by omega)))
        have tb4661 := hT.atp (336 + k.toNat) 9 ((-1)) 47 (ft336_9 (by omega))
        have es4662 : mi (336 + k.toNat) 10 = m (336 + k.toNat) 10 := (hFi (336 + k.toNat) 10 (wFy_h (by omega)))
        have tb4663 := hT.atp (336 + k.toNat) 10 ((-1)) 47 (ft336_10 (by omega))
        have es4664 : mi (326 + i.toNat) 3 = m (326 + i.toNat) 3 := (hFi (326 + i.toNat) 3 (wFy_h (by omega)))
        have tb4665 := hT.atp (326 + i.toNat) 3 0 2 (ft326_3 (by omega))
        have hg3 := hG k.toNat (by omega) h4 i.toNat (by omega) (by rw [hFi _ _ (wFy_g (by omega))] at hv4652; omega)
        refine y_callUB 45 [.ref 8, .ref (336 + k.toNat), .ref (326 + i.toNat)] [] c89_42 rfl rfl rfl rfl rfl (ycanO km88 ko8) (t88_316 (k := k) (j := i) hTi (by omega) (by omega) (by omega) (hM.fr (fun k hk => hFi _ _ (wFy_h (by omega))) (fun k hk => hFi _ _ (wFy_h (by omega)))) (by omega) (by omega) (by omega)) (fun mq4655 nq4655 hq4655 => ?_)
        obtain ⟨rfl, hTq4655, hFq4655⟩ := hq4655
        have hF4666 := hFi.tr hFq4655 (fun _ _ e => e)
        refine y_iinc 48 c89_45 rfl rfl rfl ?_
        refine y_goto 2 c89_48 rfl ?_
        exact ih (m 316 10 - (i + 1) : Int).toNat (by omega) (i + 1)  _ (by omega) (by omega) hTq4655 hF4666
set_option maxRecDepth 100000 in
theorem t89_316 {L : Nat} {xs : Nat → Int32} {d nn : Nat} {m : yM} {k : Int} (hT : Ty gT m) (hp : m 8 4 = 1) (hk : 0 ≤ k ∧ k ≤ 39) (hkc : k < m 316 16) (h4 : m (336 + k.toNat) 0 = 4) (h6 : 0 ≤ m (336 + k.toNat) 6) (hM : MP 326 m) (h9 : 1 ≤ m (336 + k.toNat) 8 → 0 ≤ m (336 + k.toNat) 9) (h10 : 2 ≤ m (336 + k.toNat) 8 → 0 ≤ m (336 + k.toNat) 10) (hG : GO 316 326 336 m) : YC (gZ L xs) (d + 3) 89 [.ref 8, .ref (336 + k.toNat)] m nn (qU (fun m' n' => n' = nn ∧ Ty gT m' ∧ Fr wFy m m')) := by
  refine YC.mkB [some (.ref 8), some (.ref (336 + k.toNat)), none] kn89 rfl rfl ?_
  refine y_iconst 1 c89_0 rfl ?_
  refine y_istore 2 c89_1 rfl rfl ?_
  have tb := hT.atp 316 10 0 10 rfl
  exact t89a_316 hT hp hk hkc h4 h6 hM h9 h10 hG (m 316 10 - 0).toNat 0 m (by omega) (by omega) hT Fr.rf
set_option maxRecDepth 100000 in
theorem t90_316 {L : Nat} {xs : Nat → Int32} {d nn : Nat} {m : yM} {k : Int} (hT : Ty gT m) (hp : m 8 4 = 1) (hk : 0 ≤ k ∧ k ≤ 39) (hkc : k < m 316 16) (hM : MP 326 m) (hR : RG 336 325 m 0 (m 316 16) 0 (m 316 12) 0 (m 316 13)) (hL : NL 336 m 0 (m 316 16)) (hG : GO 316 326 336 m) : YC (gZ L xs) (d + 4) 90 [.ref 8, .ref (336 + k.toNat)] m nn (qU (fun m' n' => n' = nn ∧ Ty gT m' ∧ Fr wFx m m' ∧ GO 316 326 336 m')) := by
  have tb16 := hT.atp 316 16 0 40 rfl
  have hn : ∀ k : Nat, (k : Int) < m 316 16 → m (336 + k) 6 ≤ 11 := fun k hk => (hT.atp (336 + k) 6 (-1) 11 (ft336_6 (by omega))).2
  have h0 : ∀ k' : Nat, (k' : Int) < m 316 16 → m (336 + k') 0 = 4 → 0 ≤ m (336 + k') 6 := fun k' hk' h4 => ((hR.1 k' (by omega) hk').2 h4).1
  have hin : m (336 + k.toNat) 0 = 4 → ∀ k' : Nat, (k' : Int) < m 316 16 → m (336 + k') 0 = 4 → m (336 + k') 6 = m (336 + k.toNat) 6 → k' = k.toNat := by
    intro h4 k' hk' h4' h6
    rcases Nat.lt_trichotomy k' k.toNat with q | q | q
    · have := hR.2.1 k' k.toNat (by omega) q (by omega) h4' h4; omega
    · exact q
    · have := hR.2.1 k.toNat k' (by omega) q (by omega) h4 h4'; omega
  have hsv := (hR.1 k.toNat (by omega) (by omega)).1
  unfold SV at hsv
  obtain ⟨s1, s2, s3, s4, s5⟩ := hsv
  have hl := hL k.toNat (by omega) (by omega)
  refine YC.mkB [some (.ref 8), some (.ref (336 + k.toNat))] kn90 rfl rfl ?_
  have hF : Fr wFx m m := Fr.rf
  refine y_aload 1 c90_0 rfl rfl rfl ?_
  refine y_getX 4 (m (336 + k.toNat) 0) c90_1 rfl (ff336_0 (by omega)) rfl ?_
  have tb4667 := hT.atp (336 + k.toNat) 0 0 9 (ft336_0 (by omega))
  by_cases hk4668 : m (336 + k.toNat) 0 = 2
  · refine y_top 2 hk4668 ?_
    refine y_tsw 72 c90_4 (by decide) (by decide) rfl rfl ?_
    refine y_aload 73 c90_72 rfl rfl rfl ?_
    refine y_aload 74 c90_73 rfl rfl rfl ?_
    refine y_getR 77 c90_74 rfl kf8_0 ?_
    refine y_aload 78 c90_77 rfl rfl rfl ?_
    refine y_getX 81 (m (336 + k.toNat) 3) c90_78 rfl (ff336_3 (by omega)) rfl ?_
    have tb4669 := hT.atp (336 + k.toNat) 3 ((-1)) 47 (ft336_3 (by omega))
    refine y_aaload 82 c90_81 rfl kr9 (by omega) ?_
    refine y_aload 83 c90_82 rfl rfl rfl ?_
    refine y_getR 86 c90_83 rfl kf8_0 ?_
    refine y_aload 87 c90_86 rfl rfl rfl ?_
    refine y_getX 90 (m (336 + k.toNat) 2) c90_87 rfl (ff336_2 (by omega)) rfl ?_
    have tb4670 := hT.atp (336 + k.toNat) 2 ((-1)) 47 (ft336_2 (by omega))
    refine y_aaload 91 c90_90 rfl kr9 (by omega) ?_
    have tb4672 := hT.atp 8 4 ((-1)) 1 rfl
    refine y_callUB 94 [.ref 8, .ref (10 + (m (336 + k.toNat) 3).toNat), .ref (10 + (m (336 + k.toNat) 2).toNat)] [] c90_91 rfl rfl rfl rfl rfl (ycanO km80 ko8) (t80_316 hT (by omega) (fa10 (by omega)) (fun _ => fz10 (by omega)) (fa10 (by omega)) (fun _ => fz10 (by omega)) (by omega)) (fun mq4671 nq4671 hq4671 => ?_)
    obtain ⟨rfl, hTq4671, hFq4671⟩ := hq4671
    have hF4673 := hF.tr hFq4671 (wTe_wFx (by omega))
    refine y_goto 134 c90_94 rfl ?_
    exact y_retU c90_134 ⟨rfl, hTq4671, hF4673, (hG.fr (by omega) hn (Fr.rf.tr hFq4671 (wTe_wFy (by omega))))⟩
  by_cases hk4674 : m (336 + k.toNat) 0 = 3
  · refine y_top 3 hk4674 ?_
    refine y_tsw 113 c90_4 (by decide) (by decide) rfl rfl ?_
    refine y_aload 114 c90_113 rfl rfl rfl ?_
    refine y_aload 115 c90_114 rfl rfl rfl ?_
    have tb4676 := hT.atp 8 4 ((-1)) 1 rfl
    have tb4677 := hT.atp 316 16 0 40 rfl
    have tb4678 := hT.atp 316 10 0 10 rfl
    have tb4679 := hT.atp (336 + k.toNat) 2 ((-1)) 47 (ft336_2 (by omega))
    have tb4680 := hT.atp (336 + k.toNat) 3 ((-1)) 47 (ft336_3 (by omega))
    have tb4681 := hT.atp (336 + k.toNat) 6 ((-1)) 11 (ft336_6 (by omega))
    have tb4682 := hT.atp (336 + k.toNat) 8 0 2 (ft336_8 (by omega))
    have tb4683 := hT.atp (336 + k.toNat) 9 ((-1)) 47 (ft336_9 (by omega))
    have tb4684 := hT.atp (336 + k.toNat) 10 ((-1)) 47 (ft336_10 (by omega))
    refine y_callUB 118 [.ref 8, .ref (336 + k.toNat)] [] c90_115 rfl rfl rfl rfl rfl (ycanO km85 ko8) (t85_316 (k := k) hT (by omega) (by omega) (by omega) (by omega) (by omega)) (fun mq4675 nq4675 hq4675 => ?_)
    obtain ⟨rfl, hTq4675, hFq4675⟩ := hq4675
    have hF4685 := hF.tr hFq4675 wFy_wFx
    refine y_goto 134 c90_118 rfl ?_
    exact y_retU c90_134 ⟨rfl, hTq4675, hF4685, (hG.fr (by omega) hn hFq4675)⟩
  by_cases hk4686 : m (336 + k.toNat) 0 = 4
  · refine y_top 4 hk4686 ?_
    refine y_tsw 121 c90_4 (by decide) (by decide) rfl rfl ?_
    refine y_aload 122 c90_121 rfl rfl rfl ?_
    refine y_aload 123 c90_122 rfl rfl rfl ?_
    have tb4688 := hT.atp 8 4 ((-1)) 1 rfl
    have tb4689 := hT.atp 316 16 0 40 rfl
    have tb4690 := hT.atp 316 10 0 10 rfl
    have tb4691 := hT.atp (336 + k.toNat) 2 ((-1)) 47 (ft336_2 (by omega))
    have tb4692 := hT.atp (336 + k.toNat) 3 ((-1)) 47 (ft336_3 (by omega))
    have tb4693 := hT.atp (336 + k.toNat) 6 ((-1)) 11 (ft336_6 (by omega))
    have tb4694 := hT.atp (336 + k.toNat) 8 0 2 (ft336_8 (by omega))
    have tb4695 := hT.atp (336 + k.toNat) 9 ((-1)) 47 (ft336_9 (by omega))
    have tb4696 := hT.atp (336 + k.toNat) 10 ((-1)) 47 (ft336_10 (by omega))
    refine y_callUB 126 [.ref 8, .ref (336 + k.toNat)] [] c90_123 rfl rfl rfl rfl rfl (ycanO km86 ko8) (t86_316 (k := k) hT (by omega) (by omega) (by omega) (by omega) hn (hin (by omega)) h0 hG) (fun mq4687 nq4687 hq4687 => ?_)
    obtain ⟨rfl, hTq4687, hFq4687, hGq4687⟩ := hq4687
    have hF4697 := hF.tr hFq4687 (fun _ _ e => e)
    refine y_aload 127 c90_126 rfl rfl rfl ?_
    refine y_aload 128 c90_127 rfl rfl rfl ?_
    have es4699 : mq4687 8 4 = m 8 4 := (hFq4687 8 4 rfl)
    have es4700 : mq4687 316 16 = m 316 16 := (hFq4687 316 16 rfl)
    have es4701 : mq4687 316 10 = m 316 10 := (hFq4687 316 10 rfl)
    have es4702 : mq4687 (336 + k.toNat) 0 = m (336 + k.toNat) 0 := (hFq4687 (336 + k.toNat) 0 (wFx_h (by omega)))
    have es4703 : mq4687 (336 + k.toNat) 2 = m (336 + k.toNat) 2 := (hFq4687 (336 + k.toNat) 2 (wFx_h (by omega)))
    have es4704 : mq4687 (336 + k.toNat) 3 = m (336 + k.toNat) 3 := (hFq4687 (336 + k.toNat) 3 (wFx_h (by omega)))
    have es4705 : mq4687 (336 + k.toNat) 6 = m (336 + k.toNat) 6 := (hFq4687 (336 + k.toNat) 6 (wFx_h (by omega)))
    have es4706 : mq4687 (336 + k.toNat) 8 = m (336 + k.toNat) 8 := (hFq4687 (336 + k.toNat) 8 (wFx_h (by omega)))
    have es4707 : mq4687 (336 + k.toNat) 9 = m (336 + k.toNat) 9 := (hFq4687 (336 + k.toNat) 9 (wFx_h (by omega)))
    have es4708 : mq4687 (336 + k.toNat) 10 = m (336 + k.toNat) 10 := (hFq4687 (336 + k.toNat) 10 (wFx_h (by omega)))
    refine y_callUB 131 [.ref 8, .ref (336 + k.toNat)] [] c90_128 rfl rfl rfl rfl rfl (ycanO km89 ko8) (t89_316 (k := k) hTq4687 (by omega) (by omega) (by omega) (by omega) (by omega) (hM.fr (fun k hk => hFq4687 _ _ (wFx_h (by omega))) (fun k hk => hFq4687 _ _ (wFx_h (by omega)))) (by omega) (by omega) hGq4687) (fun mq4698 nq4698 hq4698 => ?_)
    obtain ⟨rfl, hTq4698, hFq4698⟩ := hq4698
    have hF4709 := hF4697.tr hFq4698 wFy_wFx
    refine y_goto 134 c90_131 rfl ?_
    exact y_retU c90_134 ⟨rfl, hTq4698, hF4709, (hGq4687.fr (by omega) (fun j hj => by rw [hFq4687 316 16 rfl] at hj; rw [hFq4687 _ 6 (wFx_h (by omega))]; exact hn j hj) hFq4698)⟩
  by_cases hk4710 : m (336 + k.toNat) 0 = 5
  · refine y_top 5 hk4710 ?_
    refine y_tsw 52 c90_4 (by decide) (by decide) rfl rfl ?_
    refine y_aload 53 c90_52 rfl rfl rfl ?_
    refine y_aload 54 c90_53 rfl rfl rfl ?_
    refine y_getR 57 c90_54 rfl kf8_0 ?_
    refine y_aload 58 c90_57 rfl rfl rfl ?_
    refine y_getX 61 (m (336 + k.toNat) 2) c90_58 rfl (ff336_2 (by omega)) rfl ?_
    have tb4711 := hT.atp (336 + k.toNat) 2 ((-1)) 47 (ft336_2 (by omega))
    refine y_aaload 62 c90_61 rfl kr9 (by omega) ?_
    refine y_aload 63 c90_62 rfl rfl rfl ?_
    refine y_getX 66 (m (336 + k.toNat) 6) c90_63 rfl (ff336_6 (by omega)) rfl ?_
    have tb4712 := hT.atp (336 + k.toNat) 6 ((-1)) 11 (ft336_6 (by omega))
    refine y_callUB 69 [.ref 8, .ref (10 + (m (336 + k.toNat) 2).toNat), yI (m (336 + k.toNat) 6)] [] c90_66 rfl rfl rfl rfl rfl (ycanO km79 ko8) (t79 hT (fa10 (by omega)) (fun _ => fz10 (by omega)) (by omega) (by omega)) (fun mq4713 nq4713 hq4713 => ?_)
    obtain ⟨rfl, hTq4713, hFq4713, hq4713⟩ := hq4713
    have hF4714 := hF.tr hFq4713 (wTe_wFx (by omega))
    refine y_goto 134 c90_69 rfl ?_
    exact y_retU c90_134 ⟨rfl, hTq4713, hF4714, (hG.fr (by omega) hn (Fr.rf.tr hFq4713 (wTe_wFy (by omega))))⟩
  by_cases hk4715 : m (336 + k.toNat) 0 = 6
  · refine y_top 6 hk4715 ?_
    refine y_tsw 134 c90_4 (by decide) (by decide) rfl rfl ?_
    exact y_retU c90_134 ⟨rfl, hT, hF, hG⟩
  by_cases hk4716 : m (336 + k.toNat) 0 = 7
  · refine y_top 7 hk4716 ?_
    refine y_tsw 97 c90_4 (by decide) (by decide) rfl rfl ?_
    refine y_aload 98 c90_97 rfl rfl rfl ?_
    refine y_aload 99 c90_98 rfl rfl rfl ?_
    have tb4718 := hT.atp 8 4 ((-1)) 1 rfl
    have tb4719 := hT.atp 316 16 0 40 rfl
    have tb4720 := hT.atp 316 10 0 10 rfl
    have tb4721 := hT.atp (336 + k.toNat) 2 ((-1)) 47 (ft336_2 (by omega))
    have tb4722 := hT.atp (336 + k.toNat) 3 ((-1)) 47 (ft336_3 (by omega))
    have tb4723 := hT.atp (336 + k.toNat) 6 ((-1)) 11 (ft336_6 (by omega))
    have tb4724 := hT.atp (336 + k.toNat) 8 0 2 (ft336_8 (by omega))
    have tb4725 := hT.atp (336 + k.toNat) 9 ((-1)) 47 (ft336_9 (by omega))
    have tb4726 := hT.atp (336 + k.toNat) 10 ((-1)) 47 (ft336_10 (by omega))
    refine y_callUB 102 [.ref 8, .ref (336 + k.toNat)] [] c90_99 rfl rfl rfl rfl rfl (ycanO km82 ko8) (t82_316 (k := k) hT (by omega) (by omega) (by omega) (by omega)) (fun mq4717 nq4717 hq4717 => ?_)
    obtain ⟨rfl, hTq4717, hFq4717⟩ := hq4717
    have hF4727 := hF.tr hFq4717 wFy_wFx
    refine y_goto 134 c90_102 rfl ?_
    exact y_retU c90_134 ⟨rfl, hTq4717, hF4727, (hG.fr (by omega) hn hFq4717)⟩
  by_cases hk4728 : m (336 + k.toNat) 0 = 8
  · refine y_top 8 hk4728 ?_
    refine y_tsw 72 c90_4 (by decide) (by decide) rfl rfl ?_
    refine y_aload 73 c90_72 rfl rfl rfl ?_
    refine y_aload 74 c90_73 rfl rfl rfl ?_
    refine y_getR 77 c90_74 rfl kf8_0 ?_
    refine y_aload 78 c90_77 rfl rfl rfl ?_
    refine y_getX 81 (m (336 + k.toNat) 3) c90_78 rfl (ff336_3 (by omega)) rfl ?_
    have tb4729 := hT.atp (336 + k.toNat) 3 ((-1)) 47 (ft336_3 (by omega))
    refine y_aaload 82 c90_81 rfl kr9 (by omega) ?_
    refine y_aload 83 c90_82 rfl rfl rfl ?_
    refine y_getR 86 c90_83 rfl kf8_0 ?_
    refine y_aload 87 c90_86 rfl rfl rfl ?_
    refine y_getX 90 (m (336 + k.toNat) 2) c90_87 rfl (ff336_2 (by omega)) rfl ?_
    have tb4730 := hT.atp (336 + k.toNat) 2 ((-1)) 47 (ft336_2 (by omega))
    refine y_aaload 91 c90_90 rfl kr9 (by omega) ?_
    have tb4732 := hT.atp 8 4 ((-1)) 1 rfl
    refine y_callUB 94 [.ref 8, .ref (10 + (m (336 + k.toNat) 3).toNat), .ref (10 + (m (336 + k.toNat) 2).toNat)] [] c90_91 rfl rfl rfl rfl rfl (ycanO km80 ko8) (t80_316 hT (by omega) (fa10 (by omega)) (fun _ => fz10 (by omega)) (fa10 (by omega)) (fun _ => fz10 (by omega)) (by omega)) (fun mq4731 nq4731 hq4731 => ?_)
    obtain ⟨rfl, hTq4731, hFq4731⟩ := hq4731
    have hF4733 := hF.tr hFq4731 (wTe_wFx (by omega))
    refine y_goto 134 c90_94 rfl ?_
    exact y_retU c90_134 ⟨rfl, hTq4731, hF4733, (hG.fr (by omega) hn (Fr.rf.tr hFq4731 (wTe_wFy (by omega))))⟩
  by_cases hk4734 : m (336 + k.toNat) 0 = 9
  · refine y_top 9 hk4734 ?_
    refine y_tsw 105 c90_4 (by decide) (by decide) rfl rfl ?_
    refine y_aload 106 c90_105 rfl rfl rfl ?_
    refine y_aload 107 c90_106 rfl rfl rfl ?_
    have tb4736 := hT.atp 8 4 ((-1)) 1 rfl
    have tb4737 := hT.atp 316 16 0 40 rfl
    have tb4738 := hT.atp 316 10 0 10 rfl
    have tb4739 := hT.atp (336 + k.toNat) 2 ((-1)) 47 (ft336_2 (by omega))
    have tb4740 := hT.atp (336 + k.toNat) 3 ((-1)) 47 (ft336_3 (by omega))
    have tb4741 := hT.atp (336 + k.toNat) 6 ((-1)) 11 (ft336_6 (by omega))
    have tb4742 := hT.atp (336 + k.toNat) 8 0 2 (ft336_8 (by omega))
    have tb4743 := hT.atp (336 + k.toNat) 9 ((-1)) 47 (ft336_9 (by omega))
    have tb4744 := hT.atp (336 + k.toNat) 10 ((-1)) 47 (ft336_10 (by omega))
    refine y_callUB 110 [.ref 8, .ref (336 + k.toNat)] [] c90_107 rfl rfl rfl rfl rfl (ycanO km84 ko8) (t84_316 (k := k) hT (by omega) (by omega) (by omega) (by omega) (by omega)) (fun mq4735 nq4735 hq4735 => ?_)
    obtain ⟨rfl, hTq4735, hFq4735⟩ := hq4735
    have hF4745 := hF.tr hFq4735 wFy_wFx
    refine y_goto 134 c90_110 rfl ?_
    exact y_retU c90_134 ⟨rfl, hTq4735, hF4745, (hG.fr (by omega) hn hFq4735)⟩
  refine y_tswd 134 c90_4 (by omega) (by omega) rfl ?_
  exact y_retU c90_134 ⟨rfl, hT, hF, hG⟩
set_option maxRecDepth 100000 in
theorem t91b_316 {L : Nat} {xs : Nat → Int32} {d nn : Nat} {m : yM} (hT : Ty gT m) (hM : MP 326 m) (hR : RG 336 325 m 0 (m 316 16) 0 (m 316 12) 0 (m 316 13)) (hL : NL 336 m 0 (m 316 16)) {r : Int} (hr : 0 ≤ r ∧ r < 2000) (ho : ∀ (x2 x3 : Option Value) (mi : yM), Ty gT mi → Fr wFd8 m mi → mi 8 5 = r + 1 → mi 8 4 = 1 → GO 316 326 336 mi → YW (gZ L xs) 91 (d + 5) 65 [some (.ref 8), some (.ref 316), x2, x3] [] mi nn (qU (fun m' n' => n' = nn ∧ Ty gT m' ∧ Fr wFd8 m m' ∧ m' 8 4 = 1))) : ∀ (km : Nat) (i : Int) (x3 : Option Value) (mi : yM), m 316 16 - i = km → 0 ≤ i ∧ i ≤ m 316 16 → Ty gT mi → Fr wFd8 m mi → mi 8 5 = r → mi 8 4 = 1 → GO 316 326 336 mi → YW (gZ L xs) 91 (d + 5) 88 [some (.ref 8), some (.ref 316), some (yI i), x3] [] mi nn (qU (fun m' n' => n' = nn ∧ Ty gT m' ∧ Fr wFd8 m m' ∧ m' 8 4 = 1)) := by
  intro km
  induction km using Nat.strongRecOn with
  | ind km ih =>
    intro i x3 mi hk hi hTi hFi h5 h4 hGi
    have tb := hT.atp 316 16 0 40 rfl
    refine y_iload 89 c91_88 rfl rfl ?_
    refine y_aload 90 c91_89 rfl rfl rfl ?_
    refine y_getS 93 (B := 316) c91_90 rfl kf8_4 (by first | rfl | (rw [show mi 8 4 = 1 from by have e : mi 8 4 = mi 8 4 := rfl; omega]; rfl)) ?_
    refine y_getX 96 (m 316 16) c91_93 rfl kf316_16 (hFi 316 16 rfl) ?_
    refine y_icmp 136 99 c91_96 rfl rfl (yc_ge (by omega) (by omega)) (fun hb4746 => ?_) (fun hb4746 => ?_)
    · refine y_aload 137 c91_136 rfl rfl rfl ?_
      refine y_dup 138 c91_137 rfl rfl ?_
      refine y_getX 141 (mi 8 5) c91_138 rfl kf8_5 rfl ?_
      have tb4747 := hTi.atp 8 5 0 2000 rfl
      refine y_iconst 142 c91_141 rfl ?_
      refine y_iadd 143 c91_142 rfl ?_
      refine y_putI 146 c91_143 rfl kf8_5 (y_fit0 _) ?_
      have hT4748 := hTi.up 8 5 ((mi 8 5) + 1) 0 2000 rfl (by omega)
      have hF4749 := hFi.up 8 5 ((mi 8 5) + 1) rfl
      refine y_goto 65 c91_146 rfl ?_
      have es4750 : (yup mi 8 5 ((mi 8 5) + 1)) 8 5 = (mi 8 5) + 1 := rfl
      have es4751 : (yup mi 8 5 ((mi 8 5) + 1)) 8 4 = mi 8 4 := rfl
      have tb4752 := hTi.atp 8 4 ((-1)) 1 rfl
      refine ho _ _ _ hT4748 hF4749 (by omega) (by omega) ?_
      exact GO.n8 hGi
    · refine y_aload 100 c91_99 rfl rfl rfl ?_
      refine y_getS 103 (B := 316) c91_100 rfl kf8_4 (by first | rfl | (rw [show mi 8 4 = 1 from by have e : mi 8 4 = mi 8 4 := rfl; omega]; rfl)) ?_
      refine y_getR 106 c91_103 rfl kf316_6 ?_
      refine y_iload 107 c91_106 rfl rfl ?_
      refine y_aaload 108 c91_107 rfl kr323 (by omega) ?_
      refine y_astore 109 c91_108 rfl rfl rfl ?_
      refine y_aload 110 c91_109 rfl rfl rfl ?_
      refine y_aload 111 c91_110 rfl rfl rfl ?_
      refine y_getR 114 c91_111 rfl kf8_2 ?_
      refine y_aload 115 c91_114 rfl rfl rfl ?_
      refine y_getX 118 (m (336 + i.toNat) 1) c91_115 rfl (ff336_1 (by omega)) (hFi (336 + i.toNat) 1 (wFd8_h (by omega))) ?_
      have tb4753 := hT.atp (336 + i.toNat) 1 0 9 (ft336_1 (by omega))
      refine y_iaT 119 ((-2147483648)) 2147483647 c91_118 rfl ka71 (by omega) hTi rfl (fun v4754 hv4754 gv4754 => ?_)
      refine y_callP 122 [.ref 8, yI v4754] [] c91_119 rfl rfl rfl rfl rfl (ycanO km78 ko8) (t78 hTi (by omega)) (fun r4755 hr4755 => ?_)
      refine y_if 130 125 c91_122 rfl rfl (yz_eq (by omega)) (fun hb4756 => ?_) (fun hb4756 => ?_)
      · refine y_iinc 133 c91_130 rfl rfl rfl ?_
        refine y_goto 88 c91_133 rfl ?_
        exact ih (m 316 16 - (i + 1) : Int).toNat (by omega) (i + 1) _  _ (by omega) (by omega) hTi hFi (by have e : mi 8 5 = mi 8 5 := rfl; omega) (by have e : mi 8 4 = mi 8 4 := rfl; omega) hGi
      · refine y_aload 126 c91_125 rfl rfl rfl ?_
        refine y_aload 127 c91_126 rfl rfl rfl ?_
        have tb4758 := hTi.atp 8 4 ((-1)) 1 rfl
        have es4759 : mi 316 16 = m 316 16 := (hFi 316 16 rfl)
        have eq4757_16 := hFi 316 16 rfl
        have eq4757_12 := hFi 316 12 rfl
        have eq4757_13 := hFi 316 13 rfl
        refine y_callUB 130 [.ref 8, .ref (336 + i.toNat)] [] c91_127 rfl rfl rfl rfl rfl (ycanO km90 ko8) (t90_316 (k := i) hTi (by omega) (by omega) (by omega) (hM.fr (fun k hk => hFi _ _ (wFd8_h (by omega))) (fun k hk => hFi _ _ (wFd8_h (by omega)))) (by rw [eq4757_16, eq4757_12, eq4757_13]; exact (hR.fr (m' := mi) (c3 := m 316 12) (fun j _ _ q _ => hFi _ _ (wFd8_h (by omega))) (fun z _ _ => hFi 325 z rfl) (Int.le_refl _))) (by rw [eq4757_16]; exact hL.fr (fun j _ _ => ⟨hFi _ _ (wFd8_h (by omega)), hFi _ _ (wFd8_h (by omega))⟩)) hGi) (fun mq4757 nq4757 hq4757 => ?_)
        obtain ⟨rfl, hTq4757, hFq4757, hGq4757⟩ := hq4757
        have hF4760 := hFi.tr hFq4757 wFx_wFd8
        refine y_iinc 133 c91_130 rfl rfl rfl ?_
        refine y_goto 88 c91_133 rfl ?_
        exact ih (m 316 16 - (i + 1) : Int).toNat (by omega) (i + 1) _  _ (by omega) (by omega) hTq4757 hF4760 (by have e : mq4757 8 5 = mi 8 5 := (hFq4757 8 5 rfl); omega) (by have e : mq4757 8 4 = mi 8 4 := (hFq4757 8 4 rfl); omega) hGq4757
set_option maxRecDepth 100000 in
theorem t91a_316 {L : Nat} {xs : Nat → Int32} {d nn : Nat} {m : yM} (hT : Ty gT m) (hM : MP 326 m) (hR : RG 336 325 m 0 (m 316 16) 0 (m 316 12) 0 (m 316 13)) (hL : NL 336 m 0 (m 316 16)) : ∀ (k : Nat) (x2 x3 : Option Value) (mi : yM), 2000 - mi 8 5 = k → Ty gT mi → Fr wFd8 m mi → mi 8 4 = 1 → GO 316 326 336 mi → YW (gZ L xs) 91 (d + 5) 65 [some (.ref 8), some (.ref 316), x2, x3] [] mi nn (qU (fun m' n' => n' = nn ∧ Ty gT m' ∧ Fr wFd8 m m' ∧ m' 8 4 = 1)) := by
  intro k
  induction k using Nat.strongRecOn with
  | ind k ih =>
    intro x2 x3 mi hk hTi hFi h4 hGi
    have tb5 := hTi.atp 8 5 0 2000 rfl
    have tbm := hT.atp 316 16 0 40 rfl
    refine y_aload 66 c91_65 rfl rfl rfl ?_
    refine y_getX 69 (mi 8 5) c91_66 rfl kf8_5 rfl ?_
    refine y_iconst 72 c91_69 rfl ?_
    refine y_icmp 149 75 c91_72 rfl rfl (yc_ge (by omega) (by omega)) (fun hb4761 => ?_) (fun hb4761 => ?_)
    · exact y_retU c91_149 ⟨rfl, hTi, hFi, h4⟩
    · refine y_aload 76 c91_75 rfl rfl rfl ?_
      refine y_getX 79 (mi 8 5) c91_76 rfl kf8_5 rfl ?_
      refine y_aload 80 c91_79 rfl rfl rfl ?_
      refine y_getX 83 (mi 8 6) c91_80 rfl kf8_6 rfl ?_
      have tb4762 := hTi.atp 8 6 0 2001 rfl
      refine y_icmp 149 86 c91_83 rfl rfl (yc_ne (by omega) (by omega)) (fun hb4763 => ?_) (fun hb4763 => ?_)
      · exact y_retU c91_149 ⟨rfl, hTi, hFi, h4⟩
      · refine y_iconst 87 c91_86 rfl ?_
        refine y_istore 88 c91_87 rfl rfl ?_
        exact t91b_316 hT hM hR hL (r := mi 8 5) (by omega) (fun y2 y3 mj j1 j2 j3 j4 j5 => ih (2000 - mj 8 5).toNat (by omega) y2 y3 mj (by omega) j1 j2 j4 j5) (m 316 16 - 0).toNat 0 _ mi (by omega) (by omega) hTi hFi rfl h4 hGi
set_option maxRecDepth 100000 in
theorem t91_316 {L : Nat} {xs : Nat → Int32} {d nn : Nat} {m : yM} (hT : Ty gT m) (hM : MP 326 m) (hR : RG 336 325 m 0 (m 316 16) 0 (m 316 12) 0 (m 316 13)) (hL : NL 336 m 0 (m 316 16)) : YC (gZ L xs) (d + 5) 91 [.ref 8, .ref 316] m nn (qU (fun m' n' => n' = nn ∧ Ty gT m' ∧ Fr wFd8 m m' ∧ m' 8 4 = 1)) := by
  have tb16 := hT.atp 316 16 0 40 rfl
  refine YC.mkB [some (.ref 8), some (.ref 316), none, none] kn91 rfl rfl ?_
  have hF : Fr wFd8 m m := Fr.rf
  refine y_aload 1 c91_0 rfl rfl rfl ?_
  refine y_aload 2 c91_1 rfl rfl rfl ?_
  refine y_putS 5 1 c91_2 rfl kf8_4 rfl ?_
  have hT4764 := hT.up 8 4 1 ((-1)) 1 rfl (by omega)
  have hF4765 := hF.up 8 4 1 rfl
  refine y_aload 6 c91_5 rfl rfl rfl ?_
  refine y_callUB 9 [.ref 8] [] c91_6 rfl rfl rfl rfl rfl (ycanO km77 ko8) (t77 hT4764) (fun mq4766 nq4766 hq4766 => ?_)
  obtain ⟨rfl, hTq4766, hFq4766, hq4766, hzq4766⟩ := hq4766
  have hF4767 := hF4765.tr hFq4766 wFx_wFd8
  refine y_aload 10 c91_9 rfl rfl rfl ?_
  refine y_getS 13 (B := 316) c91_10 rfl kf8_4 (by first | rfl | (rw [show mq4766 8 4 = 1 from by have e : mq4766 8 4 = 1 := ((hFq4766 8 4 rfl).trans (yup_eq _ _ _ _)); omega]; rfl)) ?_
  refine y_getX 16 (m 316 17) c91_13 rfl kf316_17 ((hFq4766 316 17 rfl).trans (yup_na (by decide))) ?_
  have tb4768 := hT.atp 316 17 ((-1)) 9 rfl
  refine y_iconst 17 c91_16 rfl ?_
  refine y_icmp 21 20 c91_17 rfl rfl (yc_ne (by omega) (by omega)) (fun hb4769 => ?_) (fun hb4769 => ?_)
  · refine y_aload 22 c91_21 rfl rfl rfl ?_
    refine y_getR 25 c91_22 rfl kf8_2 ?_
    refine y_aload 26 c91_25 rfl rfl rfl ?_
    refine y_getS 29 (B := 316) c91_26 rfl kf8_4 (by first | rfl | (rw [show mq4766 8 4 = 1 from by have e : mq4766 8 4 = 1 := ((hFq4766 8 4 rfl).trans (yup_eq _ _ _ _)); omega]; rfl)) ?_
    refine y_getX 32 (m 316 17) c91_29 rfl kf316_17 ((hFq4766 316 17 rfl).trans (yup_na (by decide))) ?_
    refine y_iconst 33 c91_32 rfl ?_
    refine y_iastore 34 c91_33 rfl ka71 (by omega) (y_nar0 _) ?_
    have hT4770 := hTq4766.up 71 ((m 316 17).toNat) 0 ((-2147483648)) 2147483647 rfl (by omega)
    have hF4771 := hF4767.up 71 ((m 316 17).toNat) 0 rfl
    refine y_aload 35 c91_34 rfl rfl rfl ?_
    refine y_getR 38 c91_35 rfl kf8_0 ?_
    refine y_aload 39 c91_38 rfl rfl rfl ?_
    refine y_getS 42 (B := 316) c91_39 rfl kf8_4 (by first | rfl | (rw [show (yup mq4766 71 ((m 316 17).toNat) 0) 8 4 = 1 from by have e : (yup mq4766 71 ((m 316 17).toNat) 0) 8 4 = 1 := ((yup_na (by decide)).trans ((hFq4766 8 4 rfl).trans (yup_eq _ _ _ _))); omega]; rfl)) ?_
    refine y_getR 45 c91_42 rfl kf316_5 ?_
    refine y_aload 46 c91_45 rfl rfl rfl ?_
    refine y_getS 49 (B := 316) c91_46 rfl kf8_4 (by first | rfl | (rw [show (yup mq4766 71 ((m 316 17).toNat) 0) 8 4 = 1 from by have e : (yup mq4766 71 ((m 316 17).toNat) 0) 8 4 = 1 := ((yup_na (by decide)).trans ((hFq4766 8 4 rfl).trans (yup_eq _ _ _ _))); omega]; rfl)) ?_
    refine y_getX 52 (m 316 17) c91_49 rfl kf316_17 ((yup_na (by decide)).trans ((hFq4766 316 17 rfl).trans (yup_na (by decide)))) ?_
    refine y_aaload 53 c91_52 rfl kr322 (by omega) ?_
    refine y_callP 56 [.ref (326 + (m 316 17).toNat)] [.ref 9] c91_53 rfl rfl rfl rfl rfl (ycanO km57 (fo326 (by omega))) (t57_316 hT4770 (by omega)) (fun r4772 hr4772 => ?_)
    refine y_aaload 57 c91_56 rfl kr9 (by omega) ?_
    refine y_iconst 58 c91_57 rfl ?_
    refine y_iconst 59 c91_58 rfl ?_
    refine y_iastore 60 c91_59 rfl (fa10 (by omega)) (by omega) (y_nar0 _) ?_
    have hT4773 := hT4770.up (10 + r4772.toNat) ((0 : Int).toNat) 0 ((-2147483648)) 2147483647 (fz10 (by omega)) (by omega)
    have hF4774 := hF4771.up (10 + r4772.toNat) ((0 : Int).toNat) 0 (wFd8_10 (by omega))
    refine y_aload 61 c91_60 rfl rfl rfl ?_
    refine y_iconst 62 c91_61 rfl ?_
    refine y_putI 65 c91_62 rfl kf8_5 (y_fit0 _) ?_
    have hT4775 := hT4773.up 8 5 0 0 2000 rfl (by omega)
    have hF4776 := hF4774.up 8 5 0 rfl
    have es4777 : (yup (yup (yup mq4766 71 ((m 316 17).toNat) 0) (10 + r4772.toNat) ((0 : Int).toNat) 0) 8 5 0) 8 5 = 0 := rfl
    have es4778 : (yup (yup (yup mq4766 71 ((m 316 17).toNat) 0) (10 + r4772.toNat) ((0 : Int).toNat) 0) 8 5 0) 8 4 = 1 := ((yup_nk (by decide)).trans ((yup_na (by omega)).trans ((yup_na (by decide)).trans ((hFq4766 8 4 rfl).trans (yup_eq _ _ _ _)))))
    have hg : GO 316 326 336 (yup (yup (yup mq4766 71 ((m 316 17).toNat) 0) (10 + r4772.toNat) ((0 : Int).toNat) 0) 8 5 0) := by
      intro k hk h4 i hi hne
      exfalso
      apply hne
      rw [hF4776 _ _ (wFd8_h (by omega))] at hk hi
      rw [hF4776 _ 6 (wFd8_h (by omega))]
      have t6 := hT.atp (336 + k) 6 (-1) 11 (ft336_6 (by omega))
      have t10 := hT.atp 316 10 0 10 rfl
      exact ((yup_na (by omega)).trans ((yup_na (by omega)).trans ((yup_na (by omega)).trans (hzq4766 _ i (by omega) (by omega)))))
    exact t91a_316 hT hM hR hL 2000 none none _ (by omega) hT4775 hF4776 (by omega) hg
  · have es4779 : mq4766 8 4 = 1 := ((hFq4766 8 4 rfl).trans (yup_eq _ _ _ _))
    exact y_retU c91_20 ⟨rfl, hTq4766, hF4767, by omega⟩
set_option maxRecDepth 100000 in
theorem t93b_316 {L : Nat} {xs : Nat → Int32} {d nn : Nat} {m : yM} (hT : Ty gT m) (hp : m 8 4 = 1) {v : Int} (hv : 0 ≤ v ∧ v < m 316 15) (ho : (∀ (f : Int) (x3 : Option Value), 0 ≤ f ∧ f ≤ 12 * (v + 1) → YW (gZ L xs) 93 d 4 [some (.ref 8), some (yI f), some (yI (v + 1)), x3] [] m nn (qP m nn (fun r => -2147483648 ≤ r ∧ r < 2147483648)))) : ∀ (km : Nat) (f : Int) (i : Int), m 316 14 - i = km → 0 ≤ i ∧ i ≤ m 316 14 → 0 ≤ f ∧ f ≤ 12 * v + i → YW (gZ L xs) 93 d 17 [some (.ref 8), some (yI f), some (yI v), some (yI i)] [] m nn (qP m nn (fun r => -2147483648 ≤ r ∧ r < 2147483648)) := by
  intro km
  induction km using Nat.strongRecOn with
  | ind km ih =>
    intro f i hk hi hf
    have tb := hT.atp 316 14 0 12 rfl
    have tb2 := hT.atp 316 15 0 48 rfl
    refine y_iload 18 c93_17 rfl rfl ?_
    refine y_aload 19 c93_18 rfl rfl rfl ?_
    refine y_getS 22 (B := 316) c93_19 rfl kf8_4 (by first | rfl | (rw [show m 8 4 = 1 from by have e : m 8 4 = m 8 4 := rfl; omega]; rfl)) ?_
    refine y_getX 25 (m 316 14) c93_22 rfl kf316_14 rfl ?_
    refine y_icmp 49 28 c93_25 rfl rfl (yc_ge (by omega) (by omega)) (fun hb4780 => ?_) (fun hb4780 => ?_)
    · refine y_iinc 52 c93_49 rfl rfl rfl ?_
      refine y_goto 4 c93_52 rfl ?_
      exact ho f _ (by omega)
    · refine y_aload 29 c93_28 rfl rfl rfl ?_
      refine y_getR 32 c93_29 rfl kf8_0 ?_
      refine y_iload 33 c93_32 rfl rfl ?_
      refine y_aaload 34 c93_33 rfl kr9 (by omega) ?_
      refine y_iload 35 c93_34 rfl rfl ?_
      refine y_iaT 36 ((-2147483648)) 2147483647 c93_35 rfl (fa10 (by omega)) (by omega) hT (fz10 (by omega)) (fun v4781 hv4781 gv4781 => ?_)
      refine y_iconst 37 c93_36 rfl ?_
      refine y_icmp 43 40 c93_37 rfl rfl (yc_eq (by omega) (by omega)) (fun hb4782 => ?_) (fun hb4782 => ?_)
      · refine y_iinc 46 c93_43 rfl rfl rfl ?_
        refine y_goto 17 c93_46 rfl ?_
        exact ih (m 316 14 - (i + 1) : Int).toNat (by omega) f (i + 1)   (by omega) (by omega) (by omega)
      · refine y_iinc 43 c93_40 rfl rfl rfl ?_
        refine y_iinc 46 c93_43 rfl rfl rfl ?_
        refine y_goto 17 c93_46 rfl ?_
        exact ih (m 316 14 - (i + 1) : Int).toNat (by omega) (f + 1) (i + 1)   (by omega) (by omega) (by omega)
set_option maxRecDepth 100000 in
theorem t93a_316 {L : Nat} {xs : Nat → Int32} {d nn : Nat} {m : yM} (hT : Ty gT m) (hp : m 8 4 = 1) : ∀ (km : Nat) (f : Int) (v : Int) (x3 : Option Value), m 316 15 - v = km → 0 ≤ v ∧ v ≤ m 316 15 → 0 ≤ f ∧ f ≤ 12 * v → YW (gZ L xs) 93 d 4 [some (.ref 8), some (yI f), some (yI v), x3] [] m nn (qP m nn (fun r => -2147483648 ≤ r ∧ r < 2147483648)) := by
  intro km
  induction km using Nat.strongRecOn with
  | ind km ih =>
    intro f v x3 hk hv hf
    have tb := hT.atp 316 14 0 12 rfl
    have tb2 := hT.atp 316 15 0 48 rfl
    refine y_iload 5 c93_4 rfl rfl ?_
    refine y_aload 6 c93_5 rfl rfl rfl ?_
    refine y_getS 9 (B := 316) c93_6 rfl kf8_4 (by first | rfl | (rw [show m 8 4 = 1 from by have e : m 8 4 = m 8 4 := rfl; omega]; rfl)) ?_
    refine y_getX 12 (m 316 15) c93_9 rfl kf316_15 rfl ?_
    refine y_icmp 55 15 c93_12 rfl rfl (yc_ge (by omega) (by omega)) (fun hb4783 => ?_) (fun hb4783 => ?_)
    · refine y_iload 56 c93_55 rfl rfl ?_
      exact y_retP c93_56 (y_fit0 _) (by omega)
    · refine y_iconst 16 c93_15 rfl ?_
      refine y_istore 17 c93_16 rfl rfl ?_
      exact t93b_316 hT hp (by omega) (fun f2 y3 hf2 => ih (m 316 15 - (v + 1)).toNat (by omega) f2 (v + 1) y3 (by omega) (by omega) (by omega)) (m 316 14 - 0).toNat f 0 (by omega) (by omega) (by omega)
set_option maxRecDepth 100000 in
theorem t93_316 {L : Nat} {xs : Nat → Int32} {d nn : Nat} {m : yM} (hT : Ty gT m) (hp : m 8 4 = 1) : YC (gZ L xs) d 93 [.ref 8] m nn (qP m nn (fun r => -2147483648 ≤ r ∧ r < 2147483648)) := by
  refine YC.mkB [some (.ref 8), none, none, none] kn93 rfl rfl ?_
  refine y_iconst 1 c93_0 rfl ?_
  refine y_istore 2 c93_1 rfl rfl ?_
  refine y_iconst 3 c93_2 rfl ?_
  refine y_istore 4 c93_3 rfl rfl ?_
  have tb2 := hT.atp 316 15 0 48 rfl
  exact t93a_316 hT hp (m 316 15 - 0).toNat 0 0 none (by omega) (by omega) (by omega)
end
section
/-! THE MACHINE: methods that may throw -/
def wMx (a q : Nat) : Bool := (a == 169 && (q == 5 || q == 6)) || decide (170 ≤ a ∧ a < 256)
theorem wMx_h {a q : Nat} (h : 256 ≤ a) : wMx a q = false := by
  cases e : wMx a q with
  | false => rfl
  | true => simp [wMx] at e <;> omega
theorem wMx_r {a q : Nat} (h : 170 ≤ a ∧ a < 256) : wMx a q = true := by
  simp [wMx]
  omega
theorem wRo_wMx {R : Nat} (h : 170 ≤ R ∧ R < 256) : ∀ a q, wRo R a q = true → wMx a q = true := by
  intro a q e
  simp [wRo] at e
  simp [wMx]
  omega
theorem khn {i pc q : Nat} (h : gH i = []) : gHd i pc q = some none := by
  unfold gHd
  rw [h]
  rfl
/-- something was thrown: one cell more -/
def qThr (nn : Nat) (m : yM) : xO → yM → Nat → Prop := fun o m' n' => ∃ q x, o = .inr (q, x) ∧ n' = nn + 1 ∧ Ty gT m' ∧ Fr wMx m m' ∧ 10 ≤ q ∧ q ≤ 13
def qTI (nn : Nat) (m : yM) (R : Int → yM → Prop) : xO → yM → Nat → Prop := fun o m' n' => (∃ x, o = .inl (some (yI x)) ∧ n' = nn ∧ Ty gT m' ∧ Fr wMx m m' ∧ R x m') ∨ qThr nn m o m' n'
def qTU (nn : Nat) (m : yM) (R : yM → Prop) : xO → yM → Nat → Prop := fun o m' n' => (o = .inl none ∧ n' = nn ∧ Ty gT m' ∧ Fr wMx m m' ∧ R m') ∨ qThr nn m o m' n'
def qTA (nn : Nat) (m : yM) (R : Nat → yM → Prop) : xO → yM → Nat → Prop := fun o m' n' => (∃ A, o = .inl (some (.ref A)) ∧ n' = nn ∧ Ty gT m' ∧ Fr wMx m m' ∧ R A m') ∨ qThr nn m o m' n'
section QTL
variable {L : Nat} {xs : Nat → Int32} {i j d pc pc' w a b : Nat} {ls : xL} {st : List Value} {m m0 : yM} {nn : Nat} {Q : xO → yM → Nat → Prop}
/-- what is thrown in a callee goes out of the caller too -/
def qOut (nn : Nat) (m0 : yM) (Q : xO → yM → Nat → Prop) : Prop := ∀ o m' n', qThr nn m0 o m' n' → Q o m' n'
theorem qOut.I {R : Int → yM → Prop} : qOut nn m0 (qTI nn m0 R) := fun _ _ _ h => Or.inr h
theorem qOut.U {R : yM → Prop} : qOut nn m0 (qTU nn m0 R) := fun _ _ _ h => Or.inr h
theorem qOut.A {R : Nat → yM → Prop} : qOut nn m0 (qTA nn m0 R) := fun _ _ _ h => Or.inr h
theorem qThr.tr {m1 m2 : yM} {o : xO} {n' : Nat} (h : qThr nn m1 o m2 n') (F : Fr wMx m0 m1) : qThr nn m0 o m2 n' := by
  obtain ⟨q, x, h1, h2, h3, h4, h5⟩ := h
  exact ⟨q, x, h1, h2, h3, F.tr' h4, h5⟩
theorem y_mI (pc' : Nat) (as : List Value) (st0 : List Value) {ix kk kd : Nat} {R : Int → yM → Prop} (ho : gP i pc = some (.invokeinterface j ix, w, kk, kd)) (hp : pc + w = pc') (ha : (st.take kk).reverse = as) (hr : st.drop kk = st0) (hk : Nat.ble kk st.length = true) (hw : Nat.ble (xw st0) 8 = true) (hm : ycan (gZ L xs) j as) (hH : gH i = []) (hO : qOut nn m0 Q) (hF : Fr wMx m0 m) (hc : YC (gZ L xs) d j as m nn (qTI nn m R)) (k1 : ∀ x m', Ty gT m' → Fr wMx m m' → R x m' → YW (gZ L xs) i (d + 1) pc' ls (yI x :: st0) m' nn Q) : YW (gZ L xs) i (d + 1) pc ls st m nn Q :=
  y_call pc' ho hp ha hr (Nat.le_of_ble_eq_true hk) (Nat.le_of_ble_eq_true hw) hm hc (fun v m' n' hq => by
    rcases hq with ⟨x, e, rfl, h1, h2, h3⟩ | ⟨q, x, e, -⟩
    · cases e
      exact k1 x m' h1 h2 h3
    · cases e) (fun q x m' n' hq => by
    rcases hq with ⟨x, e, -⟩ | h
    · cases e
    · exact Or.inr ⟨khn hH, hO _ _ _ (h.tr hF)⟩)
theorem y_mU (pc' : Nat) (as : List Value) (st0 : List Value) {ix kk kd : Nat} {R : yM → Prop} (ho : gP i pc = some (.invokeinterface j ix, w, kk, kd)) (hp : pc + w = pc') (ha : (st.take kk).reverse = as) (hr : st.drop kk = st0) (hk : Nat.ble kk st.length = true) (hw : Nat.ble (xw st0) 8 = true) (hm : ycan (gZ L xs) j as) (hH : gH i = []) (hO : qOut nn m0 Q) (hF : Fr wMx m0 m) (hc : YC (gZ L xs) d j as m nn (qTU nn m R)) (k1 : ∀ m', Ty gT m' → Fr wMx m m' → R m' → YW (gZ L xs) i (d + 1) pc' ls st0 m' nn Q) : YW (gZ L xs) i (d + 1) pc ls st m nn Q :=
  y_call pc' ho hp ha hr (Nat.le_of_ble_eq_true hk) (Nat.le_of_ble_eq_true hw) hm hc (fun v m' n' hq => by
    rcases hq with ⟨e, rfl, h1, h2, h3⟩ | ⟨q, x, e, -⟩
    · cases e
      exact k1 m' h1 h2 h3
    · cases e) (fun q x m' n' hq => by
    rcases hq with ⟨e, -⟩ | h
    · cases e
    · exact Or.inr ⟨khn hH, hO _ _ _ (h.tr hF)⟩)
theorem y_mA (pc' : Nat) (as : List Value) (st0 : List Value) {ix kk kd : Nat} {R : Nat → yM → Prop} (ho : gP i pc = some (.invokeinterface j ix, w, kk, kd)) (hp : pc + w = pc') (ha : (st.take kk).reverse = as) (hr : st.drop kk = st0) (hk : Nat.ble kk st.length = true) (hw : Nat.ble (xw st0) 8 = true) (hm : ycan (gZ L xs) j as) (hH : gH i = []) (hO : qOut nn m0 Q) (hF : Fr wMx m0 m) (hc : YC (gZ L xs) d j as m nn (qTA nn m R)) (k1 : ∀ A m', Ty gT m' → Fr wMx m m' → R A m' → YW (gZ L xs) i (d + 1) pc' ls (.ref A :: st0) m' nn Q) : YW (gZ L xs) i (d + 1) pc ls st m nn Q :=
  y_call pc' ho hp ha hr (Nat.le_of_ble_eq_true hk) (Nat.le_of_ble_eq_true hw) hm hc (fun v m' n' hq => by
    rcases hq with ⟨A, e, rfl, h1, h2, h3⟩ | ⟨q, x, e, -⟩
    · cases e
      exact k1 A m' h1 h2 h3
    · cases e) (fun q x m' n' hq => by
    rcases hq with ⟨x, e, -⟩ | h
    · cases e
    · exact Or.inr ⟨khn hH, hO _ _ _ (h.tr hF)⟩)
theorem y_mThr {e : Nat} (ho : gP i pc = some (.athrow, w, e, b)) (hw : Nat.ble (xw st) 8 = true) (hT : Ty gT m) (hF : Fr wMx m0 m) (he : 10 ≤ e ∧ e ≤ 13) (hO : qOut nn m0 Q) : YW (gZ L xs) i d pc ls st m nn Q :=
  y_throwB ho hw (hO _ _ _ ⟨e, nn, rfl, rfl, hT, hF, he⟩)
theorem y_mRI {t : Nat} {x : Int} {R : Int → yM → Prop} (ho : gP i pc = some (.ireturn, w, t, b)) (hv : xfit t (yI x) = true) (hT : Ty gT m) (hF : Fr wMx m0 m) (hq : R x m) : YW (gZ L xs) i d pc ls [yI x] m nn (qTI nn m0 R) := y_ireturn ho hv (Or.inl ⟨x, rfl, rfl, hT, hF, hq⟩)
theorem y_mRU {R : yM → Prop} (ho : gP i pc = some (.return_, w, a, b)) (hT : Ty gT m) (hF : Fr wMx m0 m) (hq : R m) : YW (gZ L xs) i d pc ls [] m nn (qTU nn m0 R) := y_return ho (Or.inl ⟨rfl, rfl, hT, hF, hq⟩)
theorem y_mRA {A : Nat} {R : Nat → yM → Prop} (ho : gP i pc = some (.areturn, w, a, b)) (hT : Ty gT m) (hF : Fr wMx m0 m) (hq : R A m) : YW (gZ L xs) i d pc ls [.ref A] m nn (qTA nn m0 R) := y_areturn ho rfl (Or.inl ⟨A, rfl, rfl, hT, hF, hq⟩)
end QTL
end
section
/-! CONTRACTS: the machine. Printed by wip/whole/gen93.py -/
theorem kg186 : gH 186 = [] := by decide +kernel
theorem kg187 : gH 187 = [] := by decide +kernel
theorem kg188 : gH 188 = [] := by decide +kernel
theorem kg189 : gH 189 = [] := by decide +kernel
theorem kg190 : gH 190 = [] := by decide +kernel
theorem kg191 : gH 191 = [] := by decide +kernel
theorem kg192 : gH 192 = [] := by decide +kernel
theorem kg193 : gH 193 = [] := by decide +kernel
theorem kg194 : gH 194 = [] := by decide +kernel
theorem kg195 : gH 195 = [] := by decide +kernel
theorem kg196 : gH 196 = [] := by decide +kernel
theorem kg197 : gH 197 = [] := by decide +kernel
theorem kg198 : gH 198 = [] := by decide +kernel
theorem kg199 : gH 199 = [] := by decide +kernel
set_option maxRecDepth 100000 in
theorem t92a {L : Nat} {xs : Nat → Int32} {d nn : Nat} {m : yM} (hT : Ty gT m) : ∀ (km : Nat) (i : Int) (mi : yM), 48 - i = km → 0 ≤ i ∧ i ≤ 48 → Ty gT mi → Fr wMx m mi → YW (gZ L xs) 92 (d + 1) 2 [some (.ref 169), some (yI i)] [] mi nn (qU (fun m' n' => n' = nn ∧ Ty gT m' ∧ Fr wMx m m')) := by
  intro km
  induction km using Nat.strongRecOn with
  | ind km ih =>
    intro i mi hk hi hTi hFi
    refine y_iload 3 c92_2 rfl rfl ?_
    refine y_iconst 5 c92_3 rfl ?_
    refine y_icmp 24 8 c92_5 rfl rfl (yc_ge (by omega) (by omega)) (fun hb4784 => ?_) (fun hb4784 => ?_)
    · exact y_retU c92_24 ⟨rfl, hTi, hFi⟩
    · refine y_aload 9 c92_8 rfl rfl rfl ?_
      refine y_getR 12 c92_9 rfl kf169_0 ?_
      refine y_iload 13 c92_12 rfl rfl ?_
      refine y_aaload 14 c92_13 rfl kr170 (by omega) ?_
      refine y_iconst 15 c92_14 rfl ?_
      refine y_callUB 18 [.ref (171 + i.toNat), yI 0] [] c92_15 rfl rfl rfl rfl rfl (ycanS km75) (t75 hTi (fa171 (by omega)) (fun _ => fz171 (by omega)) (by decide) (by omega)) (fun mq4785 nq4785 hq4785 => ?_)
      obtain ⟨rfl, hTq4785, hFq4785, hq4785⟩ := hq4785
      have hF4786 := hFi.tr hFq4785 (wRo_wMx (by omega))
      refine y_iinc 21 c92_18 rfl rfl rfl ?_
      refine y_goto 2 c92_21 rfl ?_
      exact ih (48 - (i + 1) : Int).toNat (by omega) (i + 1)  _ (by omega) (by omega) hTq4785 hF4786
set_option maxRecDepth 100000 in
theorem t92 {L : Nat} {xs : Nat → Int32} {d nn : Nat} {m : yM} (hT : Ty gT m) : YC (gZ L xs) (d + 1) 92 [.ref 169] m nn (qU (fun m' n' => n' = nn ∧ Ty gT m' ∧ Fr wMx m m')) := by
  refine YC.mkB [some (.ref 169), none] kn92 rfl rfl ?_
  refine y_iconst 1 c92_0 rfl ?_
  refine y_istore 2 c92_1 rfl rfl ?_
  exact t92a hT 48 0 m (by omega) (by omega) hT Fr.rf
set_option maxRecDepth 100000 in
theorem t186 {L : Nat} {xs : Nat → Int32} {d nn : Nat} {m : yM} {s : Int} (hT : Ty gT m) (hs : 0 ≤ s ∧ s ≤ 11) : YC (gZ L xs) (d + 1) 186 [.ref 169, yI s] m nn (qTI nn m (fun r m' => 0 ≤ r ∧ r ≤ 29 ∧ m' 169 6 = m 169 6)) := by
  refine YC.mkB [some (.ref 169), some (yI s), none] kn186 rfl rfl ?_
  have hF : Fr wMx m m := Fr.rf
  refine y_aload 1 c186_0 rfl rfl rfl ?_
  refine y_getX 4 (m 169 5) c186_1 rfl kf169_5 rfl ?_
  have tb4787 := hT.atp 169 5 0 30 rfl
  refine y_iconst 6 c186_4 rfl ?_
  refine y_icmp 17 9 c186_6 rfl rfl (yc_ne (by omega) (by omega)) (fun hb4788 => ?_) (fun hb4788 => ?_)
  · refine y_aload 18 c186_17 rfl rfl rfl ?_
    refine y_getX 21 (m 169 5) c186_18 rfl kf169_5 rfl ?_
    refine y_istore 22 c186_21 rfl rfl ?_
    refine y_aload 23 c186_22 rfl rfl rfl ?_
    refine y_dup 24 c186_23 rfl rfl ?_
    refine y_getX 27 (m 169 5) c186_24 rfl kf169_5 rfl ?_
    refine y_iconst 28 c186_27 rfl ?_
    refine y_iadd 29 c186_28 rfl ?_
    refine y_putI 32 c186_29 rfl kf169_5 (y_fit0 _) ?_
    have hT4789 := hT.up 169 5 ((m 169 5) + 1) 0 30 rfl (by omega)
    have hF4790 := hF.up 169 5 ((m 169 5) + 1) rfl
    refine y_aload 33 c186_32 rfl rfl rfl ?_
    refine y_getR 36 c186_33 rfl kf169_1 ?_
    refine y_iload 37 c186_36 rfl rfl ?_
    refine y_iload 38 c186_37 rfl rfl ?_
    refine y_iastore 39 c186_38 rfl ka219 (by omega) (y_nar0 _) ?_
    have hT4791 := hT4789.up 219 ((m 169 5).toNat) s 0 11 rfl (by omega)
    have hF4792 := hF4790.up 219 ((m 169 5).toNat) s rfl
    refine y_aload 40 c186_39 rfl rfl rfl ?_
    refine y_getR 43 c186_40 rfl kf169_2 ?_
    refine y_iload 44 c186_43 rfl rfl ?_
    refine y_aaload 45 c186_44 rfl kr220 (by omega) ?_
    refine y_iconst 46 c186_45 rfl ?_
    refine y_callUB 49 [.ref (221 + (m 169 5).toNat), yI ((-1))] [] c186_46 rfl rfl rfl rfl rfl (ycanS km75) (t75 hT4791 (fa221 (by omega)) (fun _ => fz221 (by omega)) (by decide) (by omega)) (fun mq4793 nq4793 hq4793 => ?_)
    obtain ⟨rfl, hTq4793, hFq4793, hq4793⟩ := hq4793
    have hF4794 := hF4792.tr hFq4793 (wRo_wMx (by omega))
    refine y_iload 50 c186_49 rfl rfl ?_
    have es4795 : mq4793 169 6 = m 169 6 := ((hFq4793 169 6 (wRo_n (by omega))).trans ((yup_na (by decide)).trans (yup_nk (by decide))))
    have tb4796 := hT.atp 169 6 0 200 rfl
    exact y_mRI c186_50 (y_fit0 _) hTq4793 hF4794 (by omega)
  · exact y_mThr c186_9 rfl hT hF (by decide) qOut.I
set_option maxRecDepth 100000 in
theorem t187 {L : Nat} {xs : Nat → Int32} {d nn : Nat} {m : yM} {x : Int} (hT : Ty gT m) (hx : 0 ≤ x ∧ x ≤ 4) : YC (gZ L xs) (d + 1) 187 [.ref 169, yI x] m nn (qTA nn m (fun R m' => R = 252 + x.toNat ∧ x ≤ 3 ∧ m' 169 6 = m 169 6)) := by
  refine YC.mkB [some (.ref 169), some (yI x)] kn187 rfl rfl ?_
  have hF : Fr wMx m m := Fr.rf
  refine y_iload 1 c187_0 rfl rfl ?_
  refine y_iconst 2 c187_1 rfl ?_
  refine y_icmp 13 5 c187_2 rfl rfl (yc_lt (by omega) (by omega)) (fun hb4797 => ?_) (fun hb4797 => ?_)
  · refine y_aload 14 c187_13 rfl rfl rfl ?_
    refine y_getR 17 c187_14 rfl kf169_3 ?_
    refine y_iload 18 c187_17 rfl rfl ?_
    refine y_aaload 19 c187_18 rfl kr251 (by omega) ?_
    refine y_iconst 20 c187_19 rfl ?_
    refine y_callUB 23 [.ref (252 + x.toNat), yI ((-1))] [] c187_20 rfl rfl rfl rfl rfl (ycanS km75) (t75 hT (fa252 (by omega)) (fun _ => fz252 (by omega)) (by decide) (by omega)) (fun mq4798 nq4798 hq4798 => ?_)
    obtain ⟨rfl, hTq4798, hFq4798, hq4798⟩ := hq4798
    have hF4799 := hF.tr hFq4798 (wRo_wMx (by omega))
    refine y_aload 24 c187_23 rfl rfl rfl ?_
    refine y_getR 27 c187_24 rfl kf169_3 ?_
    refine y_iload 28 c187_27 rfl rfl ?_
    refine y_aaload 29 c187_28 rfl kr251 (by omega) ?_
    have es4800 : mq4798 169 6 = m 169 6 := (hFq4798 169 6 (wRo_n (by omega)))
    have tb4801 := hT.atp 169 6 0 200 rfl
    exact y_mRA c187_29 hTq4798 hF4799 (⟨rfl, by omega, by omega⟩)
  · exact y_mThr c187_5 rfl hT hF (by decide) qOut.A
set_option maxRecDepth 100000 in
theorem t188 {L : Nat} {xs : Nat → Int32} {d nn : Nat} {m : yM} {x v q : Int} (hT : Ty gT m) (hx : 0 ≤ x ∧ x ≤ 3) (hv : 0 ≤ v ∧ v ≤ 47) (hq : -1 ≤ q ∧ q ≤ 29) : YC (gZ L xs) d 188 [.ref 169, .ref (252 + x.toNat), yI v, yI q] m nn (qU (fun m' n' => n' = nn ∧ Ty gT m' ∧ Fr wMx m m' ∧ m' 169 6 = m 169 6)) := by
  refine YC.mkB [some (.ref 169), some (.ref (252 + x.toNat)), some (yI v), some (yI q)] kn188 rfl rfl ?_
  have hF : Fr wMx m m := Fr.rf
  refine y_aload 1 c188_0 rfl rfl rfl ?_
  refine y_iload 2 c188_1 rfl rfl ?_
  refine y_iload 3 c188_2 rfl rfl ?_
  refine y_iastore 4 c188_3 rfl (fa252 (by omega)) (by omega) (y_nar0 _) ?_
  have hT4802 := hT.up (252 + x.toNat) v.toNat q ((-1)) 29 (fz252 (by omega)) (by omega)
  have hF4803 := hF.up (252 + x.toNat) v.toNat q (wMx_r (by omega))
  refine y_iload 5 c188_4 rfl rfl ?_
  refine y_iconst 6 c188_5 rfl ?_
  refine y_icmp 23 9 c188_6 rfl rfl (yc_eq (by omega) (by omega)) (fun hb4804 => ?_) (fun hb4804 => ?_)
  · have es4805 : (yup m (252 + x.toNat) v.toNat q) 169 6 = m 169 6 := (yup_na (by omega))
    have tb4806 := hT.atp 169 6 0 200 rfl
    exact y_retU c188_23 ⟨rfl, hT4802, hF4803, by omega⟩
  · refine y_aload 10 c188_9 rfl rfl rfl ?_
    refine y_getR 13 c188_10 rfl kf169_0 ?_
    refine y_iload 14 c188_13 rfl rfl ?_
    refine y_aaload 15 c188_14 rfl kr170 (by omega) ?_
    refine y_aload 16 c188_15 rfl rfl rfl ?_
    refine y_getR 19 c188_16 rfl kf169_1 ?_
    refine y_iload 20 c188_19 rfl rfl ?_
    refine y_iaT 21 0 11 c188_20 rfl ka219 (by omega) hT4802 rfl (fun v4807 hv4807 gv4807 => ?_)
    refine y_iconst 22 c188_21 rfl ?_
    refine y_iastore 23 c188_22 rfl (fa171 (by omega)) (by omega) (y_nar0 _) ?_
    have hT4808 := hT4802.up (171 + v.toNat) v4807.toNat 1 ((-2147483648)) 2147483647 (fz171 (by omega)) (by omega)
    have hF4809 := hF4803.up (171 + v.toNat) v4807.toNat 1 (wMx_r (by omega))
    have es4810 : (yup (yup m (252 + x.toNat) v.toNat q) (171 + v.toNat) v4807.toNat 1) 169 6 = m 169 6 := ((yup_na (by omega)).trans (yup_na (by omega)))
    have tb4811 := hT.atp 169 6 0 200 rfl
    exact y_retU c188_23 ⟨rfl, hT4808, hF4809, by omega⟩
set_option maxRecDepth 100000 in
theorem t189 {L : Nat} {xs : Nat → Int32} {d nn : Nat} {m : yM} (hT : Ty gT m) : YC (gZ L xs) d 189 [.ref 169] m nn (qTU nn m (fun m' => m' 169 6 = m 169 6 + 1)) := by
  refine YC.mkB [some (.ref 169)] kn189 rfl rfl ?_
  have hF : Fr wMx m m := Fr.rf
  refine y_aload 1 c189_0 rfl rfl rfl ?_
  refine y_getX 4 (m 169 6) c189_1 rfl kf169_6 rfl ?_
  have tb4812 := hT.atp 169 6 0 200 rfl
  refine y_iconst 7 c189_4 rfl ?_
  refine y_icmp 18 10 c189_7 rfl rfl (yc_ne (by omega) (by omega)) (fun hb4813 => ?_) (fun hb4813 => ?_)
  · refine y_aload 19 c189_18 rfl rfl rfl ?_
    refine y_dup 20 c189_19 rfl rfl ?_
    refine y_getX 23 (m 169 6) c189_20 rfl kf169_6 rfl ?_
    refine y_iconst 24 c189_23 rfl ?_
    refine y_iadd 25 c189_24 rfl ?_
    refine y_putI 28 c189_25 rfl kf169_6 (y_fit0 _) ?_
    have hT4814 := hT.up 169 6 ((m 169 6) + 1) 0 200 rfl (by omega)
    have hF4815 := hF.up 169 6 ((m 169 6) + 1) rfl
    have es4816 : (yup m 169 6 ((m 169 6) + 1)) 169 6 = (m 169 6) + 1 := rfl
    exact y_mRU c189_28 hT4814 hF4815 (by omega)
  · exact y_mThr c189_10 rfl hT hF (by decide) qOut.U
end
