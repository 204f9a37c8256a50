/-! CONTRACTS: the facts. Printed by wip/whole/gen92.py -/
set_option maxRecDepth 100000 in
theorem t82a_316 {L : Nat} {xs : Nat → Int32} {d nn : Nat} {m : yM} {k : Int} (hT : Ty gT m) (hp : m 8 4 = 1) (hk : 0 ≤ k ∧ k ≤ 39) (h2 : 0 ≤ m (336 + k.toNat) 2) (h3 : 0 ≤ m (336 + k.toNat) 3) : ∀ (k : Nat) (i : Int) (mi : yM), m 316 14 - i = k → 0 ≤ i ∧ i ≤ m 316 14 → Ty gT mi → Fr wFy m mi → YW (gZ L xs) 82 (d + 2) 2 [some (.ref 8), some (.ref (336 + k.toNat)), some (yI i)] [] mi nn (qU (fun m' n' => n' = nn ∧ Ty gT m' ∧ Fr wFy m m')) := by
  intro k
  induction k using Nat.strongRecOn with
  | ind k ih =>
    intro i mi hk hi hTi hFi
    have tb := hT.atp 316 14 0 12 rfl
    refine y_iload 3 c82_2 rfl rfl ?_
    refine y_aload 4 c82_3 rfl rfl rfl ?_
    refine y_getS 7 (B := 316) c82_4 rfl kf8_4 (by rw [show mi 8 4 = 1 from by have e : mi 8 4 = m 8 4 := (hFi 8 4 rfl); omega]; rfl) ?_
    refine y_getX 10 (m 316 14) c82_7 rfl kf316_14 (hFi 316 14 rfl) ?_
    refine y_icmp 74 13 c82_10 rfl rfl (yc_ge (by omega) (by omega)) (fun hb4552 => ?_) (fun hb4552 => ?_)
    · exact y_retU c82_74 ⟨rfl, hTi, hFi⟩
    · refine y_aload 14 c82_13 rfl rfl rfl ?_
      refine y_aload 15 c82_14 rfl rfl rfl ?_
      refine y_getR 18 c82_15 rfl kf8_0 ?_
      refine y_aload 19 c82_18 rfl rfl rfl ?_
      refine y_getX 22 (m (336 + k.toNat) 3) c82_19 rfl (ff336_3 (by omega)) (hFi (336 + k.toNat) 3 (wFy_h (by omega))) ?_
      have tb4553 := hT.atp (336 + k.toNat) 3 ((-1)) 47 (ft336_3 (by omega))
      refine y_aaload 23 c82_22 rfl kr9 (by omega) ?_
      refine y_iload 24 c82_23 rfl rfl ?_
      refine y_iaT 25 ((-2147483648)) 2147483647 c82_24 rfl (fa10 (by omega)) (by omega) hTi (fz10 (by omega)) (fun v4554 hv4554 gv4554 => ?_)
      refine y_callP 28 [.ref 8, yI v4554] [] c82_25 rfl rfl rfl rfl rfl (ycanO km78 ko8) (t78 hTi (by omega)) (fun r4555 hr4555 => ?_)
      refine y_if 68 31 c82_28 rfl rfl (yz_eq (by omega)) (fun hb4556 => ?_) (fun hb4556 => ?_)
      · refine y_iinc 71 c82_68 rfl rfl rfl ?_
        refine y_goto 2 c82_71 rfl ?_
        exact ih (m 316 14 - (i + 1) : Int).toNat (by omega) (i + 1)  _ (by omega) (by omega) hTi hFi
      · refine y_aload 32 c82_31 rfl rfl rfl ?_
        refine y_getS 35 (B := 316) c82_32 rfl kf8_4 (by rw [show mi 8 4 = 1 from by have e : mi 8 4 = m 8 4 := (hFi 8 4 rfl); omega]; rfl) ?_
        refine y_aload 36 c82_35 rfl rfl rfl ?_
        refine y_getS 39 (B := 316) c82_36 rfl kf8_4 (by rw [show mi 8 4 = 1 from by have e : mi 8 4 = m 8 4 := (hFi 8 4 rfl); omega]; rfl) ?_
        refine y_getR 42 c82_39 rfl kf316_7 ?_
        refine y_iload 43 c82_42 rfl rfl ?_
        refine y_iaT 44 0 5 c82_43 rfl ka324 (by omega) hTi rfl (fun v4557 hv4557 gv4557 => ?_)
        refine y_aload 45 c82_44 rfl rfl rfl ?_
        refine y_getX 48 (m (336 + k.toNat) 7) c82_45 rfl (ff336_7 (by omega)) (hFi (336 + k.toNat) 7 (wFy_h (by omega))) ?_
        have tb4558 := hT.atp (336 + k.toNat) 7 ((-1)) 5 (ft336_7 (by omega))
        refine y_callP 51 [.ref 316, yI v4557, yI (m (336 + k.toNat) 7)] [] c82_48 rfl rfl rfl rfl rfl (ycanO km81 ko316) (t81_316 hTi (by omega) (by omega)) (fun r4559 hr4559 => ?_)
        refine y_if 68 54 c82_51 rfl rfl (yz_eq (by omega)) (fun hb4560 => ?_) (fun hb4560 => ?_)
        · refine y_iinc 71 c82_68 rfl rfl rfl ?_
          refine y_goto 2 c82_71 rfl ?_
          exact ih (m 316 14 - (i + 1) : Int).toNat (by omega) (i + 1)  _ (by omega) (by omega) hTi hFi
        · refine y_aload 55 c82_54 rfl rfl rfl ?_
          refine y_aload 56 c82_55 rfl rfl rfl ?_
          refine y_getR 59 c82_56 rfl kf8_0 ?_
          refine y_aload 60 c82_59 rfl rfl rfl ?_
          refine y_getX 63 (m (336 + k.toNat) 2) c82_60 rfl (ff336_2 (by omega)) (hFi (336 + k.toNat) 2 (wFy_h (by omega))) ?_
          have tb4561 := hT.atp (336 + k.toNat) 2 ((-1)) 47 (ft336_2 (by omega))
          refine y_aaload 64 c82_63 rfl kr9 (by omega) ?_
          refine y_iload 65 c82_64 rfl rfl ?_
          refine y_callUB 68 [.ref 8, .ref (10 + (m (336 + k.toNat) 2).toNat), yI i] [] c82_65 rfl rfl rfl rfl rfl (ycanO km79 ko8) (t79 hTi (fa10 (by omega)) (fun _ => fz10 (by omega)) (by omega) (by omega)) (fun mq4562 nq4562 hq4562 => ?_)
          obtain ⟨rfl, hTq4562, hFq4562, hq4562⟩ := hq4562
          have hF4563 := hFi.tr hFq4562 (wTe_wFy (by omega))
          refine y_iinc 71 c82_68 rfl rfl rfl ?_
          refine y_goto 2 c82_71 rfl ?_
          exact ih (m 316 14 - (i + 1) : Int).toNat (by omega) (i + 1)  _ (by omega) (by omega) hTq4562 hF4563
set_option maxRecDepth 100000 in
theorem t82_316 {L : Nat} {xs : Nat → Int32} {d nn : Nat} {m : yM} {k : Int} (hT : Ty gT m) (hp : m 8 4 = 1) (hk : 0 ≤ k ∧ k ≤ 39) (h2 : 0 ≤ m (336 + k.toNat) 2) (h3 : 0 ≤ m (336 + k.toNat) 3) : YC (gZ L xs) (d + 2) 82 [.ref 8, .ref (336 + k.toNat)] m nn (qU (fun m' n' => n' = nn ∧ Ty gT m' ∧ Fr wFy m m')) := by
  refine YC.mkB [some (.ref 8), some (.ref (336 + k.toNat)), none] kn82 rfl rfl ?_
  refine y_iconst 1 c82_0 rfl ?_
  refine y_istore 2 c82_1 rfl rfl ?_
  have tb := hT.atp 316 14 0 12 rfl
  exact t82a_316 hT hp hk h2 h3 (m 316 14 - 0).toNat 0 m (by omega) (by omega) hT Fr.rf
set_option maxRecDepth 100000 in
theorem t84a_316 {L : Nat} {xs : Nat → Int32} {d nn : Nat} {m : yM} {k : Int} (hT : Ty gT m) (hp : m 8 4 = 1) (hk : 0 ≤ k ∧ k ≤ 39) (h2 : 0 ≤ m (336 + k.toNat) 2) (h3 : 0 ≤ m (336 + k.toNat) 3) (h6 : m (336 + k.toNat) 6 ≤ 7) : ∀ (k : Nat) (i : Int) (mi : yM), m 316 14 - i = k → 0 ≤ i ∧ i ≤ m 316 14 → Ty gT mi → Fr wFy m mi → YW (gZ L xs) 84 (d + 2) 2 [some (.ref 8), some (.ref (336 + k.toNat)), some (yI i)] [] mi nn (qU (fun m' n' => n' = nn ∧ Ty gT m' ∧ Fr wFy m m')) := by
  intro k
  induction k using Nat.strongRecOn with
  | ind k ih =>
    intro i mi hk hi hTi hFi
    have tb := hT.atp 316 14 0 12 rfl
    refine y_iload 3 c84_2 rfl rfl ?_
    refine y_aload 4 c84_3 rfl rfl rfl ?_
    refine y_getS 7 (B := 316) c84_4 rfl kf8_4 (by rw [show mi 8 4 = 1 from by have e : mi 8 4 = m 8 4 := (hFi 8 4 rfl); omega]; rfl) ?_
    refine y_getX 10 (m 316 14) c84_7 rfl kf316_14 (hFi 316 14 rfl) ?_
    refine y_icmp 67 13 c84_10 rfl rfl (yc_ge (by omega) (by omega)) (fun hb4564 => ?_) (fun hb4564 => ?_)
    · exact y_retU c84_67 ⟨rfl, hTi, hFi⟩
    · refine y_aload 14 c84_13 rfl rfl rfl ?_
      refine y_aload 15 c84_14 rfl rfl rfl ?_
      refine y_getR 18 c84_15 rfl kf8_0 ?_
      refine y_aload 19 c84_18 rfl rfl rfl ?_
      refine y_getX 22 (m (336 + k.toNat) 3) c84_19 rfl (ff336_3 (by omega)) (hFi (336 + k.toNat) 3 (wFy_h (by omega))) ?_
      have tb4565 := hT.atp (336 + k.toNat) 3 ((-1)) 47 (ft336_3 (by omega))
      refine y_aaload 23 c84_22 rfl kr9 (by omega) ?_
      refine y_iload 24 c84_23 rfl rfl ?_
      refine y_iaT 25 ((-2147483648)) 2147483647 c84_24 rfl (fa10 (by omega)) (by omega) hTi (fz10 (by omega)) (fun v4566 hv4566 gv4566 => ?_)
      refine y_callP 28 [.ref 8, yI v4566] [] c84_25 rfl rfl rfl rfl rfl (ycanO km78 ko8) (t78 hTi (by omega)) (fun r4567 hr4567 => ?_)
      refine y_if 61 31 c84_28 rfl rfl (yz_eq (by omega)) (fun hb4568 => ?_) (fun hb4568 => ?_)
      · refine y_iinc 64 c84_61 rfl rfl rfl ?_
        refine y_goto 2 c84_64 rfl ?_
        exact ih (m 316 14 - (i + 1) : Int).toNat (by omega) (i + 1)  _ (by omega) (by omega) hTi hFi
      · refine y_aload 32 c84_31 rfl rfl rfl ?_
        refine y_getX 35 (m (336 + k.toNat) 6) c84_32 rfl (ff336_6 (by omega)) (hFi (336 + k.toNat) 6 (wFy_h (by omega))) ?_
        have tb4569 := hT.atp (336 + k.toNat) 6 ((-1)) 11 (ft336_6 (by omega))
        refine y_iconst 36 c84_35 rfl ?_
        refine y_icmp 61 39 c84_36 rfl rfl (yc_eq (by omega) (by omega)) (fun hb4570 => ?_) (fun hb4570 => ?_)
        · refine y_iinc 64 c84_61 rfl rfl rfl ?_
          refine y_goto 2 c84_64 rfl ?_
          exact ih (m 316 14 - (i + 1) : Int).toNat (by omega) (i + 1)  _ (by omega) (by omega) hTi hFi
        · refine y_aload 40 c84_39 rfl rfl rfl ?_
          refine y_aload 41 c84_40 rfl rfl rfl ?_
          refine y_iload 42 c84_41 rfl rfl ?_
          refine y_aload 43 c84_42 rfl rfl rfl ?_
          refine y_getX 46 (m (336 + k.toNat) 6) c84_43 rfl (ff336_6 (by omega)) (hFi (336 + k.toNat) 6 (wFy_h (by omega))) ?_
          refine y_callAB 49 [.ref 8, yI i, yI (m (336 + k.toNat) 6)] [.ref 8] c84_46 rfl rfl rfl rfl rfl (ycanO km83 ko8) (t83 (by omega) (by omega)) (fun Rq4571 mq4571 nq4571 hq4571 => ?_)
          obtain ⟨rfl, rfl, rfl⟩ := hq4571
          refine y_aload 50 c84_49 rfl rfl rfl ?_
          refine y_getR 53 c84_50 rfl kf8_0 ?_
          refine y_aload 54 c84_53 rfl rfl rfl ?_
          refine y_getX 57 (m (336 + k.toNat) 2) c84_54 rfl (ff336_2 (by omega)) (hFi (336 + k.toNat) 2 (wFy_h (by omega))) ?_
          have tb4572 := hT.atp (336 + k.toNat) 2 ((-1)) 47 (ft336_2 (by omega))
          refine y_aaload 58 c84_57 rfl kr9 (by omega) ?_
          have es4574 : mi 8 4 = m 8 4 := (hFi 8 4 rfl)
          have tb4575 := hT.atp 8 4 ((-1)) 1 rfl
          refine y_callUB 61 [.ref 8, .ref (73 + (i * 8 + (m (336 + k.toNat) 6)).toNat), .ref (10 + (m (336 + k.toNat) 2).toNat)] [] c84_58 rfl rfl rfl rfl rfl (ycanO km80 ko8) (t80_316 hTi (by omega) (fa73 (by omega)) (fun _ => fz73 (by omega)) (fa10 (by omega)) (fun _ => fz10 (by omega)) (by omega)) (fun mq4573 nq4573 hq4573 => ?_)
          obtain ⟨rfl, hTq4573, hFq4573⟩ := hq4573
          have hF4576 := hFi.tr hFq4573 (wTe_wFy (by omega))
          refine y_iinc 64 c84_61 rfl rfl rfl ?_
          refine y_goto 2 c84_64 rfl ?_
          exact ih (m 316 14 - (i + 1) : Int).toNat (by omega) (i + 1)  _ (by omega) (by omega) hTq4573 hF4576
set_option maxRecDepth 100000 in
theorem t84_316 {L : Nat} {xs : Nat → Int32} {d nn : Nat} {m : yM} {k : Int} (hT : Ty gT m) (hp : m 8 4 = 1) (hk : 0 ≤ k ∧ k ≤ 39) (h2 : 0 ≤ m (336 + k.toNat) 2) (h3 : 0 ≤ m (336 + k.toNat) 3) (h6 : m (336 + k.toNat) 6 ≤ 7) : YC (gZ L xs) (d + 2) 84 [.ref 8, .ref (336 + k.toNat)] m nn (qU (fun m' n' => n' = nn ∧ Ty gT m' ∧ Fr wFy m m')) := by
  refine YC.mkB [some (.ref 8), some (.ref (336 + k.toNat)), none] kn84 rfl rfl ?_
  refine y_iconst 1 c84_0 rfl ?_
  refine y_istore 2 c84_1 rfl rfl ?_
  have tb := hT.atp 316 14 0 12 rfl
  exact t84a_316 hT hp hk h2 h3 h6 (m 316 14 - 0).toNat 0 m (by omega) (by omega) hT Fr.rf
set_option maxRecDepth 100000 in
theorem t85a_316 {L : Nat} {xs : Nat → Int32} {d nn : Nat} {m : yM} {k : Int} (hT : Ty gT m) (hp : m 8 4 = 1) (hk : 0 ≤ k ∧ k ≤ 39) (h2 : 0 ≤ m (336 + k.toNat) 2) (h3 : 0 ≤ m (336 + k.toNat) 3) (h6 : m (336 + k.toNat) 6 ≤ 7) : ∀ (k : Nat) (i : Int) (mi : yM), m 316 14 - i = k → 0 ≤ i ∧ i ≤ m 316 14 → Ty gT mi → Fr wFy m mi → YW (gZ L xs) 85 (d + 2) 2 [some (.ref 8), some (.ref (336 + k.toNat)), some (yI i)] [] mi nn (qU (fun m' n' => n' = nn ∧ Ty gT m' ∧ Fr wFy m m')) := by
  intro k
  induction k using Nat.strongRecOn with
  | ind k ih =>
    intro i mi hk hi hTi hFi
    have tb := hT.atp 316 14 0 12 rfl
    refine y_iload 3 c85_2 rfl rfl ?_
    refine y_aload 4 c85_3 rfl rfl rfl ?_
    refine y_getS 7 (B := 316) c85_4 rfl kf8_4 (by rw [show mi 8 4 = 1 from by have e : mi 8 4 = m 8 4 := (hFi 8 4 rfl); omega]; rfl) ?_
    refine y_getX 10 (m 316 14) c85_7 rfl kf316_14 (hFi 316 14 rfl) ?_
    refine y_icmp 82 13 c85_10 rfl rfl (yc_ge (by omega) (by omega)) (fun hb4577 => ?_) (fun hb4577 => ?_)
    · exact y_retU c85_82 ⟨rfl, hTi, hFi⟩
    · refine y_aload 14 c85_13 rfl rfl rfl ?_
      refine y_aload 15 c85_14 rfl rfl rfl ?_
      refine y_getR 18 c85_15 rfl kf8_0 ?_
      refine y_aload 19 c85_18 rfl rfl rfl ?_
      refine y_getX 22 (m (336 + k.toNat) 2) c85_19 rfl (ff336_2 (by omega)) (hFi (336 + k.toNat) 2 (wFy_h (by omega))) ?_
      have tb4578 := hT.atp (336 + k.toNat) 2 ((-1)) 47 (ft336_2 (by omega))
      refine y_aaload 23 c85_22 rfl kr9 (by omega) ?_
      refine y_iload 24 c85_23 rfl rfl ?_
      refine y_iaT 25 ((-2147483648)) 2147483647 c85_24 rfl (fa10 (by omega)) (by omega) hTi (fz10 (by omega)) (fun v4579 hv4579 gv4579 => ?_)
      refine y_callP 28 [.ref 8, yI v4579] [] c85_25 rfl rfl rfl rfl rfl (ycanO km78 ko8) (t78 hTi (by omega)) (fun r4580 hr4580 => ?_)
      refine y_if 76 31 c85_28 rfl rfl (yz_eq (by omega)) (fun hb4581 => ?_) (fun hb4581 => ?_)
      · refine y_iinc 79 c85_76 rfl rfl rfl ?_
        refine y_goto 2 c85_79 rfl ?_
        exact ih (m 316 14 - (i + 1) : Int).toNat (by omega) (i + 1)  _ (by omega) (by omega) hTi hFi
      · refine y_aload 32 c85_31 rfl rfl rfl ?_
        refine y_getS 35 (B := 316) c85_32 rfl kf8_4 (by rw [show mi 8 4 = 1 from by have e : mi 8 4 = m 8 4 := (hFi 8 4 rfl); omega]; rfl) ?_
        refine y_aload 36 c85_35 rfl rfl rfl ?_
        refine y_getS 39 (B := 316) c85_36 rfl kf8_4 (by rw [show mi 8 4 = 1 from by have e : mi 8 4 = m 8 4 := (hFi 8 4 rfl); omega]; rfl) ?_
        refine y_getR 42 c85_39 rfl kf316_7 ?_
        refine y_iload 43 c85_42 rfl rfl ?_
        refine y_iaT 44 0 5 c85_43 rfl ka324 (by omega) hTi rfl (fun v4582 hv4582 gv4582 => ?_)
        refine y_aload 45 c85_44 rfl rfl rfl ?_
        refine y_getX 48 (m (336 + k.toNat) 6) c85_45 rfl (ff336_6 (by omega)) (hFi (336 + k.toNat) 6 (wFy_h (by omega))) ?_
        have tb4583 := hT.atp (336 + k.toNat) 6 ((-1)) 11 (ft336_6 (by omega))
        refine y_callP 51 [.ref 316, yI v4582, yI (m (336 + k.toNat) 6)] [] c85_48 rfl rfl rfl rfl rfl (ycanO km47 ko316) (t47_316 hTi (by omega) (by omega)) (fun r4584 hr4584 => ?_)
        refine y_if 76 54 c85_51 rfl rfl (yz_eq (by omega)) (fun hb4585 => ?_) (fun hb4585 => ?_)
        · refine y_iinc 79 c85_76 rfl rfl rfl ?_
          refine y_goto 2 c85_79 rfl ?_
          exact ih (m 316 14 - (i + 1) : Int).toNat (by omega) (i + 1)  _ (by omega) (by omega) hTi hFi
        · refine y_aload 55 c85_54 rfl rfl rfl ?_
          refine y_aload 56 c85_55 rfl rfl rfl ?_
          refine y_getR 59 c85_56 rfl kf8_0 ?_
          refine y_aload 60 c85_59 rfl rfl rfl ?_
          refine y_getX 63 (m (336 + k.toNat) 3) c85_60 rfl (ff336_3 (by omega)) (hFi (336 + k.toNat) 3 (wFy_h (by omega))) ?_
          have tb4586 := hT.atp (336 + k.toNat) 3 ((-1)) 47 (ft336_3 (by omega))
          refine y_aaload 64 c85_63 rfl kr9 (by omega) ?_
          refine y_aload 65 c85_64 rfl rfl rfl ?_
          refine y_iload 66 c85_65 rfl rfl ?_
          refine y_aload 67 c85_66 rfl rfl rfl ?_
          refine y_getX 70 (m (336 + k.toNat) 6) c85_67 rfl (ff336_6 (by omega)) (hFi (336 + k.toNat) 6 (wFy_h (by omega))) ?_
          refine y_callAB 73 [.ref 8, yI i, yI (m (336 + k.toNat) 6)] [.ref (10 + (m (336 + k.toNat) 3).toNat), .ref 8] c85_70 rfl rfl rfl rfl rfl (ycanO km83 ko8) (t83 (by omega) (by omega)) (fun Rq4587 mq4587 nq4587 hq4587 => ?_)
          obtain ⟨rfl, rfl, rfl⟩ := hq4587
          have es4589 : mi 8 4 = m 8 4 := (hFi 8 4 rfl)
          have tb4590 := hT.atp 8 4 ((-1)) 1 rfl
          refine y_callUB 76 [.ref 8, .ref (10 + (m (336 + k.toNat) 3).toNat), .ref (73 + (i * 8 + (m (336 + k.toNat) 6)).toNat)] [] c85_73 rfl rfl rfl rfl rfl (ycanO km80 ko8) (t80_316 hTi (by omega) (fa10 (by omega)) (fun _ => fz10 (by omega)) (fa73 (by omega)) (fun _ => fz73 (by omega)) (by omega)) (fun mq4588 nq4588 hq4588 => ?_)
          obtain ⟨rfl, hTq4588, hFq4588⟩ := hq4588
          have hF4591 := hFi.tr hFq4588 (wTe_wFy (by omega))
          refine y_iinc 79 c85_76 rfl rfl rfl ?_
          refine y_goto 2 c85_79 rfl ?_
          exact ih (m 316 14 - (i + 1) : Int).toNat (by omega) (i + 1)  _ (by omega) (by omega) hTq4588 hF4591
set_option maxRecDepth 100000 in
theorem t85_316 {L : Nat} {xs : Nat → Int32} {d nn : Nat} {m : yM} {k : Int} (hT : Ty gT m) (hp : m 8 4 = 1) (hk : 0 ≤ k ∧ k ≤ 39) (h2 : 0 ≤ m (336 + k.toNat) 2) (h3 : 0 ≤ m (336 + k.toNat) 3) (h6 : m (336 + k.toNat) 6 ≤ 7) : YC (gZ L xs) (d + 2) 85 [.ref 8, .ref (336 + k.toNat)] m nn (qU (fun m' n' => n' = nn ∧ Ty gT m' ∧ Fr wFy m m')) := by
  refine YC.mkB [some (.ref 8), some (.ref (336 + k.toNat)), none] kn85 rfl rfl ?_
  refine y_iconst 1 c85_0 rfl ?_
  refine y_istore 2 c85_1 rfl rfl ?_
  have tb := hT.atp 316 14 0 12 rfl
  exact t85a_316 hT hp hk h2 h3 h6 (m 316 14 - 0).toNat 0 m (by omega) (by omega) hT Fr.rf
set_option maxRecDepth 100000 in
theorem t86a_316 {L : Nat} {xs : Nat → Int32} {d nn : Nat} {m : yM} {k : Int} (hT : Ty gT m) (hp : m 8 4 = 1) (hk : 0 ≤ k ∧ k ≤ 39) (h3 : 0 ≤ m (336 + k.toNat) 3) (h6 : 0 ≤ m (336 + k.toNat) 6) (hn : ∀ k : Nat, (k : Int) < m 316 16 → m (336 + k) 6 ≤ 11) (hin : ∀ k' : Nat, (k' : Int) < m 316 16 → m (336 + k') 0 = 4 → m (336 + k') 6 = m (336 + k.toNat) 6 → k' = k.toNat) (h0 : ∀ k' : Nat, (k' : Int) < m 316 16 → m (336 + k') 0 = 4 → 0 ≤ m (336 + k') 6) (hG : GO 316 326 336 m) : ∀ (k : Nat) (i : Int) (x3 : Option Value) (mi : yM), m 316 14 - i = k → 0 ≤ i ∧ i ≤ m 316 14 → Ty gT mi → Fr wFx m mi → GO 316 326 336 mi → YW (gZ L xs) 86 (d + 2) 2 [some (.ref 8), some (.ref (336 + k.toNat)), some (yI i), x3] [] mi nn (qU (fun m' n' => n' = nn ∧ Ty gT m' ∧ Fr wFx m m' ∧ GO 316 326 336 m')) := by
  intro k
  induction k using Nat.strongRecOn with
  | ind k ih =>
    intro i x3 mi hk hi hTi hFi hGo
    have tb := hT.atp 316 14 0 12 rfl
    have hni : ∀ j : Nat, (j : Int) < mi 316 16 → mi (336 + j) 6 ≤ 11 := fun j hj => by rw [hFi 316 16 rfl] at hj; rw [hFi _ 6 (wFx_h (by omega))]; exact hn j hj
    have hini : ∀ j : Nat, (j : Int) < mi 316 16 → mi (336 + j) 0 = 4 → mi (336 + j) 6 = mi (336 + k.toNat) 6 → j = k.toNat := fun j hj => by rw [hFi 316 16 rfl] at hj; rw [hFi _ 0 (wFx_h (by omega)), hFi _ 6 (wFx_h (by omega)), hFi _ 6 (wFx_h (by omega))]; exact hin j hj
    have h0i : ∀ j : Nat, (j : Int) < mi 316 16 → mi (336 + j) 0 = 4 → 0 ≤ mi (336 + j) 6 := fun j hj => by rw [hFi 316 16 rfl] at hj; rw [hFi _ 0 (wFx_h (by omega)), hFi _ 6 (wFx_h (by omega))]; exact h0 j hj
    refine y_iload 3 c86_2 rfl rfl ?_
    refine y_aload 4 c86_3 rfl rfl rfl ?_
    refine y_getS 7 (B := 316) c86_4 rfl kf8_4 (by rw [show mi 8 4 = 1 from by have e : mi 8 4 = m 8 4 := (hFi 8 4 rfl); omega]; rfl) ?_
    refine y_getX 10 (m 316 14) c86_7 rfl kf316_14 (hFi 316 14 rfl) ?_
    refine y_icmp 112 13 c86_10 rfl rfl (yc_ge (by omega) (by omega)) (fun hb4592 => ?_) (fun hb4592 => ?_)
    · exact y_retU c86_112 ⟨rfl, hTi, hFi, hGo⟩
    · refine y_aload 14 c86_13 rfl rfl rfl ?_
      refine y_aload 15 c86_14 rfl rfl rfl ?_
      refine y_getR 18 c86_15 rfl kf8_0 ?_
      refine y_aload 19 c86_18 rfl rfl rfl ?_
      refine y_getX 22 (m (336 + k.toNat) 3) c86_19 rfl (ff336_3 (by omega)) (hFi (336 + k.toNat) 3 (wFx_h (by omega))) ?_
      have tb4593 := hT.atp (336 + k.toNat) 3 ((-1)) 47 (ft336_3 (by omega))
      refine y_aaload 23 c86_22 rfl kr9 (by omega) ?_
      refine y_iload 24 c86_23 rfl rfl ?_
      refine y_iaT 25 ((-2147483648)) 2147483647 c86_24 rfl (fa10 (by omega)) (by omega) hTi (fz10 (by omega)) (fun v4594 hv4594 gv4594 => ?_)
      refine y_callP 28 [.ref 8, yI v4594] [] c86_25 rfl rfl rfl rfl rfl (ycanO km78 ko8) (t78 hTi (by omega)) (fun r4595 hr4595 => ?_)
      refine y_if 106 31 c86_28 rfl rfl (yz_eq (by omega)) (fun hb4596 => ?_) (fun hb4596 => ?_)
      · refine y_iinc 109 c86_106 rfl rfl rfl ?_
        refine y_goto 2 c86_109 rfl ?_
        exact ih (m 316 14 - (i + 1) : Int).toNat (by omega) (i + 1) _  _ (by omega) (by omega) hTi hFi hGo
      · refine y_aload 32 c86_31 rfl rfl rfl ?_
        refine y_getS 35 (B := 316) c86_32 rfl kf8_4 (by rw [show mi 8 4 = 1 from by have e : mi 8 4 = m 8 4 := (hFi 8 4 rfl); omega]; rfl) ?_
        refine y_aload 36 c86_35 rfl rfl rfl ?_
        refine y_getS 39 (B := 316) c86_36 rfl kf8_4 (by rw [show mi 8 4 = 1 from by have e : mi 8 4 = m 8 4 := (hFi 8 4 rfl); omega]; rfl) ?_
        refine y_getR 42 c86_39 rfl kf316_7 ?_
        refine y_iload 43 c86_42 rfl rfl ?_
        refine y_iaT 44 0 5 c86_43 rfl ka324 (by omega) hTi rfl (fun v4597 hv4597 gv4597 => ?_)
        refine y_aload 45 c86_44 rfl rfl rfl ?_
        refine y_getX 48 (m (336 + k.toNat) 4) c86_45 rfl (ff336_4 (by omega)) (hFi (336 + k.toNat) 4 (wFx_h (by omega))) ?_
        have tb4598 := hT.atp (336 + k.toNat) 4 ((-2147483648)) 2147483647 (ft336_4 (by omega))
        refine y_aload 49 c86_48 rfl rfl rfl ?_
        refine y_getX 52 (m (336 + k.toNat) 8) c86_49 rfl (ff336_8 (by omega)) (hFi (336 + k.toNat) 8 (wFx_h (by omega))) ?_
        have tb4599 := hT.atp (336 + k.toNat) 8 0 2 (ft336_8 (by omega))
        have es4601 : mi 316 10 = m 316 10 := (hFi 316 10 rfl)
        have tb4602 := hT.atp 316 10 0 10 rfl
        refine y_callP 55 [.ref 316, yI v4597, yI (m (336 + k.toNat) 4), yI (m (336 + k.toNat) 8)] [] c86_52 rfl rfl rfl rfl rfl (ycanO km72 ko316) (t72_316 hTi (by omega) (by omega) (by omega)) (fun r4600 hr4600 => ?_)
        refine y_istore 56 c86_55 rfl rfl ?_
        refine y_iload 57 c86_56 rfl rfl ?_
        refine y_iconst 58 c86_57 rfl ?_
        refine y_icmp 106 61 c86_58 rfl rfl (yc_eq (by omega) (by omega)) (fun hb4603 => ?_) (fun hb4603 => ?_)
        · refine y_iinc 109 c86_106 rfl rfl rfl ?_
          refine y_goto 2 c86_109 rfl ?_
          exact ih (m 316 14 - (i + 1) : Int).toNat (by omega) (i + 1) _  _ (by omega) (by omega) hTi hFi hGo
        · refine y_aload 62 c86_61 rfl rfl rfl ?_
          refine y_aload 63 c86_62 rfl rfl rfl ?_
          refine y_getR 66 c86_63 rfl kf8_1 ?_
          refine y_aload 67 c86_66 rfl rfl rfl ?_
          refine y_getX 70 (m (336 + k.toNat) 6) c86_67 rfl (ff336_6 (by omega)) (hFi (336 + k.toNat) 6 (wFx_h (by omega))) ?_
          have tb4604 := hT.atp (336 + k.toNat) 6 ((-1)) 11 (ft336_6 (by omega))
          refine y_aaload 71 c86_70 rfl kr58 (by omega) ?_
          refine y_iload 72 c86_71 rfl rfl ?_
          refine y_callUB 75 [.ref 8, .ref (59 + (m (336 + k.toNat) 6).toNat), yI r4600] [] c86_72 rfl rfl rfl rfl rfl (ycanO km79 ko8) (t79 hTi (fa59 (by omega)) (fun _ => fz59 (by omega)) (by omega) (by omega)) (fun mq4605 nq4605 hq4605 => ?_)
          obtain ⟨rfl, hTq4605, hFq4605, hq4605⟩ := hq4605
          have hF4606 := hFi.tr hFq4605 (wTe_wFx (by omega))
          refine y_aload 76 c86_75 rfl rfl rfl ?_
          refine y_aload 77 c86_76 rfl rfl rfl ?_
          refine y_getR 80 c86_77 rfl kf8_2 ?_
          refine y_iload 81 c86_80 rfl rfl ?_
          refine y_callUB 84 [.ref 8, .ref 71, yI r4600] [] c86_81 rfl rfl rfl rfl rfl (ycanO km79 ko8) (t79 hTq4605 ka71 (fun _ => rfl) (by omega) (by omega)) (fun mq4607 nq4607 hq4607 => ?_)
          obtain ⟨rfl, hTq4607, hFq4607, hq4607⟩ := hq4607
          have hF4608 := hF4606.tr hFq4607 (wTe_wFx (by omega))
          refine y_aload 85 c86_84 rfl rfl rfl ?_
          refine y_aload 86 c86_85 rfl rfl rfl ?_
          refine y_getR 89 c86_86 rfl kf8_0 ?_
          refine y_aload 90 c86_89 rfl rfl rfl ?_
          refine y_getS 93 (B := 316) c86_90 rfl kf8_4 (by rw [show mq4607 8 4 = 1 from by have e : mq4607 8 4 = m 8 4 := ((hFq4607 8 4 (wTe_n (by omega) (by decide))).trans ((hFq4605 8 4 (wTe_n (by omega) (by decide))).trans (hFi 8 4 rfl))); omega]; rfl) ?_
          refine y_getR 96 c86_93 rfl kf316_5 ?_
          refine y_iload 97 c86_96 rfl rfl ?_
          refine y_aaload 98 c86_97 rfl kr322 (by omega) ?_
          refine y_callP 101 [.ref (326 + r4600.toNat)] [.ref 9, .ref 8] c86_98 rfl rfl rfl rfl rfl (ycanO km57 (fo326 (by omega))) (t57_316 hTq4607 (by omega)) (fun r4609 hr4609 => ?_)
          refine y_aaload 102 c86_101 rfl kr9 (by omega) ?_
          refine y_iload 103 c86_102 rfl rfl ?_
          refine y_callUB 106 [.ref 8, .ref (10 + r4609.toNat), yI i] [] c86_103 rfl rfl rfl rfl rfl (ycanO km79 ko8) (t79 hTq4607 (fa10 (by omega)) (fun _ => fz10 (by omega)) (by omega) (by omega)) (fun mq4610 nq4610 hq4610 => ?_)
          obtain ⟨rfl, hTq4610, hFq4610, hq4610⟩ := hq4610
          have hF4611 := hF4608.tr hFq4610 (wTe_wFx (by omega))
          refine y_iinc 109 c86_106 rfl rfl rfl ?_
          refine y_goto 2 c86_109 rfl ?_
          exact ih (m 316 14 - (i + 1) : Int).toNat (by omega) (i + 1) _  _ (by omega) (by omega) hTq4610 hF4611 ((hGo.tell (k := k.toNat) (j := r4600) (by omega) hni hini h0i (by have := hFi (336 + k.toNat) 6 (wFx_h (by omega)); omega) (by have := hTi.atp (336 + k.toNat) 6 (-1) 11 (ft336_6 (by omega)); omega) hFq4605 (by rw [hFi (336 + k.toNat) 6 (wFx_h (by omega))]) hq4605 (by have e1 := hr4600.2.2 (by omega); have e2 := hFi (336 + k.toNat) 8 (wFx_h (by omega)); omega)).fr (by omega) (fun j hj => by rw [hFq4605 316 16 (wTe_n (by omega) (by decide))] at hj; rw [hFq4605 (336 + j) 6 (wTe_n (by omega) (by omega))]; exact hni j hj) ((Fr.rf.tr hFq4607 (wTe_wFy (by omega))).tr hFq4610 (wTe_wFy (by omega))))
set_option maxRecDepth 100000 in
theorem t86_316 {L : Nat} {xs : Nat → Int32} {d nn : Nat} {m : yM} {k : Int} (hT : Ty gT m) (hp : m 8 4 = 1) (hk : 0 ≤ k ∧ k ≤ 39) (h3 : 0 ≤ m (336 + k.toNat) 3) (h6 : 0 ≤ m (336 + k.toNat) 6) (hn : ∀ k : Nat, (k : Int) < m 316 16 → m (336 + k) 6 ≤ 11) (hin : ∀ k' : Nat, (k' : Int) < m 316 16 → m (336 + k') 0 = 4 → m (336 + k') 6 = m (336 + k.toNat) 6 → k' = k.toNat) (h0 : ∀ k' : Nat, (k' : Int) < m 316 16 → m (336 + k') 0 = 4 → 0 ≤ m (336 + k') 6) (hG : GO 316 326 336 m) : YC (gZ L xs) (d + 2) 86 [.ref 8, .ref (336 + k.toNat)] m nn (qU (fun m' n' => n' = nn ∧ Ty gT m' ∧ Fr wFx m m' ∧ GO 316 326 336 m')) := by
  refine YC.mkB [some (.ref 8), some (.ref (336 + k.toNat)), none, none] kn86 rfl rfl ?_
  refine y_iconst 1 c86_0 rfl ?_
  refine y_istore 2 c86_1 rfl rfl ?_
  have tb := hT.atp 316 14 0 12 rfl
  exact t86a_316 hT hp hk h3 h6 hn k hin h0 hG (m 316 14 - 0).toNat 0 none m (by omega) (by omega) hT Fr.rf hG
set_option maxRecDepth 100000 in
theorem t88_316 {L : Nat} {xs : Nat → Int32} {d nn : Nat} {m : yM} {k j : Int} (hT : Ty gT m) (hp : m 8 4 = 1) (hk : 0 ≤ k ∧ k ≤ 39) (hj : 0 ≤ j ∧ j ≤ 9) (hM : MP 326 m) (h8 : m (326 + j.toNat) 3 = m (336 + k.toNat) 8) (h9 : 1 ≤ m (336 + k.toNat) 8 → 0 ≤ m (336 + k.toNat) 9) (h10 : 2 ≤ m (336 + k.toNat) 8 → 0 ≤ m (336 + k.toNat) 10) : YC (gZ L xs) (d + 2) 88 [.ref 8, .ref (336 + k.toNat), .ref (326 + j.toNat)] m nn (qU (fun m' n' => n' = nn ∧ Ty gT m' ∧ Fr wFy m m')) := by
  refine YC.mkB [some (.ref 8), some (.ref (336 + k.toNat)), some (.ref (326 + j.toNat))] kn88 rfl rfl ?_
  have hF : Fr wFy m m := Fr.rf
  refine y_aload 1 c88_0 rfl rfl rfl ?_
  refine y_getX 4 (m (336 + k.toNat) 8) c88_1 rfl (ff336_8 (by omega)) rfl ?_
  have tb4612 := hT.atp (336 + k.toNat) 8 0 2 (ft336_8 (by omega))
  refine y_if 30 7 c88_4 rfl rfl (yz_le (by omega)) (fun hb4613 => ?_) (fun hb4613 => ?_)
  · refine y_aload 31 c88_30 rfl rfl rfl ?_
    refine y_getX 34 (m (336 + k.toNat) 8) c88_31 rfl (ff336_8 (by omega)) rfl ?_
    refine y_iconst 35 c88_34 rfl ?_
    refine y_icmp 61 38 c88_35 rfl rfl (yc_le (by omega) (by omega)) (fun hb4614 => ?_) (fun hb4614 => ?_)
    · refine y_aload 62 c88_61 rfl rfl rfl ?_
      refine y_getX 65 (m (336 + k.toNat) 2) c88_62 rfl (ff336_2 (by omega)) rfl ?_
      have tb4615 := hT.atp (336 + k.toNat) 2 ((-1)) 47 (ft336_2 (by omega))
      refine y_iconst 66 c88_65 rfl ?_
      refine y_icmp 91 69 c88_66 rfl rfl (yc_eq (by omega) (by omega)) (fun hb4616 => ?_) (fun hb4616 => ?_)
      · exact y_retU c88_91 ⟨rfl, hT, hF⟩
      · refine y_aload 70 c88_69 rfl rfl rfl ?_
        refine y_aload 71 c88_70 rfl rfl rfl ?_
        refine y_getR 74 c88_71 rfl kf8_0 ?_
        refine y_aload 75 c88_74 rfl rfl rfl ?_
        refine y_getX 78 (m (326 + j.toNat) 2) c88_75 rfl (ff326_2 (by omega)) rfl ?_
        have tb4617 := hT.atp (326 + j.toNat) 2 0 46 (ft326_2 (by omega))
        refine y_aaload 79 c88_78 rfl kr9 (by omega) ?_
        refine y_aload 80 c88_79 rfl rfl rfl ?_
        refine y_getR 83 c88_80 rfl kf8_0 ?_
        refine y_aload 84 c88_83 rfl rfl rfl ?_
        refine y_getX 87 (m (336 + k.toNat) 2) c88_84 rfl (ff336_2 (by omega)) rfl ?_
        refine y_aaload 88 c88_87 rfl kr9 (by omega) ?_
        have tb4619 := hT.atp 8 4 ((-1)) 1 rfl
        refine y_callUB 91 [.ref 8, .ref (10 + (m (326 + j.toNat) 2).toNat), .ref (10 + (m (336 + k.toNat) 2).toNat)] [] c88_88 rfl rfl rfl rfl rfl (ycanO km80 ko8) (t80_316 hT (by omega) (fa10 (by omega)) (fun _ => fz10 (by omega)) (fa10 (by omega)) (fun _ => fz10 (by omega)) (by omega)) (fun mq4618 nq4618 hq4618 => ?_)
        obtain ⟨rfl, hTq4618, hFq4618⟩ := hq4618
        have hF4620 := hF.tr hFq4618 (wTe_wFy (by omega))
        exact y_retU c88_91 ⟨rfl, hTq4618, hF4620⟩
    · exfalso; omega
  · refine y_aload 8 c88_7 rfl rfl rfl ?_
    refine y_aload 9 c88_8 rfl rfl rfl ?_
    refine y_getR 12 c88_9 rfl kf8_0 ?_
    refine y_aload 13 c88_12 rfl rfl rfl ?_
    refine y_getX 16 (m (336 + k.toNat) 9) c88_13 rfl (ff336_9 (by omega)) rfl ?_
    have tb4621 := hT.atp (336 + k.toNat) 9 ((-1)) 47 (ft336_9 (by omega))
    refine y_aaload 17 c88_16 rfl kr9 (by omega) ?_
    refine y_aload 18 c88_17 rfl rfl rfl ?_
    refine y_getR 21 c88_18 rfl kf8_0 ?_
    refine y_aload 22 c88_21 rfl rfl rfl ?_
    refine y_iconst 23 c88_22 rfl ?_
    have tb4623 := hT.atp (326 + j.toNat) 3 0 2 (ft326_3 (by omega))
    refine y_callP 26 [.ref (326 + j.toNat), yI 0] [.ref 9, .ref (10 + (m (336 + k.toNat) 9).toNat), .ref 8] c88_23 rfl rfl rfl rfl rfl (ycanO km87 (fo326 (by omega))) (t87_316 hT (by omega) (by omega) hM) (fun r4622 hr4622 => ?_)
    refine y_aaload 27 c88_26 rfl kr9 (by omega) ?_
    have tb4625 := hT.atp 8 4 ((-1)) 1 rfl
    refine y_callUB 30 [.ref 8, .ref (10 + (m (336 + k.toNat) 9).toNat), .ref (10 + r4622.toNat)] [] c88_27 rfl rfl rfl rfl rfl (ycanO km80 ko8) (t80_316 hT (by omega) (fa10 (by omega)) (fun _ => fz10 (by omega)) (fa10 (by omega)) (fun _ => fz10 (by omega)) (by omega)) (fun mq4624 nq4624 hq4624 => ?_)
    obtain ⟨rfl, hTq4624, hFq4624⟩ := hq4624
    have hF4626 := hF.tr hFq4624 (wTe_wFy (by omega))
    refine y_aload 31 c88_30 rfl rfl rfl ?_
    refine y_getX 34 (m (336 + k.toNat) 8) c88_31 rfl (ff336_8 (by omega)) (hFq4624 (336 + k.toNat) 8 (wTe_n (by omega) (by omega))) ?_
    refine y_iconst 35 c88_34 rfl ?_
    refine y_icmp 61 38 c88_35 rfl rfl (yc_le (by omega) (by omega)) (fun hb4627 => ?_) (fun hb4627 => ?_)
    · refine y_aload 62 c88_61 rfl rfl rfl ?_
      refine y_getX 65 (m (336 + k.toNat) 2) c88_62 rfl (ff336_2 (by omega)) (hFq4624 (336 + k.toNat) 2 (wTe_n (by omega) (by omega))) ?_
      have tb4628 := hT.atp (336 + k.toNat) 2 ((-1)) 47 (ft336_2 (by omega))
      refine y_iconst 66 c88_65 rfl ?_
      refine y_icmp 91 69 c88_66 rfl rfl (yc_eq (by omega) (by omega)) (fun hb4629 => ?_) (fun hb4629 => ?_)
      · exact y_retU c88_91 ⟨rfl, hTq4624, hF4626⟩
      · refine y_aload 70 c88_69 rfl rfl rfl ?_
        refine y_aload 71 c88_70 rfl rfl rfl ?_
        refine y_getR 74 c88_71 rfl kf8_0 ?_
        refine y_aload 75 c88_74 rfl rfl rfl ?_
        refine y_getX 78 (m (326 + j.toNat) 2) c88_75 rfl (ff326_2 (by omega)) (hFq4624 (326 + j.toNat) 2 (wTe_n (by omega) (by omega))) ?_
        have tb4630 := hT.atp (326 + j.toNat) 2 0 46 (ft326_2 (by omega))
        refine y_aaload 79 c88_78 rfl kr9 (by omega) ?_
        refine y_aload 80 c88_79 rfl rfl rfl ?_
        refine y_getR 83 c88_80 rfl kf8_0 ?_
        refine y_aload 84 c88_83 rfl rfl rfl ?_
        refine y_getX 87 (m (336 + k.toNat) 2) c88_84 rfl (ff336_2 (by omega)) (hFq4624 (336 + k.toNat) 2 (wTe_n (by omega) (by omega))) ?_
        refine y_aaload 88 c88_87 rfl kr9 (by omega) ?_
        have es4632 : mq4624 8 4 = m 8 4 := (hFq4624 8 4 (wTe_n (by omega) (by decide)))
        refine y_callUB 91 [.ref 8, .ref (10 + (m (326 + j.toNat) 2).toNat), .ref (10 + (m (336 + k.toNat) 2).toNat)] [] c88_88 rfl rfl rfl rfl rfl (ycanO km80 ko8) (t80_316 hTq4624 (by omega) (fa10 (by omega)) (fun _ => fz10 (by omega)) (fa10 (by omega)) (fun _ => fz10 (by omega)) (by omega)) (fun mq4631 nq4631 hq4631 => ?_)
        obtain ⟨rfl, hTq4631, hFq4631⟩ := hq4631
        have hF4633 := hF4626.tr hFq4631 (wTe_wFy (by omega))
        exact y_retU c88_91 ⟨rfl, hTq4631, hF4633⟩
    · refine y_aload 39 c88_38 rfl rfl rfl ?_
      refine y_aload 40 c88_39 rfl rfl rfl ?_
      refine y_getR 43 c88_40 rfl kf8_0 ?_
      refine y_aload 44 c88_43 rfl rfl rfl ?_
      refine y_getX 47 (m (336 + k.toNat) 10) c88_44 rfl (ff336_10 (by omega)) (hFq4624 (336 + k.toNat) 10 (wTe_n (by omega) (by omega))) ?_
      have tb4634 := hT.atp (336 + k.toNat) 10 ((-1)) 47 (ft336_10 (by omega))
      refine y_aaload 48 c88_47 rfl kr9 (by omega) ?_
      refine y_aload 49 c88_48 rfl rfl rfl ?_
      refine y_getR 52 c88_49 rfl kf8_0 ?_
      refine y_aload 53 c88_52 rfl rfl rfl ?_
      refine y_iconst 54 c88_53 rfl ?_
      have es4636 : mq4624 (326 + j.toNat) 3 = m (326 + j.toNat) 3 := (hFq4624 (326 + j.toNat) 3 (wTe_n (by omega) (by omega)))
      refine y_callP 57 [.ref (326 + j.toNat), yI 1] [.ref 9, .ref (10 + (m (336 + k.toNat) 10).toNat), .ref 8] c88_54 rfl rfl rfl rfl rfl (ycanO km87 (fo326 (by omega))) (t87_316 hTq4624 (by omega) (by omega) (hM.fr (fun k hk => hFq4624 _ _ (wTe_n (by omega) (by omega))) (fun k hk => hFq4624 _ _ (wTe_n (by omega) (by omega))))) (fun r4635 hr4635 => ?_)
      refine y_aaload 58 c88_57 rfl kr9 (by omega) ?_
      have es4638 : mq4624 8 4 = m 8 4 := (hFq4624 8 4 (wTe_n (by omega) (by decide)))
      refine y_callUB 61 [.ref 8, .ref (10 + (m (336 + k.toNat) 10).toNat), .ref (10 + r4635.toNat)] [] c88_58 rfl rfl rfl rfl rfl (ycanO km80 ko8) (t80_316 hTq4624 (by omega) (fa10 (by omega)) (fun _ => fz10 (by omega)) (fa10 (by omega)) (fun _ => fz10 (by omega)) (by omega)) (fun mq4637 nq4637 hq4637 => ?_)
      obtain ⟨rfl, hTq4637, hFq4637⟩ := hq4637
      have hF4639 := hF4626.tr hFq4637 (wTe_wFy (by omega))
      refine y_aload 62 c88_61 rfl rfl rfl ?_
      refine y_getX 65 (m (336 + k.toNat) 2) c88_62 rfl (ff336_2 (by omega)) ((hFq4637 (336 + k.toNat) 2 (wTe_n (by omega) (by omega))).trans (hFq4624 (336 + k.toNat) 2 (wTe_n (by omega) (by omega)))) ?_
      have tb4640 := hT.atp (336 + k.toNat) 2 ((-1)) 47 (ft336_2 (by omega))
      refine y_iconst 66 c88_65 rfl ?_
      refine y_icmp 91 69 c88_66 rfl rfl (yc_eq (by omega) (by omega)) (fun hb4641 => ?_) (fun hb4641 => ?_)
      · exact y_retU c88_91 ⟨rfl, hTq4637, hF4639⟩
      · refine y_aload 70 c88_69 rfl rfl rfl ?_
        refine y_aload 71 c88_70 rfl rfl rfl ?_
        refine y_getR 74 c88_71 rfl kf8_0 ?_
        refine y_aload 75 c88_74 rfl rfl rfl ?_
        refine y_getX 78 (m (326 + j.toNat) 2) c88_75 rfl (ff326_2 (by omega)) ((hFq4637 (326 + j.toNat) 2 (wTe_n (by omega) (by omega))).trans (hFq4624 (326 + j.toNat) 2 (wTe_n (by omega) (by omega)))) ?_
        have tb4642 := hT.atp (326 + j.toNat) 2 0 46 (ft326_2 (by omega))
        refine y_aaload 79 c88_78 rfl kr9 (by omega) ?_
        refine y_aload 80 c88_79 rfl rfl rfl ?_
        refine y_getR 83 c88_80 rfl kf8_0 ?_
        refine y_aload 84 c88_83 rfl rfl rfl ?_
        refine y_getX 87 (m (336 + k.toNat) 2) c88_84 rfl (ff336_2 (by omega)) ((hFq4637 (336 + k.toNat) 2 (wTe_n (by omega) (by omega))).trans (hFq4624 (336 + k.toNat) 2 (wTe_n (by omega) (by omega)))) ?_
        refine y_aaload 88 c88_87 rfl kr9 (by omega) ?_
        have es4644 : mq4637 8 4 = m 8 4 := ((hFq4637 8 4 (wTe_n (by omega) (by decide))).trans (hFq4624 8 4 (wTe_n (by omega) (by decide))))
        refine y_callUB 91 [.ref 8, .ref (10 + (m (326 + j.toNat) 2).toNat), .ref (10 + (m (336 + k.toNat) 2).toNat)] [] c88_88 rfl rfl rfl rfl rfl (ycanO km80 ko8) (t80_316 hTq4637 (by omega) (fa10 (by omega)) (fun _ => fz10 (by omega)) (fa10 (by omega)) (fun _ => fz10 (by omega)) (by omega)) (fun mq4643 nq4643 hq4643 => ?_)
        obtain ⟨rfl, hTq4643, hFq4643⟩ := hq4643
        have hF4645 := hF4639.tr hFq4643 (wTe_wFy (by omega))
        exact y_retU c88_91 ⟨rfl, hTq4643, hF4645⟩
set_option maxRecDepth 100000 in
theorem t89a_316 {L : Nat} {xs : Nat → Int32} {d nn : Nat} {m : yM} {k : Int} (hT : Ty gT m) (hp : m 8 4 = 1) (hk : 0 ≤ k ∧ k ≤ 39) (hkc : k < m 316 16) (h4 : m (336 + k.toNat) 0 = 4) (h6 : 0 ≤ m (336 + k.toNat) 6) (hM : MP 326 m) (h9 : 1 ≤ m (336 + k.toNat) 8 → 0 ≤ m (336 + k.toNat) 9) (h10 : 2 ≤ m (336 + k.toNat) 8 → 0 ≤ m (336 + k.toNat) 10) (hG : GO 316 326 336 m) : ∀ (k : Nat) (i : Int) (mi : yM), m 316 10 - i = k → 0 ≤ i ∧ i ≤ m 316 10 → Ty gT mi → Fr wFy m mi → YW (gZ L xs) 89 (d + 3) 2 [some (.ref 8), some (.ref (336 + k.toNat)), some (yI i)] [] mi nn (qU (fun m' n' => n' = nn ∧ Ty gT m' ∧ Fr wFy m m')) := by
  intro k
  induction k using Nat.strongRecOn with
  | ind k ih =>
    intro i mi hk hi hTi hFi
    have tb := hT.atp 316 10 0 10 rfl
    refine y_iload 3 c89_2 rfl rfl ?_
    refine y_aload 4 c89_3 rfl rfl rfl ?_
    refine y_getS 7 (B := 316) c89_4 rfl kf8_4 (by rw [show mi 8 4 = 1 from by have e : mi 8 4 = m 8 4 := (hFi 8 4 rfl); omega]; rfl) ?_
    refine y_getX 10 (m 316 10) c89_7 rfl kf316_10 (hFi 316 10 rfl) ?_
    refine y_icmp 51 13 c89_10 rfl rfl (yc_ge (by omega) (by omega)) (fun hb4646 => ?_) (fun hb4646 => ?_)
    · exact y_retU c89_51 ⟨rfl, hTi, hFi⟩
    · refine y_aload 14 c89_13 rfl rfl rfl ?_
      refine y_aload 15 c89_14 rfl rfl rfl ?_
      refine y_getR 18 c89_15 rfl kf8_1 ?_
      refine y_aload 19 c89_18 rfl rfl rfl ?_
      refine y_getX 22 (m (336 + k.toNat) 6) c89_19 rfl (ff336_6 (by omega)) (hFi (336 + k.toNat) 6 (wFy_h (by omega))) ?_
      have tb4647 := hT.atp (336 + k.toNat) 6 ((-1)) 11 (ft336_6 (by omega))
      refine y_aaload 23 c89_22 rfl kr58 (by omega) ?_
      refine y_iload 24 c89_23 rfl rfl ?_
      refine y_iaT 25 ((-2147483648)) 2147483647 c89_24 rfl (fa59 (by omega)) (by omega) hTi (fz59 (by omega)) (fun v4648 hv4648 gv4648 => ?_)
      refine y_callP 28 [.ref 8, yI v4648] [] c89_25 rfl rfl rfl rfl rfl (ycanO km78 ko8) (t78 hTi (by omega)) (fun r4649 hr4649 => ?_)
      refine y_if 45 31 c89_28 rfl rfl (yz_eq (by omega)) (fun hb4650 => ?_) (fun hb4650 => ?_)
      · refine y_iinc 48 c89_45 rfl rfl rfl ?_
        refine y_goto 2 c89_48 rfl ?_
        exact ih (m 316 10 - (i + 1) : Int).toNat (by omega) (i + 1)  _ (by omega) (by omega) hTi hFi
      · refine y_aload 32 c89_31 rfl rfl rfl ?_
        refine y_aload 33 c89_32 rfl rfl rfl ?_
        refine y_aload 34 c89_33 rfl rfl rfl ?_
        refine y_getS 37 (B := 316) c89_34 rfl kf8_4 (by rw [show mi 8 4 = 1 from by have e : mi 8 4 = m 8 4 := (hFi 8 4 rfl); omega]; rfl) ?_
        refine y_getR 40 c89_37 rfl kf316_5 ?_
        refine y_iload 41 c89_40 rfl rfl ?_
        refine y_aaload 42 c89_41 rfl kr322 (by omega) ?_
        have es4652 : mi 8 4 = m 8 4 := (hFi 8 4 rfl)
        have tb4653 := hT.atp 8 4 ((-1)) 1 rfl
        have es4654 : mi (336 + k.toNat) 8 = m (336 + k.toNat) 8 := (hFi (336 + k.toNat) 8 (wFy_h (by omega)))
        have tb4655 := hT.atp (336 + k.toNat) 8 0 2 (ft336_8 (by omega))
        have es4656 : mi (336 + k.toNat) 9 = m (336 + k.toNat) 9 := (hFi (336 + k.toNat) 9 (wFy_h (by omega)))
        have tb4657 := hT.atp (336 + k.toNat) 9 ((-1)) 47 (ft336_9 (by omega))
        have es4658 : mi (336 + k.toNat) 10 = m (336 + k.toNat) 10 := (hFi (336 + k.toNat) 10 (wFy_h (by omega)))
        have tb4659 := hT.atp (336 + k.toNat) 10 ((-1)) 47 (ft336_10 (by omega))
        have es4660 : mi (326 + i.toNat) 3 = m (326 + i.toNat) 3 := (hFi (326 + i.toNat) 3 (wFy_h (by omega)))
        have tb4661 := hT.atp (326 + i.toNat) 3 0 2 (ft326_3 (by omega))
        have hg3 := hG k.toNat (by omega) h4 i.toNat (by omega) (by rw [hFi _ _ (wFy_g (by omega))] at hv4648; omega)
        refine y_callUB 45 [.ref 8, .ref (336 + k.toNat), .ref (326 + i.toNat)] [] c89_42 rfl rfl rfl rfl rfl (ycanO km88 ko8) (t88_316 (k := k) (j := i) hTi (by omega) (by omega) (by omega) (hM.fr (fun k hk => hFi _ _ (wFy_h (by omega))) (fun k hk => hFi _ _ (wFy_h (by omega)))) (by omega) (by omega) (by omega)) (fun mq4651 nq4651 hq4651 => ?_)
        obtain ⟨rfl, hTq4651, hFq4651⟩ := hq4651
        have hF4662 := hFi.tr hFq4651 (fun _ _ e => e)
        refine y_iinc 48 c89_45 rfl rfl rfl ?_
        refine y_goto 2 c89_48 rfl ?_
        exact ih (m 316 10 - (i + 1) : Int).toNat (by omega) (i + 1)  _ (by omega) (by omega) hTq4651 hF4662
set_option maxRecDepth 100000 in
theorem t89_316 {L : Nat} {xs : Nat → Int32} {d nn : Nat} {m : yM} {k : Int} (hT : Ty gT m) (hp : m 8 4 = 1) (hk : 0 ≤ k ∧ k ≤ 39) (hkc : k < m 316 16) (h4 : m (336 + k.toNat) 0 = 4) (h6 : 0 ≤ m (336 + k.toNat) 6) (hM : MP 326 m) (h9 : 1 ≤ m (336 + k.toNat) 8 → 0 ≤ m (336 + k.toNat) 9) (h10 : 2 ≤ m (336 + k.toNat) 8 → 0 ≤ m (336 + k.toNat) 10) (hG : GO 316 326 336 m) : YC (gZ L xs) (d + 3) 89 [.ref 8, .ref (336 + k.toNat)] m nn (qU (fun m' n' => n' = nn ∧ Ty gT m' ∧ Fr wFy m m')) := by
  refine YC.mkB [some (.ref 8), some (.ref (336 + k.toNat)), none] kn89 rfl rfl ?_
  refine y_iconst 1 c89_0 rfl ?_
  refine y_istore 2 c89_1 rfl rfl ?_
  have tb := hT.atp 316 10 0 10 rfl
  exact t89a_316 hT hp hk hkc h4 h6 hM h9 h10 hG (m 316 10 - 0).toNat 0 m (by omega) (by omega) hT Fr.rf
set_option maxRecDepth 100000 in
theorem t90_316 {L : Nat} {xs : Nat → Int32} {d nn : Nat} {m : yM} {k : Int} (hT : Ty gT m) (hp : m 8 4 = 1) (hk : 0 ≤ k ∧ k ≤ 39) (hkc : k < m 316 16) (hM : MP 326 m) (hR : RG 336 325 m 0 (m 316 16) 0 (m 316 12) 0 (m 316 13)) (hL : NL 336 m 0 (m 316 16)) (hG : GO 316 326 336 m) : YC (gZ L xs) (d + 4) 90 [.ref 8, .ref (336 + k.toNat)] m nn (qU (fun m' n' => n' = nn ∧ Ty gT m' ∧ Fr wFx m m' ∧ GO 316 326 336 m')) := by
  have tb16 := hT.atp 316 16 0 40 rfl
  have hn : ∀ k : Nat, (k : Int) < m 316 16 → m (336 + k) 6 ≤ 11 := fun k hk => (hT.atp (336 + k) 6 (-1) 11 (ft336_6 (by omega))).2
  have h0 : ∀ k' : Nat, (k' : Int) < m 316 16 → m (336 + k') 0 = 4 → 0 ≤ m (336 + k') 6 := fun k' hk' h4 => ((hR.1 k' (by omega) hk').2 h4).1
  have hin : m (336 + k.toNat) 0 = 4 → ∀ k' : Nat, (k' : Int) < m 316 16 → m (336 + k') 0 = 4 → m (336 + k') 6 = m (336 + k.toNat) 6 → k' = k.toNat := by
    intro h4 k' hk' h4' h6
    rcases Nat.lt_trichotomy k' k.toNat with q | q | q
    · have := hR.2.1 k' k.toNat (by omega) q (by omega) h4' h4; omega
    · exact q
    · have := hR.2.1 k.toNat k' (by omega) q (by omega) h4 h4'; omega
  have hsv := (hR.1 k.toNat (by omega) (by omega)).1
  unfold SV at hsv
  obtain ⟨s1, s2, s3, s4, s5⟩ := hsv
  have hl := hL k.toNat (by omega) (by omega)
  refine YC.mkB [some (.ref 8), some (.ref (336 + k.toNat))] kn90 rfl rfl ?_
  have hF : Fr wFx m m := Fr.rf
  refine y_aload 1 c90_0 rfl rfl rfl ?_
  refine y_getX 4 (m (336 + k.toNat) 0) c90_1 rfl (ff336_0 (by omega)) rfl ?_
  have tb4663 := hT.atp (336 + k.toNat) 0 0 9 (ft336_0 (by omega))
  by_cases hk4664 : m (336 + k.toNat) 0 = 2
  · refine y_top 2 hk4664 ?_
    refine y_tsw 72 c90_4 (by decide) (by decide) rfl rfl ?_
    refine y_aload 73 c90_72 rfl rfl rfl ?_
    refine y_aload 74 c90_73 rfl rfl rfl ?_
    refine y_getR 77 c90_74 rfl kf8_0 ?_
    refine y_aload 78 c90_77 rfl rfl rfl ?_
    refine y_getX 81 (m (336 + k.toNat) 3) c90_78 rfl (ff336_3 (by omega)) rfl ?_
    have tb4665 := hT.atp (336 + k.toNat) 3 ((-1)) 47 (ft336_3 (by omega))
    refine y_aaload 82 c90_81 rfl kr9 (by omega) ?_
    refine y_aload 83 c90_82 rfl rfl rfl ?_
    refine y_getR 86 c90_83 rfl kf8_0 ?_
    refine y_aload 87 c90_86 rfl rfl rfl ?_
    refine y_getX 90 (m (336 + k.toNat) 2) c90_87 rfl (ff336_2 (by omega)) rfl ?_
    have tb4666 := hT.atp (336 + k.toNat) 2 ((-1)) 47 (ft336_2 (by omega))
    refine y_aaload 91 c90_90 rfl kr9 (by omega) ?_
    have tb4668 := hT.atp 8 4 ((-1)) 1 rfl
    refine y_callUB 94 [.ref 8, .ref (10 + (m (336 + k.toNat) 3).toNat), .ref (10 + (m (336 + k.toNat) 2).toNat)] [] c90_91 rfl rfl rfl rfl rfl (ycanO km80 ko8) (t80_316 hT (by omega) (fa10 (by omega)) (fun _ => fz10 (by omega)) (fa10 (by omega)) (fun _ => fz10 (by omega)) (by omega)) (fun mq4667 nq4667 hq4667 => ?_)
    obtain ⟨rfl, hTq4667, hFq4667⟩ := hq4667
    have hF4669 := hF.tr hFq4667 (wTe_wFx (by omega))
    refine y_goto 134 c90_94 rfl ?_
    exact y_retU c90_134 ⟨rfl, hTq4667, hF4669, (hG.fr (by omega) hn (Fr.rf.tr hFq4667 (wTe_wFy (by omega))))⟩
  by_cases hk4670 : m (336 + k.toNat) 0 = 3
  · refine y_top 3 hk4670 ?_
    refine y_tsw 113 c90_4 (by decide) (by decide) rfl rfl ?_
    refine y_aload 114 c90_113 rfl rfl rfl ?_
    refine y_aload 115 c90_114 rfl rfl rfl ?_
    have tb4672 := hT.atp 8 4 ((-1)) 1 rfl
    have tb4673 := hT.atp 316 16 0 40 rfl
    have tb4674 := hT.atp 316 10 0 10 rfl
    have tb4675 := hT.atp (336 + k.toNat) 2 ((-1)) 47 (ft336_2 (by omega))
    have tb4676 := hT.atp (336 + k.toNat) 3 ((-1)) 47 (ft336_3 (by omega))
    have tb4677 := hT.atp (336 + k.toNat) 6 ((-1)) 11 (ft336_6 (by omega))
    have tb4678 := hT.atp (336 + k.toNat) 8 0 2 (ft336_8 (by omega))
    have tb4679 := hT.atp (336 + k.toNat) 9 ((-1)) 47 (ft336_9 (by omega))
    have tb4680 := hT.atp (336 + k.toNat) 10 ((-1)) 47 (ft336_10 (by omega))
    refine y_callUB 118 [.ref 8, .ref (336 + k.toNat)] [] c90_115 rfl rfl rfl rfl rfl (ycanO km85 ko8) (t85_316 (k := k) hT (by omega) (by omega) (by omega) (by omega) (by omega)) (fun mq4671 nq4671 hq4671 => ?_)
    obtain ⟨rfl, hTq4671, hFq4671⟩ := hq4671
    have hF4681 := hF.tr hFq4671 wFy_wFx
    refine y_goto 134 c90_118 rfl ?_
    exact y_retU c90_134 ⟨rfl, hTq4671, hF4681, (hG.fr (by omega) hn hFq4671)⟩
  by_cases hk4682 : m (336 + k.toNat) 0 = 4
  · refine y_top 4 hk4682 ?_
    refine y_tsw 121 c90_4 (by decide) (by decide) rfl rfl ?_
    refine y_aload 122 c90_121 rfl rfl rfl ?_
    refine y_aload 123 c90_122 rfl rfl rfl ?_
    have tb4684 := hT.atp 8 4 ((-1)) 1 rfl
    have tb4685 := hT.atp 316 16 0 40 rfl
    have tb4686 := hT.atp 316 10 0 10 rfl
    have tb4687 := hT.atp (336 + k.toNat) 2 ((-1)) 47 (ft336_2 (by omega))
    have tb4688 := hT.atp (336 + k.toNat) 3 ((-1)) 47 (ft336_3 (by omega))
    have tb4689 := hT.atp (336 + k.toNat) 6 ((-1)) 11 (ft336_6 (by omega))
    have tb4690 := hT.atp (336 + k.toNat) 8 0 2 (ft336_8 (by omega))
    have tb4691 := hT.atp (336 + k.toNat) 9 ((-1)) 47 (ft336_9 (by omega))
    have tb4692 := hT.atp (336 + k.toNat) 10 ((-1)) 47 (ft336_10 (by omega))
    refine y_callUB 126 [.ref 8, .ref (336 + k.toNat)] [] c90_123 rfl rfl rfl rfl rfl (ycanO km86 ko8) (t86_316 (k := k) hT (by omega) (by omega) (by omega) (by omega) hn (hin (by omega)) h0 hG) (fun mq4683 nq4683 hq4683 => ?_)
    obtain ⟨rfl, hTq4683, hFq4683, hGq4683⟩ := hq4683
    have hF4693 := hF.tr hFq4683 (fun _ _ e => e)
    refine y_aload 127 c90_126 rfl rfl rfl ?_
    refine y_aload 128 c90_127 rfl rfl rfl ?_
    have es4695 : mq4683 8 4 = m 8 4 := (hFq4683 8 4 rfl)
    have es4696 : mq4683 316 16 = m 316 16 := (hFq4683 316 16 rfl)
    have es4697 : mq4683 316 10 = m 316 10 := (hFq4683 316 10 rfl)
    have es4698 : mq4683 (336 + k.toNat) 0 = m (336 + k.toNat) 0 := (hFq4683 (336 + k.toNat) 0 (wFx_h (by omega)))
    have es4699 : mq4683 (336 + k.toNat) 2 = m (336 + k.toNat) 2 := (hFq4683 (336 + k.toNat) 2 (wFx_h (by omega)))
    have es4700 : mq4683 (336 + k.toNat) 3 = m (336 + k.toNat) 3 := (hFq4683 (336 + k.toNat) 3 (wFx_h (by omega)))
    have es4701 : mq4683 (336 + k.toNat) 6 = m (336 + k.toNat) 6 := (hFq4683 (336 + k.toNat) 6 (wFx_h (by omega)))
    have es4702 : mq4683 (336 + k.toNat) 8 = m (336 + k.toNat) 8 := (hFq4683 (336 + k.toNat) 8 (wFx_h (by omega)))
    have es4703 : mq4683 (336 + k.toNat) 9 = m (336 + k.toNat) 9 := (hFq4683 (336 + k.toNat) 9 (wFx_h (by omega)))
    have es4704 : mq4683 (336 + k.toNat) 10 = m (336 + k.toNat) 10 := (hFq4683 (336 + k.toNat) 10 (wFx_h (by omega)))
    refine y_callUB 131 [.ref 8, .ref (336 + k.toNat)] [] c90_128 rfl rfl rfl rfl rfl (ycanO km89 ko8) (t89_316 (k := k) hTq4683 (by omega) (by omega) (by omega) (by omega) (by omega) (hM.fr (fun k hk => hFq4683 _ _ (wFx_h (by omega))) (fun k hk => hFq4683 _ _ (wFx_h (by omega)))) (by omega) (by omega) hGq4683) (fun mq4694 nq4694 hq4694 => ?_)
    obtain ⟨rfl, hTq4694, hFq4694⟩ := hq4694
    have hF4705 := hF4693.tr hFq4694 wFy_wFx
    refine y_goto 134 c90_131 rfl ?_
    exact y_retU c90_134 ⟨rfl, hTq4694, hF4705, (hGq4683.fr (by omega) (fun j hj => by rw [hFq4683 316 16 rfl] at hj; rw [hFq4683 _ 6 (wFx_h (by omega))]; exact hn j hj) hFq4694)⟩
  by_cases hk4706 : m (336 + k.toNat) 0 = 5
  · refine y_top 5 hk4706 ?_
    refine y_tsw 52 c90_4 (by decide) (by decide) rfl rfl ?_
    refine y_aload 53 c90_52 rfl rfl rfl ?_
    refine y_aload 54 c90_53 rfl rfl rfl ?_
    refine y_getR 57 c90_54 rfl kf8_0 ?_
    refine y_aload 58 c90_57 rfl rfl rfl ?_
    refine y_getX 61 (m (336 + k.toNat) 2) c90_58 rfl (ff336_2 (by omega)) rfl ?_
    have tb4707 := hT.atp (336 + k.toNat) 2 ((-1)) 47 (ft336_2 (by omega))
    refine y_aaload 62 c90_61 rfl kr9 (by omega) ?_
    refine y_aload 63 c90_62 rfl rfl rfl ?_
    refine y_getX 66 (m (336 + k.toNat) 6) c90_63 rfl (ff336_6 (by omega)) rfl ?_
    have tb4708 := hT.atp (336 + k.toNat) 6 ((-1)) 11 (ft336_6 (by omega))
    refine y_callUB 69 [.ref 8, .ref (10 + (m (336 + k.toNat) 2).toNat), yI (m (336 + k.toNat) 6)] [] c90_66 rfl rfl rfl rfl rfl (ycanO km79 ko8) (t79 hT (fa10 (by omega)) (fun _ => fz10 (by omega)) (by omega) (by omega)) (fun mq4709 nq4709 hq4709 => ?_)
    obtain ⟨rfl, hTq4709, hFq4709, hq4709⟩ := hq4709
    have hF4710 := hF.tr hFq4709 (wTe_wFx (by omega))
    refine y_goto 134 c90_69 rfl ?_
    exact y_retU c90_134 ⟨rfl, hTq4709, hF4710, (hG.fr (by omega) hn (Fr.rf.tr hFq4709 (wTe_wFy (by omega))))⟩
  by_cases hk4711 : m (336 + k.toNat) 0 = 6
  · refine y_top 6 hk4711 ?_
    refine y_tsw 134 c90_4 (by decide) (by decide) rfl rfl ?_
    exact y_retU c90_134 ⟨rfl, hT, hF, hG⟩
  by_cases hk4712 : m (336 + k.toNat) 0 = 7
  · refine y_top 7 hk4712 ?_
    refine y_tsw 97 c90_4 (by decide) (by decide) rfl rfl ?_
    refine y_aload 98 c90_97 rfl rfl rfl ?_
    refine y_aload 99 c90_98 rfl rfl rfl ?_
    have tb4714 := hT.atp 8 4 ((-1)) 1 rfl
    have tb4715 := hT.atp 316 16 0 40 rfl
    have tb4716 := hT.atp 316 10 0 10 rfl
    have tb4717 := hT.atp (336 + k.toNat) 2 ((-1)) 47 (ft336_2 (by omega))
    have tb4718 := hT.atp (336 + k.toNat) 3 ((-1)) 47 (ft336_3 (by omega))
    have tb4719 := hT.atp (336 + k.toNat) 6 ((-1)) 11 (ft336_6 (by omega))
    have tb4720 := hT.atp (336 + k.toNat) 8 0 2 (ft336_8 (by omega))
    have tb4721 := hT.atp (336 + k.toNat) 9 ((-1)) 47 (ft336_9 (by omega))
    have tb4722 := hT.atp (336 + k.toNat) 10 ((-1)) 47 (ft336_10 (by omega))
    refine y_callUB 102 [.ref 8, .ref (336 + k.toNat)] [] c90_99 rfl rfl rfl rfl rfl (ycanO km82 ko8) (t82_316 (k := k) hT (by omega) (by omega) (by omega) (by omega)) (fun mq4713 nq4713 hq4713 => ?_)
    obtain ⟨rfl, hTq4713, hFq4713⟩ := hq4713
    have hF4723 := hF.tr hFq4713 wFy_wFx
    refine y_goto 134 c90_102 rfl ?_
    exact y_retU c90_134 ⟨rfl, hTq4713, hF4723, (hG.fr (by omega) hn hFq4713)⟩
  by_cases hk4724 : m (336 + k.toNat) 0 = 8
  · refine y_top 8 hk4724 ?_
    refine y_tsw 72 c90_4 (by decide) (by decide) rfl rfl ?_
    refine y_aload 73 c90_72 rfl rfl rfl ?_
    refine y_aload 74 c90_73 rfl rfl rfl ?_
    refine y_getR 77 c90_74 rfl kf8_0 ?_
    refine y_aload 78 c90_77 rfl rfl rfl ?_
    refine y_getX 81 (m (336 + k.toNat) 3) c90_78 rfl (ff336_3 (by omega)) rfl ?_
    have tb4725 := hT.atp (336 + k.toNat) 3 ((-1)) 47 (ft336_3 (by omega))
    refine y_aaload 82 c90_81 rfl kr9 (by omega) ?_
    refine y_aload 83 c90_82 rfl rfl rfl ?_
    refine y_getR 86 c90_83 rfl kf8_0 ?_
    refine y_aload 87 c90_86 rfl rfl rfl ?_
    refine y_getX 90 (m (336 + k.toNat) 2) c90_87 rfl (ff336_2 (by omega)) rfl ?_
    have tb4726 := hT.atp (336 + k.toNat) 2 ((-1)) 47 (ft336_2 (by omega))
    refine y_aaload 91 c90_90 rfl kr9 (by omega) ?_
    have tb4728 := hT.atp 8 4 ((-1)) 1 rfl
    refine y_callUB 94 [.ref 8, .ref (10 + (m (336 + k.toNat) 3).toNat), .ref (10 + (m (336 + k.toNat) 2).toNat)] [] c90_91 rfl rfl rfl rfl rfl (ycanO km80 ko8) (t80_316 hT (by omega) (fa10 (by omega)) (fun _ => fz10 (by omega)) (fa10 (by omega)) (fun _ => fz10 (by omega)) (by omega)) (fun mq4727 nq4727 hq4727 => ?_)
    obtain ⟨rfl, hTq4727, hFq4727⟩ := hq4727
    have hF4729 := hF.tr hFq4727 (wTe_wFx (by omega))
    refine y_goto 134 c90_94 rfl ?_
    exact y_retU c90_134 ⟨rfl, hTq4727, hF4729, (hG.fr (by omega) hn (Fr.rf.tr hFq4727 (wTe_wFy (by omega))))⟩
  by_cases hk4730 : m (336 + k.toNat) 0 = 9
  · refine y_top 9 hk4730 ?_
    refine y_tsw 105 c90_4 (by decide) (by decide) rfl rfl ?_
    refine y_aload 106 c90_105 rfl rfl rfl ?_
    refine y_aload 107 c90_106 rfl rfl rfl ?_
    have tb4732 := hT.atp 8 4 ((-1)) 1 rfl
    have tb4733 := hT.atp 316 16 0 40 rfl
    have tb4734 := hT.atp 316 10 0 10 rfl
    have tb4735 := hT.atp (336 + k.toNat) 2 ((-1)) 47 (ft336_2 (by omega))
    have tb4736 := hT.atp (336 + k.toNat) 3 ((-1)) 47 (ft336_3 (by omega))
    have tb4737 := hT.atp (336 + k.toNat) 6 ((-1)) 11 (ft336_6 (by omega))
    have tb4738 := hT.atp (336 + k.toNat) 8 0 2 (ft336_8 (by omega))
    have tb4739 := hT.atp (336 + k.toNat) 9 ((-1)) 47 (ft336_9 (by omega))
    have tb4740 := hT.atp (336 + k.toNat) 10 ((-1)) 47 (ft336_10 (by omega))
    refine y_callUB 110 [.ref 8, .ref (336 + k.toNat)] [] c90_107 rfl rfl rfl rfl rfl (ycanO km84 ko8) (t84_316 (k := k) hT (by omega) (by omega) (by omega) (by omega) (by omega)) (fun mq4731 nq4731 hq4731 => ?_)
    obtain ⟨rfl, hTq4731, hFq4731⟩ := hq4731
    have hF4741 := hF.tr hFq4731 wFy_wFx
    refine y_goto 134 c90_110 rfl ?_
    exact y_retU c90_134 ⟨rfl, hTq4731, hF4741, (hG.fr (by omega) hn hFq4731)⟩
  refine y_tswd 134 c90_4 (by omega) (by omega) rfl ?_
  exact y_retU c90_134 ⟨rfl, hT, hF, hG⟩
set_option maxRecDepth 100000 in
theorem t91b_316 {L : Nat} {xs : Nat → Int32} {d nn : Nat} {m : yM} (hT : Ty gT m) (hM : MP 326 m) (hR : RG 336 325 m 0 (m 316 16) 0 (m 316 12) 0 (m 316 13)) (hL : NL 336 m 0 (m 316 16)) {r : Int} (hr : 0 ≤ r ∧ r < 2000) (ho : ∀ (x2 x3 : Option Value) (mi : yM), Ty gT mi → Fr wFd8 m mi → mi 8 5 = r + 1 → mi 8 4 = 1 → GO 316 326 336 mi → YW (gZ L xs) 91 (d + 5) 65 [some (.ref 8), some (.ref 316), x2, x3] [] mi nn (qU (fun m' n' => n' = nn ∧ Ty gT m' ∧ Fr wFd8 m m' ∧ m' 8 4 = 1))) : ∀ (k : Nat) (i : Int) (x3 : Option Value) (mi : yM), m 316 16 - i = k → 0 ≤ i ∧ i ≤ m 316 16 → Ty gT mi → Fr wFd8 m mi → mi 8 5 = r → mi 8 4 = 1 → GO 316 326 336 mi → YW (gZ L xs) 91 (d + 5) 88 [some (.ref 8), some (.ref 316), some (yI i), x3] [] mi nn (qU (fun m' n' => n' = nn ∧ Ty gT m' ∧ Fr wFd8 m m' ∧ m' 8 4 = 1)) := by
  intro k
  induction k using Nat.strongRecOn with
  | ind k ih =>
    intro i x3 mi hk hi hTi hFi h5 h4 hGi
    have tb := hT.atp 316 16 0 40 rfl
    refine y_iload 89 c91_88 rfl rfl ?_
    refine y_aload 90 c91_89 rfl rfl rfl ?_
    refine y_getS 93 (B := 316) c91_90 rfl kf8_4 (by rw [show mi 8 4 = 1 from by have e : mi 8 4 = mi 8 4 := rfl; omega]; rfl) ?_
    refine y_getX 96 (m 316 16) c91_93 rfl kf316_16 (hFi 316 16 rfl) ?_
    refine y_icmp 136 99 c91_96 rfl rfl (yc_ge (by omega) (by omega)) (fun hb4742 => ?_) (fun hb4742 => ?_)
    · refine y_aload 137 c91_136 rfl rfl rfl ?_
      refine y_dup 138 c91_137 rfl rfl ?_
      refine y_getX 141 (mi 8 5) c91_138 rfl kf8_5 rfl ?_
      have tb4743 := hTi.atp 8 5 0 2000 rfl
      refine y_iconst 142 c91_141 rfl ?_
      refine y_iadd 143 c91_142 rfl ?_
      refine y_putI 146 c91_143 rfl kf8_5 (y_fit0 _) ?_
      have hT4744 := hTi.up 8 5 ((mi 8 5) + 1) 0 2000 rfl (by omega)
      have hF4745 := hFi.up 8 5 ((mi 8 5) + 1) rfl
      refine y_goto 65 c91_146 rfl ?_
      have es4746 : (yup mi 8 5 ((mi 8 5) + 1)) 8 5 = (mi 8 5) + 1 := rfl
      have es4747 : (yup mi 8 5 ((mi 8 5) + 1)) 8 4 = mi 8 4 := rfl
      have tb4748 := hTi.atp 8 4 ((-1)) 1 rfl
      refine ho _ _ _ hT4744 hF4745 (by omega) (by omega) ?_
      exact GO.n8 hGi
    · refine y_aload 100 c91_99 rfl rfl rfl ?_
      refine y_getS 103 (B := 316) c91_100 rfl kf8_4 (by rw [show mi 8 4 = 1 from by have e : mi 8 4 = mi 8 4 := rfl; omega]; rfl) ?_
      refine y_getR 106 c91_103 rfl kf316_6 ?_
      refine y_iload 107 c91_106 rfl rfl ?_
      refine y_aaload 108 c91_107 rfl kr323 (by omega) ?_
      refine y_astore 109 c91_108 rfl rfl rfl ?_
      refine y_aload 110 c91_109 rfl rfl rfl ?_
      refine y_aload 111 c91_110 rfl rfl rfl ?_
      refine y_getR 114 c91_111 rfl kf8_2 ?_
      refine y_aload 115 c91_114 rfl rfl rfl ?_
      refine y_getX 118 (m (336 + i.toNat) 1) c91_115 rfl (ff336_1 (by omega)) (hFi (336 + i.toNat) 1 (wFd8_h (by omega))) ?_
      have tb4749 := hT.atp (336 + i.toNat) 1 0 9 (ft336_1 (by omega))
      refine y_iaT 119 ((-2147483648)) 2147483647 c91_118 rfl ka71 (by omega) hTi rfl (fun v4750 hv4750 gv4750 => ?_)
      refine y_callP 122 [.ref 8, yI v4750] [] c91_119 rfl rfl rfl rfl rfl (ycanO km78 ko8) (t78 hTi (by omega)) (fun r4751 hr4751 => ?_)
      refine y_if 130 125 c91_122 rfl rfl (yz_eq (by omega)) (fun hb4752 => ?_) (fun hb4752 => ?_)
      · refine y_iinc 133 c91_130 rfl rfl rfl ?_
        refine y_goto 88 c91_133 rfl ?_
        exact ih (m 316 16 - (i + 1) : Int).toNat (by omega) (i + 1) _  _ (by omega) (by omega) hTi hFi (by have e : mi 8 5 = mi 8 5 := rfl; omega) (by have e : mi 8 4 = mi 8 4 := rfl; omega) hGi
      · refine y_aload 126 c91_125 rfl rfl rfl ?_
        refine y_aload 127 c91_126 rfl rfl rfl ?_
        have tb4754 := hTi.atp 8 4 ((-1)) 1 rfl
        have es4755 : mi 316 16 = m 316 16 := (hFi 316 16 rfl)
        have eq4753_16 := hFi 316 16 rfl
        have eq4753_12 := hFi 316 12 rfl
        have eq4753_13 := hFi 316 13 rfl
        refine y_callUB 130 [.ref 8, .ref (336 + i.toNat)] [] c91_127 rfl rfl rfl rfl rfl (ycanO km90 ko8) (t90_316 (k := i) hTi (by omega) (by omega) (by omega) (hM.fr (fun k hk => hFi _ _ (wFd8_h (by omega))) (fun k hk => hFi _ _ (wFd8_h (by omega)))) (by rw [eq4753_16, eq4753_12, eq4753_13]; exact (hR.fr (m' := mi) (c3 := m 316 12) (fun j _ _ q _ => hFi _ _ (wFd8_h (by omega))) (fun z _ _ => hFi 325 z rfl) (Int.le_refl _))) (by rw [eq4753_16]; exact hL.fr (fun j _ _ => ⟨hFi _ _ (wFd8_h (by omega)), hFi _ _ (wFd8_h (by omega))⟩)) hGi) (fun mq4753 nq4753 hq4753 => ?_)
        obtain ⟨rfl, hTq4753, hFq4753, hGq4753⟩ := hq4753
        have hF4756 := hFi.tr hFq4753 wFx_wFd8
        refine y_iinc 133 c91_130 rfl rfl rfl ?_
        refine y_goto 88 c91_133 rfl ?_
        exact ih (m 316 16 - (i + 1) : Int).toNat (by omega) (i + 1) _  _ (by omega) (by omega) hTq4753 hF4756 (by have e : mq4753 8 5 = mi 8 5 := (hFq4753 8 5 rfl); omega) (by have e : mq4753 8 4 = mi 8 4 := (hFq4753 8 4 rfl); omega) hGq4753
set_option maxRecDepth 100000 in
theorem t91a_316 {L : Nat} {xs : Nat → Int32} {d nn : Nat} {m : yM} (hT : Ty gT m) (hM : MP 326 m) (hR : RG 336 325 m 0 (m 316 16) 0 (m 316 12) 0 (m 316 13)) (hL : NL 336 m 0 (m 316 16)) : ∀ (k : Nat) (x2 x3 : Option Value) (mi : yM), 2000 - mi 8 5 = k → Ty gT mi → Fr wFd8 m mi → mi 8 4 = 1 → GO 316 326 336 mi → YW (gZ L xs) 91 (d + 5) 65 [some (.ref 8), some (.ref 316), x2, x3] [] mi nn (qU (fun m' n' => n' = nn ∧ Ty gT m' ∧ Fr wFd8 m m' ∧ m' 8 4 = 1)) := by
  intro k
  induction k using Nat.strongRecOn with
  | ind k ih =>
    intro x2 x3 mi hk hTi hFi h4 hGi
    have tb5 := hTi.atp 8 5 0 2000 rfl
    have tbm := hT.atp 316 16 0 40 rfl
    refine y_aload 66 c91_65 rfl rfl rfl ?_
    refine y_getX 69 (mi 8 5) c91_66 rfl kf8_5 rfl ?_
    refine y_iconst 72 c91_69 rfl ?_
    refine y_icmp 149 75 c91_72 rfl rfl (yc_ge (by omega) (by omega)) (fun hb4757 => ?_) (fun hb4757 => ?_)
    · exact y_retU c91_149 ⟨rfl, hTi, hFi, h4⟩
    · refine y_aload 76 c91_75 rfl rfl rfl ?_
      refine y_getX 79 (mi 8 5) c91_76 rfl kf8_5 rfl ?_
      refine y_aload 80 c91_79 rfl rfl rfl ?_
      refine y_getX 83 (mi 8 6) c91_80 rfl kf8_6 rfl ?_
      have tb4758 := hTi.atp 8 6 0 2001 rfl
      refine y_icmp 149 86 c91_83 rfl rfl (yc_ne (by omega) (by omega)) (fun hb4759 => ?_) (fun hb4759 => ?_)
      · exact y_retU c91_149 ⟨rfl, hTi, hFi, h4⟩
      · refine y_iconst 87 c91_86 rfl ?_
        refine y_istore 88 c91_87 rfl rfl ?_
        exact t91b_316 hT hM hR hL (r := mi 8 5) (by omega) (fun y2 y3 mj j1 j2 j3 j4 j5 => ih (2000 - mj 8 5).toNat (by omega) y2 y3 mj (by omega) j1 j2 j4 j5) (m 316 16 - 0).toNat 0 _ mi (by omega) (by omega) hTi hFi rfl h4 hGi
set_option maxRecDepth 100000 in
theorem t91_316 {L : Nat} {xs : Nat → Int32} {d nn : Nat} {m : yM} (hT : Ty gT m) (hM : MP 326 m) (hR : RG 336 325 m 0 (m 316 16) 0 (m 316 12) 0 (m 316 13)) (hL : NL 336 m 0 (m 316 16)) : YC (gZ L xs) (d + 5) 91 [.ref 8, .ref 316] m nn (qU (fun m' n' => n' = nn ∧ Ty gT m' ∧ Fr wFd8 m m' ∧ m' 8 4 = 1)) := by
  have tb16 := hT.atp 316 16 0 40 rfl
  refine YC.mkB [some (.ref 8), some (.ref 316), none, none] kn91 rfl rfl ?_
  have hF : Fr wFd8 m m := Fr.rf
  refine y_aload 1 c91_0 rfl rfl rfl ?_
  refine y_aload 2 c91_1 rfl rfl rfl ?_
  refine y_putS 5 1 c91_2 rfl kf8_4 rfl ?_
  have hT4760 := hT.up 8 4 1 ((-1)) 1 rfl (by omega)
  have hF4761 := hF.up 8 4 1 rfl
  refine y_aload 6 c91_5 rfl rfl rfl ?_
  refine y_callUB 9 [.ref 8] [] c91_6 rfl rfl rfl rfl rfl (ycanO km77 ko8) (t77 hT4760) (fun mq4762 nq4762 hq4762 => ?_)
  obtain ⟨rfl, hTq4762, hFq4762, hq4762, hzq4762⟩ := hq4762
  have hF4763 := hF4761.tr hFq4762 wFx_wFd8
  refine y_aload 10 c91_9 rfl rfl rfl ?_
  refine y_getS 13 (B := 316) c91_10 rfl kf8_4 (by rw [show mq4762 8 4 = 1 from by have e : mq4762 8 4 = 1 := ((hFq4762 8 4 rfl).trans (yup_eq _ _ _ _)); omega]; rfl) ?_
  refine y_getX 16 (m 316 17) c91_13 rfl kf316_17 ((hFq4762 316 17 rfl).trans (yup_na (by decide))) ?_
  have tb4764 := hT.atp 316 17 ((-1)) 9 rfl
  refine y_iconst 17 c91_16 rfl ?_
  refine y_icmp 21 20 c91_17 rfl rfl (yc_ne (by omega) (by omega)) (fun hb4765 => ?_) (fun hb4765 => ?_)
  · refine y_aload 22 c91_21 rfl rfl rfl ?_
    refine y_getR 25 c91_22 rfl kf8_2 ?_
    refine y_aload 26 c91_25 rfl rfl rfl ?_
    refine y_getS 29 (B := 316) c91_26 rfl kf8_4 (by rw [show mq4762 8 4 = 1 from by have e : mq4762 8 4 = 1 := ((hFq4762 8 4 rfl).trans (yup_eq _ _ _ _)); omega]; rfl) ?_
    refine y_getX 32 (m 316 17) c91_29 rfl kf316_17 ((hFq4762 316 17 rfl).trans (yup_na (by decide))) ?_
    refine y_iconst 33 c91_32 rfl ?_
    refine y_iastore 34 c91_33 rfl ka71 (by omega) (y_nar0 _) ?_
    have hT4766 := hTq4762.up 71 ((m 316 17).toNat) 0 ((-2147483648)) 2147483647 rfl (by omega)
    have hF4767 := hF4763.up 71 ((m 316 17).toNat) 0 rfl
    refine y_aload 35 c91_34 rfl rfl rfl ?_
    refine y_getR 38 c91_35 rfl kf8_0 ?_
    refine y_aload 39 c91_38 rfl rfl rfl ?_
    refine y_getS 42 (B := 316) c91_39 rfl kf8_4 (by rw [show (yup mq4762 71 ((m 316 17).toNat) 0) 8 4 = 1 from by have e : (yup mq4762 71 ((m 316 17).toNat) 0) 8 4 = 1 := ((yup_na (by decide)).trans ((hFq4762 8 4 rfl).trans (yup_eq _ _ _ _))); omega]; rfl) ?_
    refine y_getR 45 c91_42 rfl kf316_5 ?_
    refine y_aload 46 c91_45 rfl rfl rfl ?_
    refine y_getS 49 (B := 316) c91_46 rfl kf8_4 (by rw [show (yup mq4762 71 ((m 316 17).toNat) 0) 8 4 = 1 from by have e : (yup mq4762 71 ((m 316 17).toNat) 0) 8 4 = 1 := ((yup_na (by decide)).trans ((hFq4762 8 4 rfl).trans (yup_eq _ _ _ _))); omega]; rfl) ?_
    refine y_getX 52 (m 316 17) c91_49 rfl kf316_17 ((yup_na (by decide)).trans ((hFq4762 316 17 rfl).trans (yup_na (by decide)))) ?_
    refine y_aaload 53 c91_52 rfl kr322 (by omega) ?_
    refine y_callP 56 [.ref (326 + (m 316 17).toNat)] [.ref 9] c91_53 rfl rfl rfl rfl rfl (ycanO km57 (fo326 (by omega))) (t57_316 hT4766 (by omega)) (fun r4768 hr4768 => ?_)
    refine y_aaload 57 c91_56 rfl kr9 (by omega) ?_
    refine y_iconst 58 c91_57 rfl ?_
    refine y_iconst 59 c91_58 rfl ?_
    refine y_iastore 60 c91_59 rfl (fa10 (by omega)) (by omega) (y_nar0 _) ?_
    have hT4769 := hT4766.up (10 + r4768.toNat) 0.toNat 0 ((-2147483648)) 2147483647 (fz10 (by omega)) (by omega)
    have hF4770 := hF4767.up (10 + r4768.toNat) 0.toNat 0 (wFd8_10 (by omega))
    refine y_aload 61 c91_60 rfl rfl rfl ?_
    refine y_iconst 62 c91_61 rfl ?_
    refine y_putI 65 c91_62 rfl kf8_5 (y_fit0 _) ?_
    have hT4771 := hT4769.up 8 5 0 0 2000 rfl (by omega)
    have hF4772 := hF4770.up 8 5 0 rfl
    have es4773 : (yup (yup (yup mq4762 71 ((m 316 17).toNat) 0) (10 + r4768.toNat) 0.toNat 0) 8 5 0) 8 5 = 0 := rfl
    have es4774 : (yup (yup (yup mq4762 71 ((m 316 17).toNat) 0) (10 + r4768.toNat) 0.toNat 0) 8 5 0) 8 4 = 1 := ((yup_nk (by decide)).trans ((yup_na (by omega)).trans ((yup_na (by decide)).trans ((hFq4762 8 4 rfl).trans (yup_eq _ _ _ _)))))
    have hg : GO 316 326 336 (yup (yup (yup mq4762 71 ((m 316 17).toNat) 0) (10 + r4768.toNat) 0.toNat 0) 8 5 0) := by
      intro k hk h4 i hi hne
      exfalso
      apply hne
      rw [hF4772 _ _ (wFd8_h (by omega))] at hk hi
      rw [hF4772 _ 6 (wFd8_h (by omega))]
      have t6 := hT.atp (336 + k) 6 (-1) 11 (ft336_6 (by omega))
      have t10 := hT.atp 316 10 0 10 rfl
      exact ((yup_na (by omega)).trans ((yup_na (by omega)).trans ((yup_na (by omega)).trans (hzq4762 _ i (by omega) (by omega)))))
    exact t91a_316 hT hM hR hL 2000 none none _ (by omega) hT4771 hF4772 (by omega) hg
  · have es4775 : mq4762 8 4 = 1 := ((hFq4762 8 4 rfl).trans (yup_eq _ _ _ _))
    exact y_retU c91_20 ⟨rfl, hTq4762, hF4763, by omega⟩
set_option maxRecDepth 100000 in
theorem t93b_316 {L : Nat} {xs : Nat → Int32} {d nn : Nat} {m : yM} (hT : Ty gT m) (hp : m 8 4 = 1) {v : Int} (hv : 0 ≤ v ∧ v < m 316 15) (ho : (∀ (f : Int) (x3 : Option Value), 0 ≤ f ∧ f ≤ 12 * (v + 1) → YW (gZ L xs) 93 d 4 [some (.ref 8), some (yI f), some (yI (v + 1)), x3] [] m nn (qP m nn (fun r => -2147483648 ≤ r ∧ r < 2147483648)))) : ∀ (k : Nat) (f : Int) (i : Int), m 316 14 - i = k → 0 ≤ i ∧ i ≤ m 316 14 → 0 ≤ f ∧ f ≤ 12 * v + i → YW (gZ L xs) 93 d 17 [some (.ref 8), some (yI f), some (yI v), some (yI i)] [] m nn (qP m nn (fun r => -2147483648 ≤ r ∧ r < 2147483648)) := by
  intro k
  induction k using Nat.strongRecOn with
  | ind k ih =>
    intro f i hk hi hf
    have tb := hT.atp 316 14 0 12 rfl
    have tb2 := hT.atp 316 15 0 48 rfl
    refine y_iload 18 c93_17 rfl rfl ?_
    refine y_aload 19 c93_18 rfl rfl rfl ?_
    refine y_getS 22 (B := 316) c93_19 rfl kf8_4 (by rw [show m 8 4 = 1 from by have e : m 8 4 = m 8 4 := rfl; omega]; rfl) ?_
    refine y_getX 25 (m 316 14) c93_22 rfl kf316_14 rfl ?_
    refine y_icmp 49 28 c93_25 rfl rfl (yc_ge (by omega) (by omega)) (fun hb4776 => ?_) (fun hb4776 => ?_)
    · refine y_iinc 52 c93_49 rfl rfl rfl ?_
      refine y_goto 4 c93_52 rfl ?_
      exact ho f _ (by omega)
    · refine y_aload 29 c93_28 rfl rfl rfl ?_
      refine y_getR 32 c93_29 rfl kf8_0 ?_
      refine y_iload 33 c93_32 rfl rfl ?_
      refine y_aaload 34 c93_33 rfl kr9 (by omega) ?_
      refine y_iload 35 c93_34 rfl rfl ?_
      refine y_iaT 36 ((-2147483648)) 2147483647 c93_35 rfl (fa10 (by omega)) (by omega) hT (fz10 (by omega)) (fun v4777 hv4777 gv4777 => ?_)
      refine y_iconst 37 c93_36 rfl ?_
      refine y_icmp 43 40 c93_37 rfl rfl (yc_eq (by omega) (by omega)) (fun hb4778 => ?_) (fun hb4778 => ?_)
      · refine y_iinc 46 c93_43 rfl rfl rfl ?_
        refine y_goto 17 c93_46 rfl ?_
        exact ih (m 316 14 - (i + 1) : Int).toNat (by omega) f (i + 1)   (by omega) (by omega) (by omega)
      · refine y_iinc 43 c93_40 rfl rfl rfl ?_
        refine y_iinc 46 c93_43 rfl rfl rfl ?_
        refine y_goto 17 c93_46 rfl ?_
        exact ih (m 316 14 - (i + 1) : Int).toNat (by omega) (f + 1) (i + 1)   (by omega) (by omega) (by omega)
set_option maxRecDepth 100000 in
theorem t93a_316 {L : Nat} {xs : Nat → Int32} {d nn : Nat} {m : yM} (hT : Ty gT m) (hp : m 8 4 = 1) : ∀ (k : Nat) (f : Int) (v : Int) (x3 : Option Value), m 316 15 - v = k → 0 ≤ v ∧ v ≤ m 316 15 → 0 ≤ f ∧ f ≤ 12 * v → YW (gZ L xs) 93 d 4 [some (.ref 8), some (yI f), some (yI v), x3] [] m nn (qP m nn (fun r => -2147483648 ≤ r ∧ r < 2147483648)) := by
  intro k
  induction k using Nat.strongRecOn with
  | ind k ih =>
    intro f v x3 hk hv hf
    have tb := hT.atp 316 14 0 12 rfl
    have tb2 := hT.atp 316 15 0 48 rfl
    refine y_iload 5 c93_4 rfl rfl ?_
    refine y_aload 6 c93_5 rfl rfl rfl ?_
    refine y_getS 9 (B := 316) c93_6 rfl kf8_4 (by rw [show m 8 4 = 1 from by have e : m 8 4 = m 8 4 := rfl; omega]; rfl) ?_
    refine y_getX 12 (m 316 15) c93_9 rfl kf316_15 rfl ?_
    refine y_icmp 55 15 c93_12 rfl rfl (yc_ge (by omega) (by omega)) (fun hb4779 => ?_) (fun hb4779 => ?_)
    · refine y_iload 56 c93_55 rfl rfl ?_
      exact y_retP c93_56 (y_fit0 _) (by omega)
    · refine y_iconst 16 c93_15 rfl ?_
      refine y_istore 17 c93_16 rfl rfl ?_
      exact t93b_316 hT hp (by omega) (fun f2 y3 hf2 => ih (m 316 15 - (v + 1)).toNat (by omega) f2 (v + 1) y3 (by omega) (by omega) (by omega)) (m 316 14 - 0).toNat f 0 (by omega) (by omega) (by omega)
set_option maxRecDepth 100000 in
theorem t93_316 {L : Nat} {xs : Nat → Int32} {d nn : Nat} {m : yM} (hT : Ty gT m) (hp : m 8 4 = 1) : YC (gZ L xs) d 93 [.ref 8] m nn (qP m nn (fun r => -2147483648 ≤ r ∧ r < 2147483648)) := by
  refine YC.mkB [some (.ref 8), none, none, none] kn93 rfl rfl ?_
  refine y_iconst 1 c93_0 rfl ?_
  refine y_istore 2 c93_1 rfl rfl ?_
  refine y_iconst 3 c93_2 rfl ?_
  refine y_istore 4 c93_3 rfl rfl ?_
  have tb2 := hT.atp 316 15 0 48 rfl
  exact t93a_316 hT hp (m 316 15 - 0).toNat 0 0 none (by omega) (by omega) (by omega)
