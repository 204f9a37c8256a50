/-! CONTRACTS: the facts. Printed by wip/whole/gen92.py -/
set_option maxRecDepth 100000 in
theorem t82a_316 {L : Nat} {xs : Nat → Int32} {d nn : Nat} {m : yM} {k : Int} (hT : Ty gT m) (hp : m 8 4 = 1) (hk : 0 ≤ k ∧ k ≤ 39) (h2 : 0 ≤ m (336 + k.toNat) 2) (h3 : 0 ≤ m (336 + k.toNat) 3) : ∀ (km : Nat) (i : Int) (mi : yM), m 316 14 - i = km → 0 ≤ i ∧ i ≤ m 316 14 → Ty gT mi → Fr wFy m mi → YW (gZ L xs) 82 (d + 2) 2 [some (.ref 8), some (.ref (336 + k.toNat)), some (yI i)] [] mi nn (qU (fun m' n' => n' = nn ∧ Ty gT m' ∧ Fr wFy m m')) := by
  intro km
  induction km using Nat.strongRecOn with
  | ind km ih =>
    intro i mi hk hi hTi hFi
    have tb := hT.atp 316 14 0 12 rfl
    refine y_iload 3 c82_2 rfl rfl ?_
    refine y_aload 4 c82_3 rfl rfl rfl ?_
    refine y_getS 7 (B := 316) c82_4 rfl kf8_4 (by first | rfl | (rw [show mi 8 4 = 1 from by have e : mi 8 4 = m 8 4 := (hFi 8 4 rfl); omega]; rfl)) ?_
    refine y_getX 10 (m 316 14) c82_7 rfl kf316_14 (hFi 316 14 rfl) ?_
    refine y_icmp 74 13 c82_10 rfl rfl (yc_ge (by omega) (by omega)) (fun hb4556 => ?_) (fun hb4556 => ?_)
    · exact y_retU c82_74 ⟨rfl, hTi, hFi⟩
    · refine y_aload 14 c82_13 rfl rfl rfl ?_
      refine y_aload 15 c82_14 rfl rfl rfl ?_
      refine y_getR 18 c82_15 rfl kf8_0 ?_
      refine y_aload 19 c82_18 rfl rfl rfl ?_
      refine y_getX 22 (m (336 + k.toNat) 3) c82_19 rfl (ff336_3 (by omega)) (hFi (336 + k.toNat) 3 (wFy_h (by omega))) ?_
      have tb4557 := hT.atp (336 + k.toNat) 3 ((-1)) 47 (ft336_3 (by omega))
      refine y_aaload 23 c82_22 rfl kr9 (by omega) ?_
      refine y_iload 24 c82_23 rfl rfl ?_
      refine y_iaT 25 ((-2147483648)) 2147483647 c82_24 rfl (fa10 (by omega)) (by omega) hTi (fz10 (by omega)) (fun v4558 hv4558 gv4558 => ?_)
      refine y_callP 28 [.ref 8, yI v4558] [] c82_25 rfl rfl rfl rfl rfl (ycanO km78 ko8) (t78 hTi (by omega)) (fun r4559 hr4559 => ?_)
      refine y_if 68 31 c82_28 rfl rfl (yz_eq (by omega)) (fun hb4560 => ?_) (fun hb4560 => ?_)
      · refine y_iinc 71 c82_68 rfl rfl rfl ?_
        refine y_goto 2 c82_71 rfl ?_
        exact ih (m 316 14 - (i + 1) : Int).toNat (by omega) (i + 1)  _ (by omega) (by omega) hTi hFi
      · refine y_aload 32 c82_31 rfl rfl rfl ?_
        refine y_getS 35 (B := 316) c82_32 rfl kf8_4 (by first | rfl | (rw [show mi 8 4 = 1 from by have e : mi 8 4 = m 8 4 := (hFi 8 4 rfl); omega]; rfl)) ?_
        refine y_aload 36 c82_35 rfl rfl rfl ?_
        refine y_getS 39 (B := 316) c82_36 rfl kf8_4 (by first | rfl | (rw [show mi 8 4 = 1 from by have e : mi 8 4 = m 8 4 := (hFi 8 4 rfl); omega]; rfl)) ?_
        refine y_getR 42 c82_39 rfl kf316_7 ?_
        refine y_iload 43 c82_42 rfl rfl ?_
        refine y_iaT 44 0 5 c82_43 rfl ka324 (by omega) hTi rfl (fun v4561 hv4561 gv4561 => ?_)
        refine y_aload 45 c82_44 rfl rfl rfl ?_
        refine y_getX 48 (m (336 + k.toNat) 7) c82_45 rfl (ff336_7 (by omega)) (hFi (336 + k.toNat) 7 (wFy_h (by omega))) ?_
        have tb4562 := hT.atp (336 + k.toNat) 7 ((-1)) 5 (ft336_7 (by omega))
        refine y_callP 51 [.ref 316, yI v4561, yI (m (336 + k.toNat) 7)] [] c82_48 rfl rfl rfl rfl rfl (ycanO km81 ko316) (t81_316 hTi (by omega) (by omega)) (fun r4563 hr4563 => ?_)
        refine y_if 68 54 c82_51 rfl rfl (yz_eq (by omega)) (fun hb4564 => ?_) (fun hb4564 => ?_)
        · refine y_iinc 71 c82_68 rfl rfl rfl ?_
          refine y_goto 2 c82_71 rfl ?_
          exact ih (m 316 14 - (i + 1) : Int).toNat (by omega) (i + 1)  _ (by omega) (by omega) hTi hFi
        · refine y_aload 55 c82_54 rfl rfl rfl ?_
          refine y_aload 56 c82_55 rfl rfl rfl ?_
          refine y_getR 59 c82_56 rfl kf8_0 ?_
          refine y_aload 60 c82_59 rfl rfl rfl ?_
          refine y_getX 63 (m (336 + k.toNat) 2) c82_60 rfl (ff336_2 (by omega)) (hFi (336 + k.toNat) 2 (wFy_h (by omega))) ?_
          have tb4565 := hT.atp (336 + k.toNat) 2 ((-1)) 47 (ft336_2 (by omega))
          refine y_aaload 64 c82_63 rfl kr9 (by omega) ?_
          refine y_iload 65 c82_64 rfl rfl ?_
          refine y_callUB 68 [.ref 8, .ref (10 + (m (336 + k.toNat) 2).toNat), yI i] [] c82_65 rfl rfl rfl rfl rfl (ycanO km79 ko8) (t79 hTi (fa10 (by omega)) (fun _ => fz10 (by omega)) (by omega) (by omega)) (fun mq4566 nq4566 hq4566 => ?_)
          obtain ⟨rfl, hTq4566, hFq4566, hq4566⟩ := hq4566
          have hF4567 := hFi.tr hFq4566 (wTe_wFy (by omega))
          refine y_iinc 71 c82_68 rfl rfl rfl ?_
          refine y_goto 2 c82_71 rfl ?_
          exact ih (m 316 14 - (i + 1) : Int).toNat (by omega) (i + 1)  _ (by omega) (by omega) hTq4566 hF4567
set_option maxRecDepth 100000 in
theorem t82_316 {L : Nat} {xs : Nat → Int32} {d nn : Nat} {m : yM} {k : Int} (hT : Ty gT m) (hp : m 8 4 = 1) (hk : 0 ≤ k ∧ k ≤ 39) (h2 : 0 ≤ m (336 + k.toNat) 2) (h3 : 0 ≤ m (336 + k.toNat) 3) : YC (gZ L xs) (d + 2) 82 [.ref 8, .ref (336 + k.toNat)] m nn (qU (fun m' n' => n' = nn ∧ Ty gT m' ∧ Fr wFy m m')) := by
  refine YC.mkB [some (.ref 8), some (.ref (336 + k.toNat)), none] kn82 rfl rfl ?_
  refine y_iconst 1 c82_0 rfl ?_
  refine y_istore 2 c82_1 rfl rfl ?_
  have tb := hT.atp 316 14 0 12 rfl
  exact t82a_316 hT hp hk h2 h3 (m 316 14 - 0).toNat 0 m (by omega) (by omega) hT Fr.rf
set_option maxRecDepth 100000 in
theorem t84a_316 {L : Nat} {xs : Nat → Int32} {d nn : Nat} {m : yM} {k : Int} (hT : Ty gT m) (hp : m 8 4 = 1) (hk : 0 ≤ k ∧ k ≤ 39) (h2 : 0 ≤ m (336 + k.toNat) 2) (h3 : 0 ≤ m (336 + k.toNat) 3) (h6 : m (336 + k.toNat) 6 ≤ 7) : ∀ (km : Nat) (i : Int) (mi : yM), m 316 14 - i = km → 0 ≤ i ∧ i ≤ m 316 14 → Ty gT mi → Fr wFy m mi → YW (gZ L xs) 84 (d + 2) 2 [some (.ref 8), some (.ref (336 + k.toNat)), some (yI i)] [] mi nn (qU (fun m' n' => n' = nn ∧ Ty gT m' ∧ Fr wFy m m')) := by
  intro km
  induction km using Nat.strongRecOn with
  | ind km ih =>
    intro i mi hk hi hTi hFi
    have tb := hT.atp 316 14 0 12 rfl
    refine y_iload 3 c84_2 rfl rfl ?_
    refine y_aload 4 c84_3 rfl rfl rfl ?_
    refine y_getS 7 (B := 316) c84_4 rfl kf8_4 (by first | rfl | (rw [show mi 8 4 = 1 from by have e : mi 8 4 = m 8 4 := (hFi 8 4 rfl); omega]; rfl)) ?_
    refine y_getX 10 (m 316 14) c84_7 rfl kf316_14 (hFi 316 14 rfl) ?_
    refine y_icmp 67 13 c84_10 rfl rfl (yc_ge (by omega) (by omega)) (fun hb4568 => ?_) (fun hb4568 => ?_)
    · exact y_retU c84_67 ⟨rfl, hTi, hFi⟩
    · refine y_aload 14 c84_13 rfl rfl rfl ?_
      refine y_aload 15 c84_14 rfl rfl rfl ?_
      refine y_getR 18 c84_15 rfl kf8_0 ?_
      refine y_aload 19 c84_18 rfl rfl rfl ?_
      refine y_getX 22 (m (336 + k.toNat) 3) c84_19 rfl (ff336_3 (by omega)) (hFi (336 + k.toNat) 3 (wFy_h (by omega))) ?_
      have tb4569 := hT.atp (336 + k.toNat) 3 ((-1)) 47 (ft336_3 (by omega))
      refine y_aaload 23 c84_22 rfl kr9 (by omega) ?_
      refine y_iload 24 c84_23 rfl rfl ?_
      refine y_iaT 25 ((-2147483648)) 2147483647 c84_24 rfl (fa10 (by omega)) (by omega) hTi (fz10 (by omega)) (fun v4570 hv4570 gv4570 => ?_)
      refine y_callP 28 [.ref 8, yI v4570] [] c84_25 rfl rfl rfl rfl rfl (ycanO km78 ko8) (t78 hTi (by omega)) (fun r4571 hr4571 => ?_)
      refine y_if 61 31 c84_28 rfl rfl (yz_eq (by omega)) (fun hb4572 => ?_) (fun hb4572 => ?_)
      · refine y_iinc 64 c84_61 rfl rfl rfl ?_
        refine y_goto 2 c84_64 rfl ?_
        exact ih (m 316 14 - (i + 1) : Int).toNat (by omega) (i + 1)  _ (by omega) (by omega) hTi hFi
      · refine y_aload 32 c84_31 rfl rfl rfl ?_
        refine y_getX 35 (m (336 + k.toNat) 6) c84_32 rfl (ff336_6 (by omega)) (hFi (336 + k.toNat) 6 (wFy_h (by omega))) ?_
        have tb4573 := hT.atp (336 + k.toNat) 6 ((-1)) 11 (ft336_6 (by omega))
        refine y_iconst 36 c84_35 rfl ?_
        refine y_icmp 61 39 c84_36 rfl rfl (yc_eq (by omega) (by omega)) (fun hb4574 => ?_) (fun hb4574 => ?_)
        · refine y_iinc 64 c84_61 rfl rfl rfl ?_
          refine y_goto 2 c84_64 rfl ?_
          exact ih (m 316 14 - (i + 1) : Int).toNat (by omega) (i + 1)  _ (by omega) (by omega) hTi hFi
        · refine y_aload 40 c84_39 rfl rfl rfl ?_
          refine y_aload 41 c84_40 rfl rfl rfl ?_
          refine y_iload 42 c84_41 rfl rfl ?_
          refine y_aload 43 c84_42 rfl rfl rfl ?_
          refine y_getX 46 (m (336 + k.toNat) 6) c84_43 rfl (ff336_6 (by omega)) (hFi (336 + k.toNat) 6 (wFy_h (by omega))) ?_
          refine y_callAB 49 [.ref 8, yI i, yI (m (336 + k.toNat) 6)] [.ref 8] c84_46 rfl rfl rfl rfl rfl (ycanO km83 ko8) (t83 (by omega) (by omega)) (fun Rq4575 mq4575 nq4575 hq4575 => ?_)
          obtain ⟨rfl, rfl, hmq4575⟩ := hq4575
          obtain rfl := hmq4575.symm
          refine y_aload 50 c84_49 rfl rfl rfl ?_
          refine y_getR 53 c84_50 rfl kf8_0 ?_
          refine y_aload 54 c84_53 rfl rfl rfl ?_
          refine y_getX 57 (m (336 + k.toNat) 2) c84_54 rfl (ff336_2 (by omega)) (hFi (336 + k.toNat) 2 (wFy_h (by omega))) ?_
          have tb4576 := hT.atp (336 + k.toNat) 2 ((-1)) 47 (ft336_2 (by omega))
          refine y_aaload 58 c84_57 rfl kr9 (by omega) ?_
          have es4578 : mi 8 4 = m 8 4 := (hFi 8 4 rfl)
          have tb4579 := hT.atp 8 4 ((-1)) 1 rfl
          refine y_callUB 61 [.ref 8, .ref (73 + (i * 8 + (m (336 + k.toNat) 6)).toNat), .ref (10 + (m (336 + k.toNat) 2).toNat)] [] c84_58 rfl rfl rfl rfl rfl (ycanO km80 ko8) (t80_316 hTi (by omega) (fa73 (by omega)) (fun _ => fz73 (by omega)) (fa10 (by omega)) (fun _ => fz10 (by omega)) (by omega)) (fun mq4577 nq4577 hq4577 => ?_)
          obtain ⟨rfl, hTq4577, hFq4577⟩ := hq4577
          have hF4580 := hFi.tr hFq4577 (wTe_wFy (by omega))
          refine y_iinc 64 c84_61 rfl rfl rfl ?_
          refine y_goto 2 c84_64 rfl ?_
          exact ih (m 316 14 - (i + 1) : Int).toNat (by omega) (i + 1)  _ (by omega) (by omega) hTq4577 hF4580
set_option maxRecDepth 100000 in
theorem t84_316 {L : Nat} {xs : Nat → Int32} {d nn : Nat} {m : yM} {k : Int} (hT : Ty gT m) (hp : m 8 4 = 1) (hk : 0 ≤ k ∧ k ≤ 39) (h2 : 0 ≤ m (336 + k.toNat) 2) (h3 : 0 ≤ m (336 + k.toNat) 3) (h6 : m (336 + k.toNat) 6 ≤ 7) : YC (gZ L xs) (d + 2) 84 [.ref 8, .ref (336 + k.toNat)] m nn (qU (fun m' n' => n' = nn ∧ Ty gT m' ∧ Fr wFy m m')) := by
  refine YC.mkB [some (.ref 8), some (.ref (336 + k.toNat)), none] kn84 rfl rfl ?_
  refine y_iconst 1 c84_0 rfl ?_
  refine y_istore 2 c84_1 rfl rfl ?_
  have tb := hT.atp 316 14 0 12 rfl
  exact t84a_316 hT hp hk h2 h3 h6 (m 316 14 - 0).toNat 0 m (by omega) (by omega) hT Fr.rf
set_option maxRecDepth 100000 in
theorem t85a_316 {L : Nat} {xs : Nat → Int32} {d nn : Nat} {m : yM} {k : Int} (hT : Ty gT m) (hp : m 8 4 = 1) (hk : 0 ≤ k ∧ k ≤ 39) (h2 : 0 ≤ m (336 + k.toNat) 2) (h3 : 0 ≤ m (336 + k.toNat) 3) (h6 : m (336 + k.toNat) 6 ≤ 7) : ∀ (km : Nat) (i : Int) (mi : yM), m 316 14 - i = km → 0 ≤ i ∧ i ≤ m 316 14 → Ty gT mi → Fr wFy m mi → YW (gZ L xs) 85 (d + 2) 2 [some (.ref 8), some (.ref (336 + k.toNat)), some (yI i)] [] mi nn (qU (fun m' n' => n' = nn ∧ Ty gT m' ∧ Fr wFy m m')) := by
  intro km
  induction km using Nat.strongRecOn with
  | ind km ih =>
    intro i mi hk hi hTi hFi
    have tb := hT.atp 316 14 0 12 rfl
    refine y_iload 3 c85_2 rfl rfl ?_
    refine y_aload 4 c85_3 rfl rfl rfl ?_
    refine y_getS 7 (B := 316) c85_4 rfl kf8_4 (by first | rfl | (rw [show mi 8 4 = 1 from by have e : mi 8 4 = m 8 4 := (hFi 8 4 rfl); omega]; rfl)) ?_
    refine y_getX 10 (m 316 14) c85_7 rfl kf316_14 (hFi 316 14 rfl) ?_
    refine y_icmp 82 13 c85_10 rfl rfl (yc_ge (by omega) (by omega)) (fun hb4581 => ?_) (fun hb4581 => ?_)
    · exact y_retU c85_82 ⟨rfl, hTi, hFi⟩
    · refine y_aload 14 c85_13 rfl rfl rfl ?_
      refine y_aload 15 c85_14 rfl rfl rfl ?_
      refine y_getR 18 c85_15 rfl kf8_0 ?_
      refine y_aload 19 c85_18 rfl rfl rfl ?_
      refine y_getX 22 (m (336 + k.toNat) 2) c85_19 rfl (ff336_2 (by omega)) (hFi (336 + k.toNat) 2 (wFy_h (by omega))) ?_
      have tb4582 := hT.atp (336 + k.toNat) 2 ((-1)) 47 (ft336_2 (by omega))
      refine y_aaload 23 c85_22 rfl kr9 (by omega) ?_
      refine y_iload 24 c85_23 rfl rfl ?_
      refine y_iaT 25 ((-2147483648)) 2147483647 c85_24 rfl (fa10 (by omega)) (by omega) hTi (fz10 (by omega)) (fun v4583 hv4583 gv4583 => ?_)
      refine y_callP 28 [.ref 8, yI v4583] [] c85_25 rfl rfl rfl rfl rfl (ycanO km78 ko8) (t78 hTi (by omega)) (fun r4584 hr4584 => ?_)
      refine y_if 76 31 c85_28 rfl rfl (yz_eq (by omega)) (fun hb4585 => ?_) (fun hb4585 => ?_)
      · refine y_iinc 79 c85_76 rfl rfl rfl ?_
        refine y_goto 2 c85_79 rfl ?_
        exact ih (m 316 14 - (i + 1) : Int).toNat (by omega) (i + 1)  _ (by omega) (by omega) hTi hFi
      · refine y_aload 32 c85_31 rfl rfl rfl ?_
        refine y_getS 35 (B := 316) c85_32 rfl kf8_4 (by first | rfl | (rw [show mi 8 4 = 1 from by have e : mi 8 4 = m 8 4 := (hFi 8 4 rfl); omega]; rfl)) ?_
        refine y_aload 36 c85_35 rfl rfl rfl ?_
        refine y_getS 39 (B := 316) c85_36 rfl kf8_4 (by first | rfl | (rw [show mi 8 4 = 1 from by have e : mi 8 4 = m 8 4 := (hFi 8 4 rfl); omega]; rfl)) ?_
        refine y_getR 42 c85_39 rfl kf316_7 ?_
        refine y_iload 43 c85_42 rfl rfl ?_
        refine y_iaT 44 0 5 c85_43 rfl ka324 (by omega) hTi rfl (fun v4586 hv4586 gv4586 => ?_)
        refine y_aload 45 c85_44 rfl rfl rfl ?_
        refine y_getX 48 (m (336 + k.toNat) 6) c85_45 rfl (ff336_6 (by omega)) (hFi (336 + k.toNat) 6 (wFy_h (by omega))) ?_
        have tb4587 := hT.atp (336 + k.toNat) 6 ((-1)) 11 (ft336_6 (by omega))
        refine y_callP 51 [.ref 316, yI v4586, yI (m (336 + k.toNat) 6)] [] c85_48 rfl rfl rfl rfl rfl (ycanO km47 ko316) (t47_316 hTi (by omega) (by omega)) (fun r4588 hr4588 => ?_)
        refine y_if 76 54 c85_51 rfl rfl (yz_eq (by omega)) (fun hb4589 => ?_) (fun hb4589 => ?_)
        · refine y_iinc 79 c85_76 rfl rfl rfl ?_
          refine y_goto 2 c85_79 rfl ?_
          exact ih (m 316 14 - (i + 1) : Int).toNat (by omega) (i + 1)  _ (by omega) (by omega) hTi hFi
        · refine y_aload 55 c85_54 rfl rfl rfl ?_
          refine y_aload 56 c85_55 rfl rfl rfl ?_
          refine y_getR 59 c85_56 rfl kf8_0 ?_
          refine y_aload 60 c85_59 rfl rfl rfl ?_
          refine y_getX 63 (m (336 + k.toNat) 3) c85_60 rfl (ff336_3 (by omega)) (hFi (336 + k.toNat) 3 (wFy_h (by omega))) ?_
          have tb4590 := hT.atp (336 + k.toNat) 3 ((-1)) 47 (ft336_3 (by omega))
          refine y_aaload 64 c85_63 rfl kr9 (by omega) ?_
          refine y_aload 65 c85_64 rfl rfl rfl ?_
          refine y_iload 66 c85_65 rfl rfl ?_
          refine y_aload 67 c85_66 rfl rfl rfl ?_
          refine y_getX 70 (m (336 + k.toNat) 6) c85_67 rfl (ff336_6 (by omega)) (hFi (336 + k.toNat) 6 (wFy_h (by omega))) ?_
          refine y_callAB 73 [.ref 8, yI i, yI (m (336 + k.toNat) 6)] [.ref (10 + (m (336 + k.toNat) 3).toNat), .ref 8] c85_70 rfl rfl rfl rfl rfl (ycanO km83 ko8) (t83 (by omega) (by omega)) (fun Rq4591 mq4591 nq4591 hq4591 => ?_)
          obtain ⟨rfl, rfl, hmq4591⟩ := hq4591
          obtain rfl := hmq4591.symm
          have es4593 : mi 8 4 = m 8 4 := (hFi 8 4 rfl)
          have tb4594 := hT.atp 8 4 ((-1)) 1 rfl
          refine y_callUB 76 [.ref 8, .ref (10 + (m (336 + k.toNat) 3).toNat), .ref (73 + (i * 8 + (m (336 + k.toNat) 6)).toNat)] [] c85_73 rfl rfl rfl rfl rfl (ycanO km80 ko8) (t80_316 hTi (by omega) (fa10 (by omega)) (fun _ => fz10 (by omega)) (fa73 (by omega)) (fun _ => fz73 (by omega)) (by omega)) (fun mq4592 nq4592 hq4592 => ?_)
          obtain ⟨rfl, hTq4592, hFq4592⟩ := hq4592
          have hF4595 := hFi.tr hFq4592 (wTe_wFy (by omega))
          refine y_iinc 79 c85_76 rfl rfl rfl ?_
          refine y_goto 2 c85_79 rfl ?_
          exact ih (m 316 14 - (i + 1) : Int).toNat (by omega) (i + 1)  _ (by omega) (by omega) hTq4592 hF4595
set_option maxRecDepth 100000 in
theorem t85_316 {L : Nat} {xs : Nat → Int32} {d nn : Nat} {m : yM} {k : Int} (hT : Ty gT m) (hp : m 8 4 = 1) (hk : 0 ≤ k ∧ k ≤ 39) (h2 : 0 ≤ m (336 + k.toNat) 2) (h3 : 0 ≤ m (336 + k.toNat) 3) (h6 : m (336 + k.toNat) 6 ≤ 7) : YC (gZ L xs) (d + 2) 85 [.ref 8, .ref (336 + k.toNat)] m nn (qU (fun m' n' => n' = nn ∧ Ty gT m' ∧ Fr wFy m m')) := by
  refine YC.mkB [some (.ref 8), some (.ref (336 + k.toNat)), none] kn85 rfl rfl ?_
  refine y_iconst 1 c85_0 rfl ?_
  refine y_istore 2 c85_1 rfl rfl ?_
  have tb := hT.atp 316 14 0 12 rfl
  exact t85a_316 hT hp hk h2 h3 h6 (m 316 14 - 0).toNat 0 m (by omega) (by omega) hT Fr.rf
set_option maxRecDepth 100000 in
theorem t86a_316 {L : Nat} {xs : Nat → Int32} {d nn : Nat} {m : yM} {k : Int} (hT : Ty gT m) (hp : m 8 4 = 1) (hk : 0 ≤ k ∧ k ≤ 39) (h3 : 0 ≤ m (336 + k.toNat) 3) (h6 : 0 ≤ m (336 + k.toNat) 6) (hn : ∀ k : Nat, (k : Int) < m 316 16 → m (336 + k) 6 ≤ 11) (hin : ∀ k' : Nat, (k' : Int) < m 316 16 → m (336 + k') 0 = 4 → m (336 + k') 6 = m (336 + k.toNat) 6 → k' = k.toNat) (h0 : ∀ k' : Nat, (k' : Int) < m 316 16 → m (336 + k') 0 = 4 → 0 ≤ m (336 + k') 6) (hG : GO 316 326 336 m) : ∀ (km : Nat) (i : Int) (x3 : Option Value) (mi : yM), m 316 14 - i = km → 0 ≤ i ∧ i ≤ m 316 14 → Ty gT mi → Fr wFx m mi → GO 316 326 336 mi → YW (gZ L xs) 86 (d + 2) 2 [some (.ref 8), some (.ref (336 + k.toNat)), some (yI i), x3] [] mi nn (qU (fun m' n' => n' = nn ∧ Ty gT m' ∧ Fr wFx m m' ∧ GO 316 326 336 m')) := by
  intro km
  induction km using Nat.strongRecOn with
  | ind km ih =>
    intro i x3 mi hk hi hTi hFi hGo
    have tb := hT.atp 316 14 0 12 rfl
    have hni : ∀ j : Nat, (j : Int) < mi 316 16 → mi (336 + j) 6 ≤ 11 := fun j hj => by rw [hFi 316 16 rfl] at hj; rw [hFi _ 6 (wFx_h (by omega))]; exact hn j hj
    have hini : ∀ j : Nat, (j : Int) < mi 316 16 → mi (336 + j) 0 = 4 → mi (336 + j) 6 = mi (336 + k.toNat) 6 → j = k.toNat := fun j hj => by rw [hFi 316 16 rfl] at hj; rw [hFi _ 0 (wFx_h (by omega)), hFi _ 6 (wFx_h (by omega)), hFi _ 6 (wFx_h (by omega))]; exact hin j hj
    have h0i : ∀ j : Nat, (j : Int) < mi 316 16 → mi (336 + j) 0 = 4 → 0 ≤ mi (336 + j) 6 := fun j hj => by rw [hFi 316 16 rfl] at hj; rw [hFi _ 0 (wFx_h (by omega)), hFi _ 6 (wFx_h (by omega))]; exact h0 j hj
    refine y_iload 3 c86_2 rfl rfl ?_
    refine y_aload 4 c86_3 rfl rfl rfl ?_
    refine y_getS 7 (B := 316) c86_4 rfl kf8_4 (by first | rfl | (rw [show mi 8 4 = 1 from by have e : mi 8 4 = m 8 4 := (hFi 8 4 rfl); omega]; rfl)) ?_
    refine y_getX 10 (m 316 14) c86_7 rfl kf316_14 (hFi 316 14 rfl) ?_
    refine y_icmp 112 13 c86_10 rfl rfl (yc_ge (by omega) (by omega)) (fun hb4596 => ?_) (fun hb4596 => ?_)
    · exact y_retU c86_112 ⟨rfl, hTi, hFi, hGo⟩
    · refine y_aload 14 c86_13 rfl rfl rfl ?_
      refine y_aload 15 c86_14 rfl rfl rfl ?_
      refine y_getR 18 c86_15 rfl kf8_0 ?_
      refine y_aload 19 c86_18 rfl rfl rfl ?_
      refine y_getX 22 (m (336 + k.toNat) 3) c86_19 rfl (ff336_3 (by omega)) (hFi (336 + k.toNat) 3 (wFx_h (by omega))) ?_
      have tb4597 := hT.atp (336 + k.toNat) 3 ((-1)) 47 (ft336_3 (by omega))
      refine y_aaload 23 c86_22 rfl kr9 (by omega) ?_
      refine y_iload 24 c86_23 rfl rfl ?_
      refine y_iaT 25 ((-2147483648)) 2147483647 c86_24 rfl (fa10 (by omega)) (by omega) hTi (fz10 (by omega)) (fun v4598 hv4598 gv4598 => ?_)
      refine y_callP 28 [.ref 8, yI v4598] [] c86_25 rfl rfl rfl rfl rfl (ycanO km78 ko8) (t78 hTi (by omega)) (fun r4599 hr4599 => ?_)
      refine y_if 106 31 c86_28 rfl rfl (yz_eq (by omega)) (fun hb4600 => ?_) (fun hb4600 => ?_)
      · refine y_iinc 109 c86_106 rfl rfl rfl ?_
        refine y_goto 2 c86_109 rfl ?_
        exact ih (m 316 14 - (i + 1) : Int).toNat (by omega) (i + 1) _  _ (by omega) (by omega) hTi hFi hGo
      · refine y_aload 32 c86_31 rfl rfl rfl ?_
        refine y_getS 35 (B := 316) c86_32 rfl kf8_4 (by first | rfl | (rw [show mi 8 4 = 1 from by have e : mi 8 4 = m 8 4 := (hFi 8 4 rfl); omega]; rfl)) ?_
        refine y_aload 36 c86_35 rfl rfl rfl ?_
        refine y_getS 39 (B := 316) c86_36 rfl kf8_4 (by first | rfl | (rw [show mi 8 4 = 1 from by have e : mi 8 4 = m 8 4 := (hFi 8 4 rfl); omega]; rfl)) ?_
        refine y_getR 42 c86_39 rfl kf316_7 ?_
        refine y_iload 43 c86_42 rfl rfl ?_
        refine y_iaT 44 0 5 c86_43 rfl ka324 (by omega) hTi rfl (fun v4601 hv4601 gv4601 => ?_)
        refine y_aload 45 c86_44 rfl rfl rfl ?_
        refine y_getX 48 (m (336 + k.toNat) 4) c86_45 rfl (ff336_4 (by omega)) (hFi (336 + k.toNat) 4 (wFx_h (by omega))) ?_
        have tb4602 := hT.atp (336 + k.toNat) 4 ((-2147483648)) 2147483647 (ft336_4 (by omega))
        refine y_aload 49 c86_48 rfl rfl rfl ?_
        refine y_getX 52 (m (336 + k.toNat) 8) c86_49 rfl (ff336_8 (by omega)) (hFi (336 + k.toNat) 8 (wFx_h (by omega))) ?_
        have tb4603 := hT.atp (336 + k.toNat) 8 0 2 (ft336_8 (by omega))
        have es4605 : mi 316 10 = m 316 10 := (hFi 316 10 rfl)
        have tb4606 := hT.atp 316 10 0 10 rfl
        refine y_callP 55 [.ref 316, yI v4601, yI (m (336 + k.toNat) 4), yI (m (336 + k.toNat) 8)] [] c86_52 rfl rfl rfl rfl rfl (ycanO km72 ko316) (t72_316 hTi (by omega) (by omega) (by omega)) (fun r4604 hr4604 => ?_)
        refine y_istore 56 c86_55 rfl rfl ?_
        refine y_iload 57 c86_56 rfl rfl ?_
        refine y_iconst 58 c86_57 rfl ?_
        refine y_icmp 106 61 c86_58 rfl rfl (yc_eq (by omega) (by omega)) (fun hb4607 => ?_) (fun hb4607 => ?_)
        · refine y_iinc 109 c86_106 rfl rfl rfl ?_
          refine y_goto 2 c86_109 rfl ?_
          exact ih (m 316 14 - (i + 1) : Int).toNat (by omega) (i + 1) _  _ (by omega) (by omega) hTi hFi hGo
        · refine y_aload 62 c86_61 rfl rfl rfl ?_
          refine y_aload 63 c86_62 rfl rfl rfl ?_
          refine y_getR 66 c86_63 rfl kf8_1 ?_
          refine y_aload 67 c86_66 rfl rfl rfl ?_
          refine y_getX 70 (m (336 + k.toNat) 6) c86_67 rfl (ff336_6 (by omega)) (hFi (336 + k.toNat) 6 (wFx_h (by omega))) ?_
          have tb4608 := hT.atp (336 + k.toNat) 6 ((-1)) 11 (ft336_6 (by omega))
          refine y_aaload 71 c86_70 rfl kr58 (by omega) ?_
          refine y_iload 72 c86_71 rfl rfl ?_
          refine y_callUB 75 [.ref 8, .ref (59 + (m (336 + k.toNat) 6).toNat), yI r4604] [] c86_72 rfl rfl rfl rfl rfl (ycanO km79 ko8) (t79 hTi (fa59 (by omega)) (fun _ => fz59 (by omega)) (by omega) (by omega)) (fun mq4609 nq4609 hq4609 => ?_)
          obtain ⟨rfl, hTq4609, hFq4609, hq4609⟩ := hq4609
          have hF4610 := hFi.tr hFq4609 (wTe_wFx (by omega))
          refine y_aload 76 c86_75 rfl rfl rfl ?_
          refine y_aload 77 c86_76 rfl rfl rfl ?_
          refine y_getR 80 c86_77 rfl kf8_2 ?_
          refine y_iload 81 c86_80 rfl rfl ?_
          refine y_callUB 84 [.ref 8, .ref 71, yI r4604] [] c86_81 rfl rfl rfl rfl rfl (ycanO km79 ko8) (t79 hTq4609 ka71 (fun _ => rfl) (by omega) (by omega)) (fun mq4611 nq4611 hq4611 => ?_)
          obtain ⟨rfl, hTq4611, hFq4611, hq4611⟩ := hq4611
          have hF4612 := hF4610.tr hFq4611 (wTe_wFx (by omega))
          refine y_aload 85 c86_84 rfl rfl rfl ?_
          refine y_aload 86 c86_85 rfl rfl rfl ?_
          refine y_getR 89 c86_86 rfl kf8_0 ?_
          refine y_aload 90 c86_89 rfl rfl rfl ?_
          refine y_getS 93 (B := 316) c86_90 rfl kf8_4 (by first | rfl | (rw [show mq4611 8 4 = 1 from by have e : mq4611 8 4 = m 8 4 := ((hFq4611 8 4 (wTe_n (by omega) (by decide))).trans ((hFq4609 8 4 (wTe_n (by omega) (by decide))).trans (hFi 8 4 rfl))); omega]; rfl)) ?_
          refine y_getR 96 c86_93 rfl kf316_5 ?_
          refine y_iload 97 c86_96 rfl rfl ?_
          refine y_aaload 98 c86_97 rfl kr322 (by omega) ?_
          refine y_callP 101 [.ref (326 + r4604.toNat)] [.ref 9, .ref 8] c86_98 rfl rfl rfl rfl rfl (ycanO km57 (fo326 (by omega))) (t57_316 hTq4611 (by omega)) (fun r4613 hr4613 => ?_)
          refine y_aaload 102 c86_101 rfl kr9 (by omega) ?_
          refine y_iload 103 c86_102 rfl rfl ?_
          refine y_callUB 106 [.ref 8, .ref (10 + r4613.toNat), yI i] [] c86_103 rfl rfl rfl rfl rfl (ycanO km79 ko8) (t79 hTq4611 (fa10 (by omega)) (fun _ => fz10 (by omega)) (by omega) (by omega)) (fun mq4614 nq4614 hq4614 => ?_)
          obtain ⟨rfl, hTq4614, hFq4614, hq4614⟩ := hq4614
          have hF4615 := hF4612.tr hFq4614 (wTe_wFx (by omega))
          refine y_iinc 109 c86_106 rfl rfl rfl ?_
          refine y_goto 2 c86_109 rfl ?_
          exact ih (m 316 14 - (i + 1) : Int).toNat (by omega) (i + 1) _  _ (by omega) (by omega) hTq4614 hF4615 ((hGo.tell (k := k.toNat) (j := r4604) (by omega) hni hini h0i (by have := hFi (336 + k.toNat) 6 (wFx_h (by omega)); omega) (by have := hTi.atp (336 + k.toNat) 6 (-1) 11 (ft336_6 (by omega)); omega) hFq4609 (by rw [hFi (336 + k.toNat) 6 (wFx_h (by omega))]) hq4609 (by have e1 := hr4604.2.2 (by omega); have e2 := hFi (336 + k.toNat) 8 (wFx_h (by omega)); omega)).fr (by omega) (fun j hj => by rw [hFq4609 316 16 (wTe_n (by omega) (by decide))] at hj; rw [hFq4609 (336 + j) 6 (wTe_n (by omega) (by omega))]; exact hni j hj) ((Fr.rf.tr hFq4611 (wTe_wFy (by omega))).tr hFq4614 (wTe_wFy (by omega))))
set_option maxRecDepth 100000 in
theorem t86_316 {L : Nat} {xs : Nat → Int32} {d nn : Nat} {m : yM} {k : Int} (hT : Ty gT m) (hp : m 8 4 = 1) (hk : 0 ≤ k ∧ k ≤ 39) (h3 : 0 ≤ m (336 + k.toNat) 3) (h6 : 0 ≤ m (336 + k.toNat) 6) (hn : ∀ k : Nat, (k : Int) < m 316 16 → m (336 + k) 6 ≤ 11) (hin : ∀ k' : Nat, (k' : Int) < m 316 16 → m (336 + k') 0 = 4 → m (336 + k') 6 = m (336 + k.toNat) 6 → k' = k.toNat) (h0 : ∀ k' : Nat, (k' : Int) < m 316 16 → m (336 + k') 0 = 4 → 0 ≤ m (336 + k') 6) (hG : GO 316 326 336 m) : YC (gZ L xs) (d + 2) 86 [.ref 8, .ref (336 + k.toNat)] m nn (qU (fun m' n' => n' = nn ∧ Ty gT m' ∧ Fr wFx m m' ∧ GO 316 326 336 m')) := by
  refine YC.mkB [some (.ref 8), some (.ref (336 + k.toNat)), none, none] kn86 rfl rfl ?_
  refine y_iconst 1 c86_0 rfl ?_
  refine y_istore 2 c86_1 rfl rfl ?_
  have tb := hT.atp 316 14 0 12 rfl
  exact t86a_316 hT hp hk h3 h6 hn hin h0 hG (m 316 14 - 0).toNat 0 none m (by omega) (by omega) hT Fr.rf hG
set_option maxRecDepth 100000 in
theorem t88_316 {L : Nat} {xs : Nat → Int32} {d nn : Nat} {m : yM} {k j : Int} (hT : Ty gT m) (hp : m 8 4 = 1) (hk : 0 ≤ k ∧ k ≤ 39) (hj : 0 ≤ j ∧ j ≤ 9) (hM : MP 326 m) (h8 : m (326 + j.toNat) 3 = m (336 + k.toNat) 8) (h9 : 1 ≤ m (336 + k.toNat) 8 → 0 ≤ m (336 + k.toNat) 9) (h10 : 2 ≤ m (336 + k.toNat) 8 → 0 ≤ m (336 + k.toNat) 10) : YC (gZ L xs) (d + 2) 88 [.ref 8, .ref (336 + k.toNat), .ref (326 + j.toNat)] m nn (qU (fun m' n' => n' = nn ∧ Ty gT m' ∧ Fr wFy m m')) := by
  refine YC.mkB [some (.ref 8), some (.ref (336 + k.toNat)), some (.ref (326 + j.toNat))] kn88 rfl rfl ?_
  have hF : Fr wFy m m := Fr.rf
  refine y_aload 1 c88_0 rfl rfl rfl ?_
  refine y_getX 4 (m (336 + k.toNat) 8) c88_1 rfl (ff336_8 (by omega)) rfl ?_
  have tb4616 := hT.atp (336 + k.toNat) 8 0 2 (ft336_8 (by omega))
  refine y_if 30 7 c88_4 rfl rfl (yz_le (by omega)) (fun hb4617 => ?_) (fun hb4617 => ?_)
  · refine y_aload 31 c88_30 rfl rfl rfl ?_
    refine y_getX 34 (m (336 + k.toNat) 8) c88_31 rfl (ff336_8 (by omega)) rfl ?_
    refine y_iconst 35 c88_34 rfl ?_
    refine y_icmp 61 38 c88_35 rfl rfl (yc_le (by omega) (by omega)) (fun hb4618 => ?_) (fun hb4618 => ?_)
    · refine y_aload 62 c88_61 rfl rfl rfl ?_
      refine y_getX 65 (m (336 + k.toNat) 2) c88_62 rfl (ff336_2 (by omega)) rfl ?_
      have tb4619 := hT.atp (336 + k.toNat) 2 ((-1)) 47 (ft336_2 (by omega))
      refine y_iconst 66 c88_65 rfl ?_
      refine y_icmp 91 69 c88_66 rfl rfl (yc_eq (by omega) (by omega)) (fun hb4620 => ?_) (fun hb4620 => ?_)
      · exact y_retU c88_91 ⟨rfl, hT, hF⟩
      · refine y_aload 70 c88_69 rfl rfl rfl ?_
        refine y_aload 71 c88_70 rfl rfl rfl ?_
        refine y_getR 74 c88_71 rfl kf8_0 ?_
        refine y_aload 75 c88_74 rfl rfl rfl ?_
        refine y_getX 78 (m (326 + j.toNat) 2) c88_75 rfl (ff326_2 (by omega)) rfl ?_
        have tb4621 := hT.atp (326 + j.toNat) 2 0 46 (ft326_2 (by omega))
        refine y_aaload 79 c88_78 rfl kr9 (by omega) ?_
        refine y_aload 80 c88_79 rfl rfl rfl ?_
        refine y_getR 83 c88_80 rfl kf8_0 ?_
        refine y_aload 84 c88_83 rfl rfl rfl ?_
        refine y_getX 87 (m (336 + k.toNat) 2) c88_84 rfl (ff336_2 (by omega)) rfl ?_
        refine y_aaload 88 c88_87 rfl kr9 (by omega) ?_
        have tb4623 := hT.atp 8 4 ((-1)) 1 rfl
        refine y_callUB 91 [.ref 8, .ref (10 + (m (326 + j.toNat) 2).toNat), .ref (10 + (m (336 + k.toNat) 2).toNat)] [] c88_88 rfl rfl rfl rfl rfl (ycanO km80 ko8) (t80_316 hT (by omega) (fa10 (by omega)) (fun _ => fz10 (by omega)) (fa10 (by omega)) (fun _ => fz10 (by omega)) (by omega)) (fun mq4622 nq4622 hq4622 => ?_)
        obtain ⟨rfl, hTq4622, hFq4622⟩ := hq4622
        have hF4624 := hF.tr hFq4622 (wTe_wFy (by omega))
        exact y_retU c88_91 ⟨rfl, hTq4622, hF4624⟩
    · exfalso; omega
  · refine y_aload 8 c88_7 rfl rfl rfl ?_
    refine y_aload 9 c88_8 rfl rfl rfl ?_
    refine y_getR 12 c88_9 rfl kf8_0 ?_
    refine y_aload 13 c88_12 rfl rfl rfl ?_
    refine y_getX 16 (m (336 + k.toNat) 9) c88_13 rfl (ff336_9 (by omega)) rfl ?_
    have tb4625 := hT.atp (336 + k.toNat) 9 ((-1)) 47 (ft336_9 (by omega))
    refine y_aaload 17 c88_16 rfl kr9 (by omega) ?_
    refine y_aload 18 c88_17 rfl rfl rfl ?_
    refine y_getR 21 c88_18 rfl kf8_0 ?_
    refine y_aload 22 c88_21 rfl rfl rfl ?_
    refine y_iconst 23 c88_22 rfl ?_
    have tb4627 := hT.atp (326 + j.toNat) 3 0 2 (ft326_3 (by omega))
    refine y_callP 26 [.ref (326 + j.toNat), yI 0] [.ref 9, .ref (10 + (m (336 + k.toNat) 9).toNat), .ref 8] c88_23 rfl rfl rfl rfl rfl (ycanO km87 (fo326 (by omega))) (t87_316 hT (by omega) (by omega) hM) (fun r4626 hr4626 => ?_)
    refine y_aaload 27 c88_26 rfl kr9 (by omega) ?_
    have tb4629 := hT.atp 8 4 ((-1)) 1 rfl
    refine y_callUB 30 [.ref 8, .ref (10 + (m (336 + k.toNat) 9).toNat), .ref (10 + r4626.toNat)] [] c88_27 rfl rfl rfl rfl rfl (ycanO km80 ko8) (t80_316 hT (by omega) (fa10 (by omega)) (fun _ => fz10 (by omega)) (fa10 (by omega)) (fun _ => fz10 (by omega)) (by omega)) (fun mq4628 nq4628 hq4628 => ?_)
    obtain ⟨rfl, hTq4628, hFq4628⟩ := hq4628
    have hF4630 := hF.tr hFq4628 (wTe_wFy (by omega))
    refine y_aload 31 c88_30 rfl rfl rfl ?_
    refine y_getX 34 (m (336 + k.toNat) 8) c88_31 rfl (ff336_8 (by omega)) (hFq4628 (336 + k.toNat) 8 (wTe_n (by omega) (by omega))) ?_
    refine y_iconst 35 c88_34 rfl ?_
    refine y_icmp 61 38 c88_35 rfl rfl (yc_le (by omega) (by omega)) (fun hb4631 => ?_) (fun hb4631 => ?_)
    · refine y_aload 62 c88_61 rfl rfl rfl ?_
      refine y_getX 65 (m (336 + k.toNat) 2) c88_62 rfl (ff336_2 (by omega)) (hFq4628 (336 + k.toNat) 2 (wTe_n (by omega) (by omega))) ?_
      have tb4632 := hT.atp (336 + k.toNat) 2 ((-1)) 47 (ft336_2 (by omega))
      refine y_iconst 66 c88_65 rfl ?_
      refine y_icmp 91 69 c88_66 rfl rfl (yc_eq (by omega) (by omega)) (fun hb4633 => ?_) (fun hb4633 => ?_)
      · exact y_retU c88_91 ⟨rfl, hTq4628, hF4630⟩
      · refine y_aload 70 c88_69 rfl rfl rfl ?_
        refine y_aload 71 c88_70 rfl rfl rfl ?_
        refine y_getR 74 c88_71 rfl kf8_0 ?_
        refine y_aload 75 c88_74 rfl rfl rfl ?_
        refine y_getX 78 (m (326 + j.toNat) 2) c88_75 rfl (ff326_2 (by omega)) (hFq4628 (326 + j.toNat) 2 (wTe_n (by omega) (by omega))) ?_
        have tb4634 := hT.atp (326 + j.toNat) 2 0 46 (ft326_2 (by omega))
        refine y_aaload 79 c88_78 rfl kr9 (by omega) ?_
        refine y_aload 80 c88_79 rfl rfl rfl ?_
        refine y_getR 83 c88_80 rfl kf8_0 ?_
        refine y_aload 84 c88_83 rfl rfl rfl ?_
        refine y_getX 87 (m (336 + k.toNat) 2) c88_84 rfl (ff336_2 (by omega)) (hFq4628 (336 + k.toNat) 2 (wTe_n (by omega) (by omega))) ?_
        refine y_aaload 88 c88_87 rfl kr9 (by omega) ?_
        have es4636 : mq4628 8 4 = m 8 4 := (hFq4628 8 4 (wTe_n (by omega) (by decide)))
        refine y_callUB 91 [.ref 8, .ref (10 + (m (326 + j.toNat) 2).toNat), .ref (10 + (m (336 + k.toNat) 2).toNat)] [] c88_88 rfl rfl rfl rfl rfl (ycanO km80 ko8) (t80_316 hTq4628 (by omega) (fa10 (by omega)) (fun _ => fz10 (by omega)) (fa10 (by omega)) (fun _ => fz10 (by omega)) (by omega)) (fun mq4635 nq4635 hq4635 => ?_)
        obtain ⟨rfl, hTq4635, hFq4635⟩ := hq4635
        have hF4637 := hF4630.tr hFq4635 (wTe_wFy (by omega))
        exact y_retU c88_91 ⟨rfl, hTq4635, hF4637⟩
    · refine y_aload 39 c88_38 rfl rfl rfl ?_
      refine y_aload 40 c88_39 rfl rfl rfl ?_
      refine y_getR 43 c88_40 rfl kf8_0 ?_
      refine y_aload 44 c88_43 rfl rfl rfl ?_
      refine y_getX 47 (m (336 + k.toNat) 10) c88_44 rfl (ff336_10 (by omega)) (hFq4628 (336 + k.toNat) 10 (wTe_n (by omega) (by omega))) ?_
      have tb4638 := hT.atp (336 + k.toNat) 10 ((-1)) 47 (ft336_10 (by omega))
      refine y_aaload 48 c88_47 rfl kr9 (by omega) ?_
      refine y_aload 49 c88_48 rfl rfl rfl ?_
      refine y_getR 52 c88_49 rfl kf8_0 ?_
      refine y_aload 53 c88_52 rfl rfl rfl ?_
      refine y_iconst 54 c88_53 rfl ?_
      have es4640 : mq4628 (326 + j.toNat) 3 = m (326 + j.toNat) 3 := (hFq4628 (326 + j.toNat) 3 (wTe_n (by omega) (by omega)))
      refine y_callP 57 [.ref (326 + j.toNat), yI 1] [.ref 9, .ref (10 + (m (336 + k.toNat) 10).toNat), .ref 8] c88_54 rfl rfl rfl rfl rfl (ycanO km87 (fo326 (by omega))) (t87_316 hTq4628 (by omega) (by omega) (hM.fr (fun k hk => hFq4628 _ _ (wTe_n (by omega) (by omega))) (fun k hk => hFq4628 _ _ (wTe_n (by omega) (by omega))))) (fun r4639 hr4639 => ?_)
      refine y_aaload 58 c88_57 rfl kr9 (by omega) ?_
      have es4642 : mq4628 8 4 = m 8 4 := (hFq4628 8 4 (wTe_n (by omega) (by decide)))
      refine y_callUB 61 [.ref 8, .ref (10 + (m (336 + k.toNat) 10).toNat), .ref (10 + r4639.toNat)] [] c88_58 rfl rfl rfl rfl rfl (ycanO km80 ko8) (t80_316 hTq4628 (by omega) (fa10 (by omega)) (fun _ => fz10 (by omega)) (fa10 (by omega)) (fun _ => fz10 (by omega)) (by omega)) (fun mq4641 nq4641 hq4641 => ?_)
      obtain ⟨rfl, hTq4641, hFq4641⟩ := hq4641
      have hF4643 := hF4630.tr hFq4641 (wTe_wFy (by omega))
      refine y_aload 62 c88_61 rfl rfl rfl ?_
      refine y_getX 65 (m (336 + k.toNat) 2) c88_62 rfl (ff336_2 (by omega)) ((hFq4641 (336 + k.toNat) 2 (wTe_n (by omega) (by omega))).trans (hFq4628 (336 + k.toNat) 2 (wTe_n (by omega) (by omega)))) ?_
      have tb4644 := hT.atp (336 + k.toNat) 2 ((-1)) 47 (ft336_2 (by omega))
      refine y_iconst 66 c88_65 rfl ?_
      refine y_icmp 91 69 c88_66 rfl rfl (yc_eq (by omega) (by omega)) (fun hb4645 => ?_) (fun hb4645 => ?_)
      · exact y_retU c88_91 ⟨rfl, hTq4641, hF4643⟩
      · refine y_aload 70 c88_69 rfl rfl rfl ?_
        refine y_aload 71 c88_70 rfl rfl rfl ?_
        refine y_getR 74 c88_71 rfl kf8_0 ?_
        refine y_aload 75 c88_74 rfl rfl rfl ?_
        refine y_getX 78 (m (326 + j.toNat) 2) c88_75 rfl (ff326_2 (by omega)) ((hFq4641 (326 + j.toNat) 2 (wTe_n (by omega) (by omega))).trans (hFq4628 (326 + j.toNat) 2 (wTe_n (by omega) (by omega)))) ?_
        have tb4646 := hT.atp (326 + j.toNat) 2 0 46 (ft326_2 (by omega))
        refine y_aaload 79 c88_78 rfl kr9 (by omega) ?_
        refine y_aload 80 c88_79 rfl rfl rfl ?_
        refine y_getR 83 c88_80 rfl kf8_0 ?_
        refine y_aload 84 c88_83 rfl rfl rfl ?_
        refine y_getX 87 (m (336 + k.toNat) 2) c88_84 rfl (ff336_2 (by omega)) ((hFq4641 (336 + k.toNat) 2 (wTe_n (by omega) (by omega))).trans (hFq4628 (336 + k.toNat) 2 (wTe_n (by omega) (by omega)))) ?_
        refine y_aaload 88 c88_87 rfl kr9 (by omega) ?_
        have es4648 : mq4641 8 4 = m 8 4 := ((hFq4641 8 4 (wTe_n (by omega) (by decide))).trans (hFq4628 8 4 (wTe_n (by omega) (by decide))))
        refine y_callUB 91 [.ref 8, .ref (10 + (m (326 + j.toNat) 2).toNat), .ref (10 + (m (336 + k.toNat) 2).toNat)] [] c88_88 rfl rfl rfl rfl rfl (ycanO km80 ko8) (t80_316 hTq4641 (by omega) (fa10 (by omega)) (fun _ => fz10 (by omega)) (fa10 (by omega)) (fun _ => fz10 (by omega)) (by omega)) (fun mq4647 nq4647 hq4647 => ?_)
        obtain ⟨rfl, hTq4647, hFq4647⟩ := hq4647
        have hF4649 := hF4643.tr hFq4647 (wTe_wFy (by omega))
        exact y_retU c88_91 ⟨rfl, hTq4647, hF4649⟩
set_option maxRecDepth 100000 in
theorem t89a_316 {L : Nat} {xs : Nat → Int32} {d nn : Nat} {m : yM} {k : Int} (hT : Ty gT m) (hp : m 8 4 = 1) (hk : 0 ≤ k ∧ k ≤ 39) (hkc : k < m 316 16) (h4 : m (336 + k.toNat) 0 = 4) (h6 : 0 ≤ m (336 + k.toNat) 6) (hM : MP 326 m) (h9 : 1 ≤ m (336 + k.toNat) 8 → 0 ≤ m (336 + k.toNat) 9) (h10 : 2 ≤ m (336 + k.toNat) 8 → 0 ≤ m (336 + k.toNat) 10) (hG : GO 316 326 336 m) : ∀ (km : Nat) (i : Int) (mi : yM), m 316 10 - i = km → 0 ≤ i ∧ i ≤ m 316 10 → Ty gT mi → Fr wFy m mi → YW (gZ L xs) 89 (d + 3) 2 [some (.ref 8), some (.ref (336 + k.toNat)), some (yI i)] [] mi nn (qU (fun m' n' => n' = nn ∧ Ty gT m' ∧ Fr wFy m m')) := by
  intro km
  induction km using Nat.strongRecOn with
  | ind km ih =>
    intro i mi hk hi hTi hFi
    have tb := hT.atp 316 10 0 10 rfl
    refine y_iload 3 c89_2 rfl rfl ?_
    refine y_aload 4 c89_3 rfl rfl rfl ?_
    refine y_getS 7 (B := 316) c89_4 rfl kf8_4 (by first | rfl | (rw [show mi 8 4 = 1 from by have e : mi 8 4 = m 8 4 := (hFi 8 4 rfl); omega]; rfl)) ?_
    refine y_getX 10 (m 316 10) c89_7 rfl kf316_10 (hFi 316 10 rfl) ?_
    refine y_icmp 51 13 c89_10 rfl rfl (yc_ge (by omega) (by omega)) (fun hb4650 => ?_) (fun hb4650 => ?_)
    · exact y_retU c89_51 ⟨rfl, hTi, hFi⟩
    · refine y_aload 14 c89_13 rfl rfl rfl ?_
      refine y_aload 15 c89_14 rfl rfl rfl ?_
      refine y_getR 18 c89_15 rfl kf8_1 ?_
      refine y_aload 19 c89_18 rfl rfl rfl ?_
      refine y_getX 22 (m (336 + k.toNat) 6) c89_19 rfl (ff336_6 (by omega)) (hFi (336 + k.toNat) 6 (wFy_h (by omega))) ?_
      have tb4651 := hT.atp (336 + k.toNat) 6 ((-1)) 11 (ft336_6 (by omega))
      refine y_aaload 23 c89_22 rfl kr58 (by omega) ?_
      refine y_iload 24 c89_23 rfl rfl ?_
      refine y_iaT 25 ((-2147483648)) 2147483647 c89_24 rfl (fa59 (by omega)) (by omega) hTi (fz59 (by omega)) (fun v4652 hv4652 gv4652 => ?_)
      refine y_callP 28 [.ref 8, yI v4652] [] c89_25 rfl rfl rfl rfl rfl (ycanO km78 ko8) (t78 hTi (by omega)) (fun r4653 hr4653 => ?_)
      refine y_if 45 31 c89_28 rfl rfl (yz_eq (by omega)) (fun hb4654 => ?_) (fun hb4654 => ?_)
      · refine y_iinc 48 c89_45 rfl rfl rfl ?_
        refine y_goto 2 c89_48 rfl ?_
        exact ih (m 316 10 - (i + 1) : Int).toNat (by omega) (i + 1)  _ (by omega) (by omega) hTi hFi
      · refine y_aload 32 c89_31 rfl rfl rfl ?_
        refine y_aload 33 c89_32 rfl rfl rfl ?_
        refine y_aload 34 c89_33 rfl rfl rfl ?_
        refine y_getS 37 (B := 316) c89_34 rfl kf8_4 (by first | rfl | (rw [show mi 8 4 = 1 from by have e : mi 8 4 = m 8 4 := (hFi 8 4 rfl); omega]; rfl)) ?_
        refine y_getR 40 c89_37 rfl kf316_5 ?_
        refine y_iload 41 c89_40 rfl rfl ?_
        refine y_aaload 42 c89_41 rfl kr322 (by omega) ?_
        have es4656 : mi 8 4 = m 8 4 := (hFi 8 4 rfl)
        have tb4657 := hT.atp 8 4 ((-1)) 1 rfl
        have es4658 : mi (336 + k.toNat) 8 = m (336 + k.toNat) 8 := (hFi (336 + k.toNat) 8 (wFy_h (by omega)))
        have tb4659 := hT.atp (336 + k.toNat) 8 0 2 (ft336_8 (by omega))
        have es4660 : mi (336 + k.toNat) 9 = m (336 + k.toNat) 9 := (hFi (336 + k.toNat) 9 (wFy_h (by omega)))
        have tb4661 := hT.atp (336 + k.toNat) 9 ((-1)) 47 (ft336_9 (by omega))
        have es4662 : mi (336 + k.toNat) 10 = m (336 + k.toNat) 10 := (hFi (336 + k.toNat) 10 (wFy_h (by omega)))
        have tb4663 := hT.atp (336 + k.toNat) 10 ((-1)) 47 (ft336_10 (by omega))
        have es4664 : mi (326 + i.toNat) 3 = m (326 + i.toNat) 3 := (hFi (326 + i.toNat) 3 (wFy_h (by omega)))
        have tb4665 := hT.atp (326 + i.toNat) 3 0 2 (ft326_3 (by omega))
        have hg3 := hG k.toNat (by omega) h4 i.toNat (by omega) (by rw [hFi _ _ (wFy_g (by omega))] at hv4652; omega)
        refine y_callUB 45 [.ref 8, .ref (336 + k.toNat), .ref (326 + i.toNat)] [] c89_42 rfl rfl rfl rfl rfl (ycanO km88 ko8) (t88_316 (k := k) (j := i) hTi (by omega) (by omega) (by omega) (hM.fr (fun k hk => hFi _ _ (wFy_h (by omega))) (fun k hk => hFi _ _ (wFy_h (by omega)))) (by omega) (by omega) (by omega)) (fun mq4655 nq4655 hq4655 => ?_)
        obtain ⟨rfl, hTq4655, hFq4655⟩ := hq4655
        have hF4666 := hFi.tr hFq4655 (fun _ _ e => e)
        refine y_iinc 48 c89_45 rfl rfl rfl ?_
        refine y_goto 2 c89_48 rfl ?_
        exact ih (m 316 10 - (i + 1) : Int).toNat (by omega) (i + 1)  _ (by omega) (by omega) hTq4655 hF4666
set_option maxRecDepth 100000 in
theorem t89_316 {L : Nat} {xs : Nat → Int32} {d nn : Nat} {m : yM} {k : Int} (hT : Ty gT m) (hp : m 8 4 = 1) (hk : 0 ≤ k ∧ k ≤ 39) (hkc : k < m 316 16) (h4 : m (336 + k.toNat) 0 = 4) (h6 : 0 ≤ m (336 + k.toNat) 6) (hM : MP 326 m) (h9 : 1 ≤ m (336 + k.toNat) 8 → 0 ≤ m (336 + k.toNat) 9) (h10 : 2 ≤ m (336 + k.toNat) 8 → 0 ≤ m (336 + k.toNat) 10) (hG : GO 316 326 336 m) : YC (gZ L xs) (d + 3) 89 [.ref 8, .ref (336 + k.toNat)] m nn (qU (fun m' n' => n' = nn ∧ Ty gT m' ∧ Fr wFy m m')) := by
  refine YC.mkB [some (.ref 8), some (.ref (336 + k.toNat)), none] kn89 rfl rfl ?_
  refine y_iconst 1 c89_0 rfl ?_
  refine y_istore 2 c89_1 rfl rfl ?_
  have tb := hT.atp 316 10 0 10 rfl
  exact t89a_316 hT hp hk hkc h4 h6 hM h9 h10 hG (m 316 10 - 0).toNat 0 m (by omega) (by omega) hT Fr.rf
set_option maxRecDepth 100000 in
theorem t90_316 {L : Nat} {xs : Nat → Int32} {d nn : Nat} {m : yM} {k : Int} (hT : Ty gT m) (hp : m 8 4 = 1) (hk : 0 ≤ k ∧ k ≤ 39) (hkc : k < m 316 16) (hM : MP 326 m) (hR : RG 336 325 m 0 (m 316 16) 0 (m 316 12) 0 (m 316 13)) (hL : NL 336 m 0 (m 316 16)) (hG : GO 316 326 336 m) : YC (gZ L xs) (d + 4) 90 [.ref 8, .ref (336 + k.toNat)] m nn (qU (fun m' n' => n' = nn ∧ Ty gT m' ∧ Fr wFx m m' ∧ GO 316 326 336 m')) := by
  have tb16 := hT.atp 316 16 0 40 rfl
  have hn : ∀ k : Nat, (k : Int) < m 316 16 → m (336 + k) 6 ≤ 11 := fun k hk => (hT.atp (336 + k) 6 (-1) 11 (ft336_6 (by omega))).2
  have h0 : ∀ k' : Nat, (k' : Int) < m 316 16 → m (336 + k') 0 = 4 → 0 ≤ m (336 + k') 6 := fun k' hk' h4 => ((hR.1 k' (by omega) hk').2 h4).1
  have hin : m (336 + k.toNat) 0 = 4 → ∀ k' : Nat, (k' : Int) < m 316 16 → m (336 + k') 0 = 4 → m (336 + k') 6 = m (336 + k.toNat) 6 → k' = k.toNat := by
    intro h4 k' hk' h4' h6
    rcases Nat.lt_trichotomy k' k.toNat with q | q | q
    · have := hR.2.1 k' k.toNat (by omega) q (by omega) h4' h4; omega
    · exact q
    · have := hR.2.1 k.toNat k' (by omega) q (by omega) h4 h4'; omega
  have hsv := (hR.1 k.toNat (by omega) (by omega)).1
  unfold SV at hsv
  obtain ⟨s1, s2, s3, s4, s5⟩ := hsv
  have hl := hL k.toNat (by omega) (by omega)
  refine YC.mkB [some (.ref 8), some (.ref (336 + k.toNat))] kn90 rfl rfl ?_
  have hF : Fr wFx m m := Fr.rf
  refine y_aload 1 c90_0 rfl rfl rfl ?_
  refine y_getX 4 (m (336 + k.toNat) 0) c90_1 rfl (ff336_0 (by omega)) rfl ?_
  have tb4667 := hT.atp (336 + k.toNat) 0 0 9 (ft336_0 (by omega))
  by_cases hk4668 : m (336 + k.toNat) 0 = 2
  · refine y_top 2 hk4668 ?_
    refine y_tsw 72 c90_4 (by decide) (by decide) rfl rfl ?_
    refine y_aload 73 c90_72 rfl rfl rfl ?_
    refine y_aload 74 c90_73 rfl rfl rfl ?_
    refine y_getR 77 c90_74 rfl kf8_0 ?_
    refine y_aload 78 c90_77 rfl rfl rfl ?_
    refine y_getX 81 (m (336 + k.toNat) 3) c90_78 rfl (ff336_3 (by omega)) rfl ?_
    have tb4669 := hT.atp (336 + k.toNat) 3 ((-1)) 47 (ft336_3 (by omega))
    refine y_aaload 82 c90_81 rfl kr9 (by omega) ?_
    refine y_aload 83 c90_82 rfl rfl rfl ?_
    refine y_getR 86 c90_83 rfl kf8_0 ?_
    refine y_aload 87 c90_86 rfl rfl rfl ?_
    refine y_getX 90 (m (336 + k.toNat) 2) c90_87 rfl (ff336_2 (by omega)) rfl ?_
    have tb4670 := hT.atp (336 + k.toNat) 2 ((-1)) 47 (ft336_2 (by omega))
    refine y_aaload 91 c90_90 rfl kr9 (by omega) ?_
    have tb4672 := hT.atp 8 4 ((-1)) 1 rfl
    refine y_callUB 94 [.ref 8, .ref (10 + (m (336 + k.toNat) 3).toNat), .ref (10 + (m (336 + k.toNat) 2).toNat)] [] c90_91 rfl rfl rfl rfl rfl (ycanO km80 ko8) (t80_316 hT (by omega) (fa10 (by omega)) (fun _ => fz10 (by omega)) (fa10 (by omega)) (fun _ => fz10 (by omega)) (by omega)) (fun mq4671 nq4671 hq4671 => ?_)
    obtain ⟨rfl, hTq4671, hFq4671⟩ := hq4671
    have hF4673 := hF.tr hFq4671 (wTe_wFx (by omega))
    refine y_goto 134 c90_94 rfl ?_
    exact y_retU c90_134 ⟨rfl, hTq4671, hF4673, (hG.fr (by omega) hn (Fr.rf.tr hFq4671 (wTe_wFy (by omega))))⟩
  by_cases hk4674 : m (336 + k.toNat) 0 = 3
  · refine y_top 3 hk4674 ?_
    refine y_tsw 113 c90_4 (by decide) (by decide) rfl rfl ?_
    refine y_aload 114 c90_113 rfl rfl rfl ?_
    refine y_aload 115 c90_114 rfl rfl rfl ?_
    have tb4676 := hT.atp 8 4 ((-1)) 1 rfl
    have tb4677 := hT.atp 316 16 0 40 rfl
    have tb4678 := hT.atp 316 10 0 10 rfl
    have tb4679 := hT.atp (336 + k.toNat) 2 ((-1)) 47 (ft336_2 (by omega))
    have tb4680 := hT.atp (336 + k.toNat) 3 ((-1)) 47 (ft336_3 (by omega))
    have tb4681 := hT.atp (336 + k.toNat) 6 ((-1)) 11 (ft336_6 (by omega))
    have tb4682 := hT.atp (336 + k.toNat) 8 0 2 (ft336_8 (by omega))
    have tb4683 := hT.atp (336 + k.toNat) 9 ((-1)) 47 (ft336_9 (by omega))
    have tb4684 := hT.atp (336 + k.toNat) 10 ((-1)) 47 (ft336_10 (by omega))
    refine y_callUB 118 [.ref 8, .ref (336 + k.toNat)] [] c90_115 rfl rfl rfl rfl rfl (ycanO km85 ko8) (t85_316 (k := k) hT (by omega) (by omega) (by omega) (by omega) (by omega)) (fun mq4675 nq4675 hq4675 => ?_)
    obtain ⟨rfl, hTq4675, hFq4675⟩ := hq4675
    have hF4685 := hF.tr hFq4675 wFy_wFx
    refine y_goto 134 c90_118 rfl ?_
    exact y_retU c90_134 ⟨rfl, hTq4675, hF4685, (hG.fr (by omega) hn hFq4675)⟩
  by_cases hk4686 : m (336 + k.toNat) 0 = 4
  · refine y_top 4 hk4686 ?_
    refine y_tsw 121 c90_4 (by decide) (by decide) rfl rfl ?_
    refine y_aload 122 c90_121 rfl rfl rfl ?_
    refine y_aload 123 c90_122 rfl rfl rfl ?_
    have tb4688 := hT.atp 8 4 ((-1)) 1 rfl
    have tb4689 := hT.atp 316 16 0 40 rfl
    have tb4690 := hT.atp 316 10 0 10 rfl
    have tb4691 := hT.atp (336 + k.toNat) 2 ((-1)) 47 (ft336_2 (by omega))
    have tb4692 := hT.atp (336 + k.toNat) 3 ((-1)) 47 (ft336_3 (by omega))
    have tb4693 := hT.atp (336 + k.toNat) 6 ((-1)) 11 (ft336_6 (by omega))
    have tb4694 := hT.atp (336 + k.toNat) 8 0 2 (ft336_8 (by omega))
    have tb4695 := hT.atp (336 + k.toNat) 9 ((-1)) 47 (ft336_9 (by omega))
    have tb4696 := hT.atp (336 + k.toNat) 10 ((-1)) 47 (ft336_10 (by omega))
    refine y_callUB 126 [.ref 8, .ref (336 + k.toNat)] [] c90_123 rfl rfl rfl rfl rfl (ycanO km86 ko8) (t86_316 (k := k) hT (by omega) (by omega) (by omega) (by omega) hn (hin (by omega)) h0 hG) (fun mq4687 nq4687 hq4687 => ?_)
    obtain ⟨rfl, hTq4687, hFq4687, hGq4687⟩ := hq4687
    have hF4697 := hF.tr hFq4687 (fun _ _ e => e)
    refine y_aload 127 c90_126 rfl rfl rfl ?_
    refine y_aload 128 c90_127 rfl rfl rfl ?_
    have es4699 : mq4687 8 4 = m 8 4 := (hFq4687 8 4 rfl)
    have es4700 : mq4687 316 16 = m 316 16 := (hFq4687 316 16 rfl)
    have es4701 : mq4687 316 10 = m 316 10 := (hFq4687 316 10 rfl)
    have es4702 : mq4687 (336 + k.toNat) 0 = m (336 + k.toNat) 0 := (hFq4687 (336 + k.toNat) 0 (wFx_h (by omega)))
    have es4703 : mq4687 (336 + k.toNat) 2 = m (336 + k.toNat) 2 := (hFq4687 (336 + k.toNat) 2 (wFx_h (by omega)))
    have es4704 : mq4687 (336 + k.toNat) 3 = m (336 + k.toNat) 3 := (hFq4687 (336 + k.toNat) 3 (wFx_h (by omega)))
    have es4705 : mq4687 (336 + k.toNat) 6 = m (336 + k.toNat) 6 := (hFq4687 (336 + k.toNat) 6 (wFx_h (by omega)))
    have es4706 : mq4687 (336 + k.toNat) 8 = m (336 + k.toNat) 8 := (hFq4687 (336 + k.toNat) 8 (wFx_h (by omega)))
    have es4707 : mq4687 (336 + k.toNat) 9 = m (336 + k.toNat) 9 := (hFq4687 (336 + k.toNat) 9 (wFx_h (by omega)))
    have es4708 : mq4687 (336 + k.toNat) 10 = m (336 + k.toNat) 10 := (hFq4687 (336 + k.toNat) 10 (wFx_h (by omega)))
    refine y_callUB 131 [.ref 8, .ref (336 + k.toNat)] [] c90_128 rfl rfl rfl rfl rfl (ycanO km89 ko8) (t89_316 (k := k) hTq4687 (by omega) (by omega) (by omega) (by omega) (by omega) (hM.fr (fun k hk => hFq4687 _ _ (wFx_h (by omega))) (fun k hk => hFq4687 _ _ (wFx_h (by omega)))) (by omega) (by omega) hGq4687) (fun mq4698 nq4698 hq4698 => ?_)
    obtain ⟨rfl, hTq4698, hFq4698⟩ := hq4698
    have hF4709 := hF4697.tr hFq4698 wFy_wFx
    refine y_goto 134 c90_131 rfl ?_
    exact y_retU c90_134 ⟨rfl, hTq4698, hF4709, (hGq4687.fr (by omega) (fun j hj => by rw [hFq4687 316 16 rfl] at hj; rw [hFq4687 _ 6 (wFx_h (by omega))]; exact hn j hj) hFq4698)⟩
  by_cases hk4710 : m (336 + k.toNat) 0 = 5
  · refine y_top 5 hk4710 ?_
    refine y_tsw 52 c90_4 (by decide) (by decide) rfl rfl ?_
    refine y_aload 53 c90_52 rfl rfl rfl ?_
    refine y_aload 54 c90_53 rfl rfl rfl ?_
    refine y_getR 57 c90_54 rfl kf8_0 ?_
    refine y_aload 58 c90_57 rfl rfl rfl ?_
    refine y_getX 61 (m (336 + k.toNat) 2) c90_58 rfl (ff336_2 (by omega)) rfl ?_
    have tb4711 := hT.atp (336 + k.toNat) 2 ((-1)) 47 (ft336_2 (by omega))
    refine y_aaload 62 c90_61 rfl kr9 (by omega) ?_
    refine y_aload 63 c90_62 rfl rfl rfl ?_
    refine y_getX 66 (m (336 + k.toNat) 6) c90_63 rfl (ff336_6 (by omega)) rfl ?_
    have tb4712 := hT.atp (336 + k.toNat) 6 ((-1)) 11 (ft336_6 (by omega))
    refine y_callUB 69 [.ref 8, .ref (10 + (m (336 + k.toNat) 2).toNat), yI (m (336 + k.toNat) 6)] [] c90_66 rfl rfl rfl rfl rfl (ycanO km79 ko8) (t79 hT (fa10 (by omega)) (fun _ => fz10 (by omega)) (by omega) (by omega)) (fun mq4713 nq4713 hq4713 => ?_)
    obtain ⟨rfl, hTq4713, hFq4713, hq4713⟩ := hq4713
    have hF4714 := hF.tr hFq4713 (wTe_wFx (by omega))
    refine y_goto 134 c90_69 rfl ?_
    exact y_retU c90_134 ⟨rfl, hTq4713, hF4714, (hG.fr (by omega) hn (Fr.rf.tr hFq4713 (wTe_wFy (by omega))))⟩
  by_cases hk4715 : m (336 + k.toNat) 0 = 6
  · refine y_top 6 hk4715 ?_
    refine y_tsw 134 c90_4 (by decide) (by decide) rfl rfl ?_
    exact y_retU c90_134 ⟨rfl, hT, hF, hG⟩
  by_cases hk4716 : m (336 + k.toNat) 0 = 7
  · refine y_top 7 hk4716 ?_
    refine y_tsw 97 c90_4 (by decide) (by decide) rfl rfl ?_
    refine y_aload 98 c90_97 rfl rfl rfl ?_
    refine y_aload 99 c90_98 rfl rfl rfl ?_
    have tb4718 := hT.atp 8 4 ((-1)) 1 rfl
    have tb4719 := hT.atp 316 16 0 40 rfl
    have tb4720 := hT.atp 316 10 0 10 rfl
    have tb4721 := hT.atp (336 + k.toNat) 2 ((-1)) 47 (ft336_2 (by omega))
    have tb4722 := hT.atp (336 + k.toNat) 3 ((-1)) 47 (ft336_3 (by omega))
    have tb4723 := hT.atp (336 + k.toNat) 6 ((-1)) 11 (ft336_6 (by omega))
    have tb4724 := hT.atp (336 + k.toNat) 8 0 2 (ft336_8 (by omega))
    have tb4725 := hT.atp (336 + k.toNat) 9 ((-1)) 47 (ft336_9 (by omega))
    have tb4726 := hT.atp (336 + k.toNat) 10 ((-1)) 47 (ft336_10 (by omega))
    refine y_callUB 102 [.ref 8, .ref (336 + k.toNat)] [] c90_99 rfl rfl rfl rfl rfl (ycanO km82 ko8) (t82_316 (k := k) hT (by omega) (by omega) (by omega) (by omega)) (fun mq4717 nq4717 hq4717 => ?_)
    obtain ⟨rfl, hTq4717, hFq4717⟩ := hq4717
    have hF4727 := hF.tr hFq4717 wFy_wFx
    refine y_goto 134 c90_102 rfl ?_
    exact y_retU c90_134 ⟨rfl, hTq4717, hF4727, (hG.fr (by omega) hn hFq4717)⟩
  by_cases hk4728 : m (336 + k.toNat) 0 = 8
  · refine y_top 8 hk4728 ?_
    refine y_tsw 72 c90_4 (by decide) (by decide) rfl rfl ?_
    refine y_aload 73 c90_72 rfl rfl rfl ?_
    refine y_aload 74 c90_73 rfl rfl rfl ?_
    refine y_getR 77 c90_74 rfl kf8_0 ?_
    refine y_aload 78 c90_77 rfl rfl rfl ?_
    refine y_getX 81 (m (336 + k.toNat) 3) c90_78 rfl (ff336_3 (by omega)) rfl ?_
    have tb4729 := hT.atp (336 + k.toNat) 3 ((-1)) 47 (ft336_3 (by omega))
    refine y_aaload 82 c90_81 rfl kr9 (by omega) ?_
    refine y_aload 83 c90_82 rfl rfl rfl ?_
    refine y_getR 86 c90_83 rfl kf8_0 ?_
    refine y_aload 87 c90_86 rfl rfl rfl ?_
    refine y_getX 90 (m (336 + k.toNat) 2) c90_87 rfl (ff336_2 (by omega)) rfl ?_
    have tb4730 := hT.atp (336 + k.toNat) 2 ((-1)) 47 (ft336_2 (by omega))
    refine y_aaload 91 c90_90 rfl kr9 (by omega) ?_
    have tb4732 := hT.atp 8 4 ((-1)) 1 rfl
    refine y_callUB 94 [.ref 8, .ref (10 + (m (336 + k.toNat) 3).toNat), .ref (10 + (m (336 + k.toNat) 2).toNat)] [] c90_91 rfl rfl rfl rfl rfl (ycanO km80 ko8) (t80_316 hT (by omega) (fa10 (by omega)) (fun _ => fz10 (by omega)) (fa10 (by omega)) (fun _ => fz10 (by omega)) (by omega)) (fun mq4731 nq4731 hq4731 => ?_)
    obtain ⟨rfl, hTq4731, hFq4731⟩ := hq4731
    have hF4733 := hF.tr hFq4731 (wTe_wFx (by omega))
    refine y_goto 134 c90_94 rfl ?_
    exact y_retU c90_134 ⟨rfl, hTq4731, hF4733, (hG.fr (by omega) hn (Fr.rf.tr hFq4731 (wTe_wFy (by omega))))⟩
  by_cases hk4734 : m (336 + k.toNat) 0 = 9
  · refine y_top 9 hk4734 ?_
    refine y_tsw 105 c90_4 (by decide) (by decide) rfl rfl ?_
    refine y_aload 106 c90_105 rfl rfl rfl ?_
    refine y_aload 107 c90_106 rfl rfl rfl ?_
    have tb4736 := hT.atp 8 4 ((-1)) 1 rfl
    have tb4737 := hT.atp 316 16 0 40 rfl
    have tb4738 := hT.atp 316 10 0 10 rfl
    have tb4739 := hT.atp (336 + k.toNat) 2 ((-1)) 47 (ft336_2 (by omega))
    have tb4740 := hT.atp (336 + k.toNat) 3 ((-1)) 47 (ft336_3 (by omega))
    have tb4741 := hT.atp (336 + k.toNat) 6 ((-1)) 11 (ft336_6 (by omega))
    have tb4742 := hT.atp (336 + k.toNat) 8 0 2 (ft336_8 (by omega))
    have tb4743 := hT.atp (336 + k.toNat) 9 ((-1)) 47 (ft336_9 (by omega))
    have tb4744 := hT.atp (336 + k.toNat) 10 ((-1)) 47 (ft336_10 (by omega))
    refine y_callUB 110 [.ref 8, .ref (336 + k.toNat)] [] c90_107 rfl rfl rfl rfl rfl (ycanO km84 ko8) (t84_316 (k := k) hT (by omega) (by omega) (by omega) (by omega) (by omega)) (fun mq4735 nq4735 hq4735 => ?_)
    obtain ⟨rfl, hTq4735, hFq4735⟩ := hq4735
    have hF4745 := hF.tr hFq4735 wFy_wFx
    refine y_goto 134 c90_110 rfl ?_
    exact y_retU c90_134 ⟨rfl, hTq4735, hF4745, (hG.fr (by omega) hn hFq4735)⟩
  refine y_tswd 134 c90_4 (by omega) (by omega) rfl ?_
  exact y_retU c90_134 ⟨rfl, hT, hF, hG⟩
set_option maxRecDepth 100000 in
theorem t91b_316 {L : Nat} {xs : Nat → Int32} {d nn : Nat} {m : yM} (hT : Ty gT m) (hM : MP 326 m) (hR : RG 336 325 m 0 (m 316 16) 0 (m 316 12) 0 (m 316 13)) (hL : NL 336 m 0 (m 316 16)) {r : Int} (hr : 0 ≤ r ∧ r < 2000) (ho : ∀ (x2 x3 : Option Value) (mi : yM), Ty gT mi → Fr wFd8 m mi → mi 8 5 = r + 1 → mi 8 4 = 1 → GO 316 326 336 mi → YW (gZ L xs) 91 (d + 5) 65 [some (.ref 8), some (.ref 316), x2, x3] [] mi nn (qU (fun m' n' => n' = nn ∧ Ty gT m' ∧ Fr wFd8 m m' ∧ m' 8 4 = 1))) : ∀ (km : Nat) (i : Int) (x3 : Option Value) (mi : yM), m 316 16 - i = km → 0 ≤ i ∧ i ≤ m 316 16 → Ty gT mi → Fr wFd8 m mi → mi 8 5 = r → mi 8 4 = 1 → GO 316 326 336 mi → YW (gZ L xs) 91 (d + 5) 88 [some (.ref 8), some (.ref 316), some (yI i), x3] [] mi nn (qU (fun m' n' => n' = nn ∧ Ty gT m' ∧ Fr wFd8 m m' ∧ m' 8 4 = 1)) := by
  intro km
  induction km using Nat.strongRecOn with
  | ind km ih =>
    intro i x3 mi hk hi hTi hFi h5 h4 hGi
    have tb := hT.atp 316 16 0 40 rfl
    refine y_iload 89 c91_88 rfl rfl ?_
    refine y_aload 90 c91_89 rfl rfl rfl ?_
    refine y_getS 93 (B := 316) c91_90 rfl kf8_4 (by first | rfl | (rw [show mi 8 4 = 1 from by have e : mi 8 4 = mi 8 4 := rfl; omega]; rfl)) ?_
    refine y_getX 96 (m 316 16) c91_93 rfl kf316_16 (hFi 316 16 rfl) ?_
    refine y_icmp 136 99 c91_96 rfl rfl (yc_ge (by omega) (by omega)) (fun hb4746 => ?_) (fun hb4746 => ?_)
    · refine y_aload 137 c91_136 rfl rfl rfl ?_
      refine y_dup 138 c91_137 rfl rfl ?_
      refine y_getX 141 (mi 8 5) c91_138 rfl kf8_5 rfl ?_
      have tb4747 := hTi.atp 8 5 0 2000 rfl
      refine y_iconst 142 c91_141 rfl ?_
      refine y_iadd 143 c91_142 rfl ?_
      refine y_putI 146 c91_143 rfl kf8_5 (y_fit0 _) ?_
      have hT4748 := hTi.up 8 5 ((mi 8 5) + 1) 0 2000 rfl (by omega)
      have hF4749 := hFi.up 8 5 ((mi 8 5) + 1) rfl
      refine y_goto 65 c91_146 rfl ?_
      have es4750 : (yup mi 8 5 ((mi 8 5) + 1)) 8 5 = (mi 8 5) + 1 := rfl
      have es4751 : (yup mi 8 5 ((mi 8 5) + 1)) 8 4 = mi 8 4 := rfl
      have tb4752 := hTi.atp 8 4 ((-1)) 1 rfl
      refine ho _ _ _ hT4748 hF4749 (by omega) (by omega) ?_
      exact GO.n8 hGi
    · refine y_aload 100 c91_99 rfl rfl rfl ?_
      refine y_getS 103 (B := 316) c91_100 rfl kf8_4 (by first | rfl | (rw [show mi 8 4 = 1 from by have e : mi 8 4 = mi 8 4 := rfl; omega]; rfl)) ?_
      refine y_getR 106 c91_103 rfl kf316_6 ?_
      refine y_iload 107 c91_106 rfl rfl ?_
      refine y_aaload 108 c91_107 rfl kr323 (by omega) ?_
      refine y_astore 109 c91_108 rfl rfl rfl ?_
      refine y_aload 110 c91_109 rfl rfl rfl ?_
      refine y_aload 111 c91_110 rfl rfl rfl ?_
      refine y_getR 114 c91_111 rfl kf8_2 ?_
      refine y_aload 115 c91_114 rfl rfl rfl ?_
      refine y_getX 118 (m (336 + i.toNat) 1) c91_115 rfl (ff336_1 (by omega)) (hFi (336 + i.toNat) 1 (wFd8_h (by omega))) ?_
      have tb4753 := hT.atp (336 + i.toNat) 1 0 9 (ft336_1 (by omega))
      refine y_iaT 119 ((-2147483648)) 2147483647 c91_118 rfl ka71 (by omega) hTi rfl (fun v4754 hv4754 gv4754 => ?_)
      refine y_callP 122 [.ref 8, yI v4754] [] c91_119 rfl rfl rfl rfl rfl (ycanO km78 ko8) (t78 hTi (by omega)) (fun r4755 hr4755 => ?_)
      refine y_if 130 125 c91_122 rfl rfl (yz_eq (by omega)) (fun hb4756 => ?_) (fun hb4756 => ?_)
      · refine y_iinc 133 c91_130 rfl rfl rfl ?_
        refine y_goto 88 c91_133 rfl ?_
        exact ih (m 316 16 - (i + 1) : Int).toNat (by omega) (i + 1) _  _ (by omega) (by omega) hTi hFi (by have e : mi 8 5 = mi 8 5 := rfl; omega) (by have e : mi 8 4 = mi 8 4 := rfl; omega) hGi
      · refine y_aload 126 c91_125 rfl rfl rfl ?_
        refine y_aload 127 c91_126 rfl rfl rfl ?_
        have tb4758 := hTi.atp 8 4 ((-1)) 1 rfl
        have es4759 : mi 316 16 = m 316 16 := (hFi 316 16 rfl)
        have eq4757_16 := hFi 316 16 rfl
        have eq4757_12 := hFi 316 12 rfl
        have eq4757_13 := hFi 316 13 rfl
        refine y_callUB 130 [.ref 8, .ref (336 + i.toNat)] [] c91_127 rfl rfl rfl rfl rfl (ycanO km90 ko8) (t90_316 (k := i) hTi (by omega) (by omega) (by omega) (hM.fr (fun k hk => hFi _ _ (wFd8_h (by omega))) (fun k hk => hFi _ _ (wFd8_h (by omega)))) (by rw [eq4757_16, eq4757_12, eq4757_13]; exact (hR.fr (m' := mi) (c3 := m 316 12) (fun j _ _ q _ => hFi _ _ (wFd8_h (by omega))) (fun z _ _ => hFi 325 z rfl) (Int.le_refl _))) (by rw [eq4757_16]; exact hL.fr (fun j _ _ => ⟨hFi _ _ (wFd8_h (by omega)), hFi _ _ (wFd8_h (by omega))⟩)) hGi) (fun mq4757 nq4757 hq4757 => ?_)
        obtain ⟨rfl, hTq4757, hFq4757, hGq4757⟩ := hq4757
        have hF4760 := hFi.tr hFq4757 wFx_wFd8
        refine y_iinc 133 c91_130 rfl rfl rfl ?_
        refine y_goto 88 c91_133 rfl ?_
        exact ih (m 316 16 - (i + 1) : Int).toNat (by omega) (i + 1) _  _ (by omega) (by omega) hTq4757 hF4760 (by have e : mq4757 8 5 = mi 8 5 := (hFq4757 8 5 rfl); omega) (by have e : mq4757 8 4 = mi 8 4 := (hFq4757 8 4 rfl); omega) hGq4757
set_option maxRecDepth 100000 in
theorem t91a_316 {L : Nat} {xs : Nat → Int32} {d nn : Nat} {m : yM} (hT : Ty gT m) (hM : MP 326 m) (hR : RG 336 325 m 0 (m 316 16) 0 (m 316 12) 0 (m 316 13)) (hL : NL 336 m 0 (m 316 16)) : ∀ (k : Nat) (x2 x3 : Option Value) (mi : yM), 2000 - mi 8 5 = k → Ty gT mi → Fr wFd8 m mi → mi 8 4 = 1 → GO 316 326 336 mi → YW (gZ L xs) 91 (d + 5) 65 [some (.ref 8), some (.ref 316), x2, x3] [] mi nn (qU (fun m' n' => n' = nn ∧ Ty gT m' ∧ Fr wFd8 m m' ∧ m' 8 4 = 1)) := by
  intro k
  induction k using Nat.strongRecOn with
  | ind k ih =>
    intro x2 x3 mi hk hTi hFi h4 hGi
    have tb5 := hTi.atp 8 5 0 2000 rfl
    have tbm := hT.atp 316 16 0 40 rfl
    refine y_aload 66 c91_65 rfl rfl rfl ?_
    refine y_getX 69 (mi 8 5) c91_66 rfl kf8_5 rfl ?_
    refine y_iconst 72 c91_69 rfl ?_
    refine y_icmp 149 75 c91_72 rfl rfl (yc_ge (by omega) (by omega)) (fun hb4761 => ?_) (fun hb4761 => ?_)
    · exact y_retU c91_149 ⟨rfl, hTi, hFi, h4⟩
    · refine y_aload 76 c91_75 rfl rfl rfl ?_
      refine y_getX 79 (mi 8 5) c91_76 rfl kf8_5 rfl ?_
      refine y_aload 80 c91_79 rfl rfl rfl ?_
      refine y_getX 83 (mi 8 6) c91_80 rfl kf8_6 rfl ?_
      have tb4762 := hTi.atp 8 6 0 2001 rfl
      refine y_icmp 149 86 c91_83 rfl rfl (yc_ne (by omega) (by omega)) (fun hb4763 => ?_) (fun hb4763 => ?_)
      · exact y_retU c91_149 ⟨rfl, hTi, hFi, h4⟩
      · refine y_iconst 87 c91_86 rfl ?_
        refine y_istore 88 c91_87 rfl rfl ?_
        exact t91b_316 hT hM hR hL (r := mi 8 5) (by omega) (fun y2 y3 mj j1 j2 j3 j4 j5 => ih (2000 - mj 8 5).toNat (by omega) y2 y3 mj (by omega) j1 j2 j4 j5) (m 316 16 - 0).toNat 0 _ mi (by omega) (by omega) hTi hFi rfl h4 hGi
set_option maxRecDepth 100000 in
theorem t91_316 {L : Nat} {xs : Nat → Int32} {d nn : Nat} {m : yM} (hT : Ty gT m) (hM : MP 326 m) (hR : RG 336 325 m 0 (m 316 16) 0 (m 316 12) 0 (m 316 13)) (hL : NL 336 m 0 (m 316 16)) : YC (gZ L xs) (d + 5) 91 [.ref 8, .ref 316] m nn (qU (fun m' n' => n' = nn ∧ Ty gT m' ∧ Fr wFd8 m m' ∧ m' 8 4 = 1)) := by
  have tb16 := hT.atp 316 16 0 40 rfl
  refine YC.mkB [some (.ref 8), some (.ref 316), none, none] kn91 rfl rfl ?_
  have hF : Fr wFd8 m m := Fr.rf
  refine y_aload 1 c91_0 rfl rfl rfl ?_
  refine y_aload 2 c91_1 rfl rfl rfl ?_
  refine y_putS 5 1 c91_2 rfl kf8_4 rfl ?_
  have hT4764 := hT.up 8 4 1 ((-1)) 1 rfl (by omega)
  have hF4765 := hF.up 8 4 1 rfl
  refine y_aload 6 c91_5 rfl rfl rfl ?_
  refine y_callUB 9 [.ref 8] [] c91_6 rfl rfl rfl rfl rfl (ycanO km77 ko8) (t77 hT4764) (fun mq4766 nq4766 hq4766 => ?_)
  obtain ⟨rfl, hTq4766, hFq4766, hq4766, hzq4766⟩ := hq4766
  have hF4767 := hF4765.tr hFq4766 wFx_wFd8
  refine y_aload 10 c91_9 rfl rfl rfl ?_
  refine y_getS 13 (B := 316) c91_10 rfl kf8_4 (by first | rfl | (rw [show mq4766 8 4 = 1 from by have e : mq4766 8 4 = 1 := ((hFq4766 8 4 rfl).trans (yup_eq _ _ _ _)); omega]; rfl)) ?_
  refine y_getX 16 (m 316 17) c91_13 rfl kf316_17 ((hFq4766 316 17 rfl).trans (yup_na (by decide))) ?_
  have tb4768 := hT.atp 316 17 ((-1)) 9 rfl
  refine y_iconst 17 c91_16 rfl ?_
  refine y_icmp 21 20 c91_17 rfl rfl (yc_ne (by omega) (by omega)) (fun hb4769 => ?_) (fun hb4769 => ?_)
  · refine y_aload 22 c91_21 rfl rfl rfl ?_
    refine y_getR 25 c91_22 rfl kf8_2 ?_
    refine y_aload 26 c91_25 rfl rfl rfl ?_
    refine y_getS 29 (B := 316) c91_26 rfl kf8_4 (by first | rfl | (rw [show mq4766 8 4 = 1 from by have e : mq4766 8 4 = 1 := ((hFq4766 8 4 rfl).trans (yup_eq _ _ _ _)); omega]; rfl)) ?_
    refine y_getX 32 (m 316 17) c91_29 rfl kf316_17 ((hFq4766 316 17 rfl).trans (yup_na (by decide))) ?_
    refine y_iconst 33 c91_32 rfl ?_
    refine y_iastore 34 c91_33 rfl ka71 (by omega) (y_nar0 _) ?_
    have hT4770 := hTq4766.up 71 ((m 316 17).toNat) 0 ((-2147483648)) 2147483647 rfl (by omega)
    have hF4771 := hF4767.up 71 ((m 316 17).toNat) 0 rfl
    refine y_aload 35 c91_34 rfl rfl rfl ?_
    refine y_getR 38 c91_35 rfl kf8_0 ?_
    refine y_aload 39 c91_38 rfl rfl rfl ?_
    refine y_getS 42 (B := 316) c91_39 rfl kf8_4 (by first | rfl | (rw [show (yup mq4766 71 ((m 316 17).toNat) 0) 8 4 = 1 from by have e : (yup mq4766 71 ((m 316 17).toNat) 0) 8 4 = 1 := ((yup_na (by decide)).trans ((hFq4766 8 4 rfl).trans (yup_eq _ _ _ _))); omega]; rfl)) ?_
    refine y_getR 45 c91_42 rfl kf316_5 ?_
    refine y_aload 46 c91_45 rfl rfl rfl ?_
    refine y_getS 49 (B := 316) c91_46 rfl kf8_4 (by first | rfl | (rw [show (yup mq4766 71 ((m 316 17).toNat) 0) 8 4 = 1 from by have e : (yup mq4766 71 ((m 316 17).toNat) 0) 8 4 = 1 := ((yup_na (by decide)).trans ((hFq4766 8 4 rfl).trans (yup_eq _ _ _ _))); omega]; rfl)) ?_
    refine y_getX 52 (m 316 17) c91_49 rfl kf316_17 ((yup_na (by decide)).trans ((hFq4766 316 17 rfl).trans (yup_na (by decide)))) ?_
    refine y_aaload 53 c91_52 rfl kr322 (by omega) ?_
    refine y_callP 56 [.ref (326 + (m 316 17).toNat)] [.ref 9] c91_53 rfl rfl rfl rfl rfl (ycanO km57 (fo326 (by omega))) (t57_316 hT4770 (by omega)) (fun r4772 hr4772 => ?_)
    refine y_aaload 57 c91_56 rfl kr9 (by omega) ?_
    refine y_iconst 58 c91_57 rfl ?_
    refine y_iconst 59 c91_58 rfl ?_
    refine y_iastore 60 c91_59 rfl (fa10 (by omega)) (by omega) (y_nar0 _) ?_
    have hT4773 := hT4770.up (10 + r4772.toNat) ((0 : Int).toNat) 0 ((-2147483648)) 2147483647 (fz10 (by omega)) (by omega)
    have hF4774 := hF4771.up (10 + r4772.toNat) ((0 : Int).toNat) 0 (wFd8_10 (by omega))
    refine y_aload 61 c91_60 rfl rfl rfl ?_
    refine y_iconst 62 c91_61 rfl ?_
    refine y_putI 65 c91_62 rfl kf8_5 (y_fit0 _) ?_
    have hT4775 := hT4773.up 8 5 0 0 2000 rfl (by omega)
    have hF4776 := hF4774.up 8 5 0 rfl
    have es4777 : (yup (yup (yup mq4766 71 ((m 316 17).toNat) 0) (10 + r4772.toNat) ((0 : Int).toNat) 0) 8 5 0) 8 5 = 0 := rfl
    have es4778 : (yup (yup (yup mq4766 71 ((m 316 17).toNat) 0) (10 + r4772.toNat) ((0 : Int).toNat) 0) 8 5 0) 8 4 = 1 := ((yup_nk (by decide)).trans ((yup_na (by omega)).trans ((yup_na (by decide)).trans ((hFq4766 8 4 rfl).trans (yup_eq _ _ _ _)))))
    have hg : GO 316 326 336 (yup (yup (yup mq4766 71 ((m 316 17).toNat) 0) (10 + r4772.toNat) ((0 : Int).toNat) 0) 8 5 0) := by
      intro k hk h4 i hi hne
      exfalso
      apply hne
      rw [hF4776 _ _ (wFd8_h (by omega))] at hk hi
      rw [hF4776 _ 6 (wFd8_h (by omega))]
      have t6 := hT.atp (336 + k) 6 (-1) 11 (ft336_6 (by omega))
      have t10 := hT.atp 316 10 0 10 rfl
      exact ((yup_na (by omega)).trans ((yup_na (by omega)).trans ((yup_na (by omega)).trans (hzq4766 _ i (by omega) (by omega)))))
    exact t91a_316 hT hM hR hL 2000 none none _ (by omega) hT4775 hF4776 (by omega) hg
  · have es4779 : mq4766 8 4 = 1 := ((hFq4766 8 4 rfl).trans (yup_eq _ _ _ _))
    exact y_retU c91_20 ⟨rfl, hTq4766, hF4767, by omega⟩
set_option maxRecDepth 100000 in
theorem t93b_316 {L : Nat} {xs : Nat → Int32} {d nn : Nat} {m : yM} (hT : Ty gT m) (hp : m 8 4 = 1) {v : Int} (hv : 0 ≤ v ∧ v < m 316 15) (ho : (∀ (f : Int) (x3 : Option Value), 0 ≤ f ∧ f ≤ 12 * (v + 1) → YW (gZ L xs) 93 d 4 [some (.ref 8), some (yI f), some (yI (v + 1)), x3] [] m nn (qP m nn (fun r => -2147483648 ≤ r ∧ r < 2147483648)))) : ∀ (km : Nat) (f : Int) (i : Int), m 316 14 - i = km → 0 ≤ i ∧ i ≤ m 316 14 → 0 ≤ f ∧ f ≤ 12 * v + i → YW (gZ L xs) 93 d 17 [some (.ref 8), some (yI f), some (yI v), some (yI i)] [] m nn (qP m nn (fun r => -2147483648 ≤ r ∧ r < 2147483648)) := by
  intro km
  induction km using Nat.strongRecOn with
  | ind km ih =>
    intro f i hk hi hf
    have tb := hT.atp 316 14 0 12 rfl
    have tb2 := hT.atp 316 15 0 48 rfl
    refine y_iload 18 c93_17 rfl rfl ?_
    refine y_aload 19 c93_18 rfl rfl rfl ?_
    refine y_getS 22 (B := 316) c93_19 rfl kf8_4 (by first | rfl | (rw [show m 8 4 = 1 from by have e : m 8 4 = m 8 4 := rfl; omega]; rfl)) ?_
    refine y_getX 25 (m 316 14) c93_22 rfl kf316_14 rfl ?_
    refine y_icmp 49 28 c93_25 rfl rfl (yc_ge (by omega) (by omega)) (fun hb4780 => ?_) (fun hb4780 => ?_)
    · refine y_iinc 52 c93_49 rfl rfl rfl ?_
      refine y_goto 4 c93_52 rfl ?_
      exact ho f _ (by omega)
    · refine y_aload 29 c93_28 rfl rfl rfl ?_
      refine y_getR 32 c93_29 rfl kf8_0 ?_
      refine y_iload 33 c93_32 rfl rfl ?_
      refine y_aaload 34 c93_33 rfl kr9 (by omega) ?_
      refine y_iload 35 c93_34 rfl rfl ?_
      refine y_iaT 36 ((-2147483648)) 2147483647 c93_35 rfl (fa10 (by omega)) (by omega) hT (fz10 (by omega)) (fun v4781 hv4781 gv4781 => ?_)
      refine y_iconst 37 c93_36 rfl ?_
      refine y_icmp 43 40 c93_37 rfl rfl (yc_eq (by omega) (by omega)) (fun hb4782 => ?_) (fun hb4782 => ?_)
      · refine y_iinc 46 c93_43 rfl rfl rfl ?_
        refine y_goto 17 c93_46 rfl ?_
        exact ih (m 316 14 - (i + 1) : Int).toNat (by omega) f (i + 1)   (by omega) (by omega) (by omega)
      · refine y_iinc 43 c93_40 rfl rfl rfl ?_
        refine y_iinc 46 c93_43 rfl rfl rfl ?_
        refine y_goto 17 c93_46 rfl ?_
        exact ih (m 316 14 - (i + 1) : Int).toNat (by omega) (f + 1) (i + 1)   (by omega) (by omega) (by omega)
set_option maxRecDepth 100000 in
theorem t93a_316 {L : Nat} {xs : Nat → Int32} {d nn : Nat} {m : yM} (hT : Ty gT m) (hp : m 8 4 = 1) : ∀ (km : Nat) (f : Int) (v : Int) (x3 : Option Value), m 316 15 - v = km → 0 ≤ v ∧ v ≤ m 316 15 → 0 ≤ f ∧ f ≤ 12 * v → YW (gZ L xs) 93 d 4 [some (.ref 8), some (yI f), some (yI v), x3] [] m nn (qP m nn (fun r => -2147483648 ≤ r ∧ r < 2147483648)) := by
  intro km
  induction km using Nat.strongRecOn with
  | ind km ih =>
    intro f v x3 hk hv hf
    have tb := hT.atp 316 14 0 12 rfl
    have tb2 := hT.atp 316 15 0 48 rfl
    refine y_iload 5 c93_4 rfl rfl ?_
    refine y_aload 6 c93_5 rfl rfl rfl ?_
    refine y_getS 9 (B := 316) c93_6 rfl kf8_4 (by first | rfl | (rw [show m 8 4 = 1 from by have e : m 8 4 = m 8 4 := rfl; omega]; rfl)) ?_
    refine y_getX 12 (m 316 15) c93_9 rfl kf316_15 rfl ?_
    refine y_icmp 55 15 c93_12 rfl rfl (yc_ge (by omega) (by omega)) (fun hb4783 => ?_) (fun hb4783 => ?_)
    · refine y_iload 56 c93_55 rfl rfl ?_
      exact y_retP c93_56 (y_fit0 _) (by omega)
    · refine y_iconst 16 c93_15 rfl ?_
      refine y_istore 17 c93_16 rfl rfl ?_
      exact t93b_316 hT hp (by omega) (fun f2 y3 hf2 => ih (m 316 15 - (v + 1)).toNat (by omega) f2 (v + 1) y3 (by omega) (by omega) (by omega)) (m 316 14 - 0).toNat f 0 (by omega) (by omega) (by omega)
set_option maxRecDepth 100000 in
theorem t93_316 {L : Nat} {xs : Nat → Int32} {d nn : Nat} {m : yM} (hT : Ty gT m) (hp : m 8 4 = 1) : YC (gZ L xs) d 93 [.ref 8] m nn (qP m nn (fun r => -2147483648 ≤ r ∧ r < 2147483648)) := by
  refine YC.mkB [some (.ref 8), none, none, none] kn93 rfl rfl ?_
  refine y_iconst 1 c93_0 rfl ?_
  refine y_istore 2 c93_1 rfl rfl ?_
  refine y_iconst 3 c93_2 rfl ?_
  refine y_istore 4 c93_3 rfl rfl ?_
  have tb2 := hT.atp 316 15 0 48 rfl
  exact t93a_316 hT hp (m 316 15 - 0).toNat 0 0 none (by omega) (by omega) (by omega)
