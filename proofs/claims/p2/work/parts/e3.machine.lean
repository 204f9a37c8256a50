/-! CONTRACTS: the machine. Printed by wip/whole/gen93.py -/
set_option maxRecDepth 100000 in
theorem t191_316 {L : Nat} {xs : Nat → Int32} {d nn : Nat} {m : yM} {q : Int} (hT : Ty gT m) (hp : m 169 4 = 1) (hq : -1 ≤ q ∧ q ≤ 29) : YC (gZ L xs) d 191 [.ref 169, yI q] m nn (qTI nn m (fun r m' => (0 ≤ r ∧ r ≤ 5 ∧ q ≠ -1) ∧ m' = m)) := by
  refine YC.mkB [some (.ref 169), some (yI q)] kn191 rfl rfl ?_
  have hF : Fr wMx m m := Fr.rf
  refine y_iload 1 c191_0 rfl rfl ?_
  refine y_iconst 2 c191_1 rfl ?_
  refine y_icmp 13 5 c191_2 rfl rfl (yc_ne (by omega) (by omega)) (fun hb5079 => ?_) (fun hb5079 => ?_)
  · refine y_aload 14 c191_13 rfl rfl rfl ?_
    refine y_getS 17 (B := 316) c191_14 rfl kf169_4 (by rw [show m 169 4 = 1 from by have e : m 169 4 = m 169 4 := rfl; omega]; rfl) ?_
    refine y_getR 20 c191_17 rfl kf316_7 ?_
    refine y_aload 21 c191_20 rfl rfl rfl ?_
    refine y_getR 24 c191_21 rfl kf169_1 ?_
    refine y_iload 25 c191_24 rfl rfl ?_
    refine y_iaT 26 0 11 c191_25 rfl ka219 (by omega) hT rfl (fun v5080 hv5080 gv5080 => ?_)
    refine y_iaT 27 0 5 c191_26 rfl ka324 (by omega) hT rfl (fun v5081 hv5081 gv5081 => ?_)
    exact y_mRI c191_27 (y_fit0 _) hT hF (⟨by omega, rfl⟩)
  · exact y_mThr c191_5 rfl hT hF (by decide) qOut.I
set_option maxRecDepth 100000 in
theorem t192_316 {L : Nat} {xs : Nat → Int32} {d nn : Nat} {m : yM} {q f : Int} (hT : Ty gT m) (hp : m 169 4 = 1) (hq : -1 ≤ q ∧ q ≤ 29) (hf : -1 ≤ f ∧ f ≤ 11) : YC (gZ L xs) (d + 1) 192 [.ref 169, yI q, yI f] m nn (qTI nn m (fun r m' => (r = q ∧ q ≠ -1 ∧ f ≠ -1) ∧ m' = m)) := by
  refine YC.mkB [some (.ref 169), some (yI q), some (yI f)] kn192 rfl rfl ?_
  have hF : Fr wMx m m := Fr.rf
  refine y_aload 1 c192_0 rfl rfl rfl ?_
  refine y_getS 4 (B := 316) c192_1 rfl kf169_4 (by rw [show m 169 4 = 1 from by have e : m 169 4 = m 169 4 := rfl; omega]; rfl) ?_
  refine y_aload 5 c192_4 rfl rfl rfl ?_
  refine y_iload 6 c192_5 rfl rfl ?_
  have tb5083 := hT.atp 169 4 ((-1)) 1 rfl
  have tb5084 := hT.atp 169 6 0 200 rfl
  refine y_mI 9 [.ref 169, yI q] [.ref 316] c192_6 rfl rfl rfl rfl rfl (ycanO km191 ko169) kg192 qOut.I hF (t191_316 hT (by omega) (by omega)) (fun rq5082 mq5082 hTq5082 hFq5082 hq5082 => ?_)
  obtain ⟨hq5082, rfl⟩ := hq5082
  refine y_iload 10 c192_9 rfl rfl ?_
  refine y_callP 13 [.ref 316, yI rq5082, yI f] [] c192_10 rfl rfl rfl rfl rfl (ycanO km47 ko316) (t47_316 hT (by omega) (by omega)) (fun r5085 hr5085 => ?_)
  refine y_if 24 16 c192_13 rfl rfl (yz_ne (by omega)) (fun hb5086 => ?_) (fun hb5086 => ?_)
  · refine y_iload 25 c192_24 rfl rfl ?_
    exact y_mRI c192_25 (y_fit0 _) hT hF (⟨by omega, rfl⟩)
  · exact y_mThr c192_16 rfl hT hF (by decide) qOut.I
set_option maxRecDepth 100000 in
theorem t194_316 {L : Nat} {xs : Nat → Int32} {d nn : Nat} {m : yM} {t q : Int} (hT : Ty gT m) (hp : m 169 4 = 1) (ht : -1 ≤ t ∧ t ≤ 5) (hq : -1 ≤ q ∧ q ≤ 29) : YC (gZ L xs) (d + 1) 194 [.ref 169, yI t, yI q] m nn (qTI nn m (fun r m' => (r = q) ∧ m' = m)) := by
  refine YC.mkB [some (.ref 169), some (yI t), some (yI q)] kn194 rfl rfl ?_
  have hF : Fr wMx m m := Fr.rf
  refine y_iload 1 c194_0 rfl rfl ?_
  refine y_iconst 2 c194_1 rfl ?_
  refine y_icmp 29 5 c194_2 rfl rfl (yc_eq (by omega) (by omega)) (fun hb5087 => ?_) (fun hb5087 => ?_)
  · refine y_iload 30 c194_29 rfl rfl ?_
    exact y_mRI c194_30 (y_fit0 _) hT hF (⟨by omega, rfl⟩)
  · refine y_aload 6 c194_5 rfl rfl rfl ?_
    refine y_getS 9 (B := 316) c194_6 rfl kf169_4 (by rw [show m 169 4 = 1 from by have e : m 169 4 = m 169 4 := rfl; omega]; rfl) ?_
    refine y_aload 10 c194_9 rfl rfl rfl ?_
    refine y_iload 11 c194_10 rfl rfl ?_
    have tb5089 := hT.atp 169 4 ((-1)) 1 rfl
    have tb5090 := hT.atp 169 6 0 200 rfl
    refine y_mI 14 [.ref 169, yI q] [.ref 316] c194_11 rfl rfl rfl rfl rfl (ycanO km191 ko169) kg194 qOut.I hF (t191_316 hT (by omega) (by omega)) (fun rq5088 mq5088 hTq5088 hFq5088 hq5088 => ?_)
    obtain ⟨hq5088, rfl⟩ := hq5088
    refine y_iload 15 c194_14 rfl rfl ?_
    refine y_callP 18 [.ref 316, yI rq5088, yI t] [] c194_15 rfl rfl rfl rfl rfl (ycanO km81 ko316) (t81_316 hT (by omega) (by omega)) (fun r5091 hr5091 => ?_)
    refine y_if 29 21 c194_18 rfl rfl (yz_ne (by omega)) (fun hb5092 => ?_) (fun hb5092 => ?_)
    · refine y_iload 30 c194_29 rfl rfl ?_
      exact y_mRI c194_30 (y_fit0 _) hT hF (⟨by omega, rfl⟩)
    · exact y_mThr c194_21 rfl hT hF (by decide) qOut.I
set_option maxRecDepth 100000 in
theorem t195_316 {L : Nat} {xs : Nat → Int32} {d nn : Nat} {m : yM} {k x : Int} (hT : Ty gT m) (hp : m 169 4 = 1) (hk : 0 ≤ k ∧ k ≤ 39) (hx : 0 ≤ x ∧ x ≤ 3) (h5 : m (336 + k.toNat) 0 = 5 → 0 ≤ m (336 + k.toNat) 6) (h3 : (m (336 + k.toNat) 0 = 7 ∨ m (336 + k.toNat) 0 = 8 ∨ m (336 + k.toNat) 0 = 9) → 0 ≤ m (336 + k.toNat) 3) (h9 : m (336 + k.toNat) 0 = 9 → m (336 + k.toNat) 6 ≤ 7) : YC (gZ L xs) (d + 2) 195 [.ref 169, .ref (336 + k.toNat), .ref (252 + x.toNat)] m nn (qTI nn m (fun r m' => -1 ≤ r ∧ r ≤ 29 ∧ m' 169 6 = m 169 6)) := by
  refine YC.mkB [some (.ref 169), some (.ref (336 + k.toNat)), some (.ref (252 + x.toNat))] kn195 rfl rfl ?_
  have hF : Fr wMx m m := Fr.rf
  refine y_aload 1 c195_0 rfl rfl rfl ?_
  refine y_getX 4 (m (336 + k.toNat) 0) c195_1 rfl (ff336_0 (by omega)) rfl ?_
  have tb5093 := hT.atp (336 + k.toNat) 0 0 9 (ft336_0 (by omega))
  by_cases hk5094 : m (336 + k.toNat) 0 = 5
  · refine y_top 5 hk5094 ?_
    refine y_tsw 40 c195_4 (by decide) (by decide) rfl rfl ?_
    refine y_aload 41 c195_40 rfl rfl rfl ?_
    refine y_aload 42 c195_41 rfl rfl rfl ?_
    refine y_getX 45 (m (336 + k.toNat) 6) c195_42 rfl (ff336_6 (by omega)) rfl ?_
    have tb5095 := hT.atp (336 + k.toNat) 6 ((-1)) 11 (ft336_6 (by omega))
    have tb5097 := hT.atp 169 6 0 200 rfl
    refine y_mI 48 [.ref 169, yI (m (336 + k.toNat) 6)] [] c195_45 rfl rfl rfl rfl rfl (ycanO km186 ko169) kg195 qOut.I hF (t186 hT (by omega)) (fun rq5096 mq5096 hTq5096 hFq5096 hq5096 => ?_)
    have hF5098 := hF.tr' hFq5096
    have tb5099 := hTq5096.atp 169 6 0 200 rfl
    exact y_mRI c195_48 (y_fit0 _) hTq5096 hF5098 (by omega)
  by_cases hk5100 : m (336 + k.toNat) 0 = 6
  · refine y_top 6 hk5100 ?_
    refine y_tsw 96 c195_4 (by decide) (by decide) rfl rfl ?_
    refine y_iconst 97 c195_96 rfl ?_
    have tb5101 := hT.atp 169 6 0 200 rfl
    exact y_mRI c195_97 (y_fit0 _) hT hF (by omega)
  by_cases hk5102 : m (336 + k.toNat) 0 = 7
  · refine y_top 7 hk5102 ?_
    refine y_tsw 49 c195_4 (by decide) (by decide) rfl rfl ?_
    refine y_aload 50 c195_49 rfl rfl rfl ?_
    refine y_aload 51 c195_50 rfl rfl rfl ?_
    refine y_getX 54 (m (336 + k.toNat) 7) c195_51 rfl (ff336_7 (by omega)) rfl ?_
    have tb5103 := hT.atp (336 + k.toNat) 7 ((-1)) 5 (ft336_7 (by omega))
    refine y_aload 55 c195_54 rfl rfl rfl ?_
    refine y_aload 56 c195_55 rfl rfl rfl ?_
    refine y_getX 59 (m (336 + k.toNat) 3) c195_56 rfl (ff336_3 (by omega)) rfl ?_
    have tb5104 := hT.atp (336 + k.toNat) 3 ((-1)) 47 (ft336_3 (by omega))
    refine y_iaT 60 ((-1)) 29 c195_59 rfl (fa252 (by omega)) (by omega) hT (fz252 (by omega)) (fun v5105 hv5105 gv5105 => ?_)
    have tb5107 := hT.atp 169 4 ((-1)) 1 rfl
    have tb5108 := hT.atp 169 6 0 200 rfl
    refine y_mI 63 [.ref 169, yI (m (336 + k.toNat) 7), yI v5105] [] c195_60 rfl rfl rfl rfl rfl (ycanO km194 ko169) kg195 qOut.I hF (t194_316 hT (by omega) (by omega) (by omega)) (fun rq5106 mq5106 hTq5106 hFq5106 hq5106 => ?_)
    obtain ⟨hq5106, rfl⟩ := hq5106
    exact y_mRI c195_63 (y_fit0 _) hT hF (by omega)
  by_cases hk5109 : m (336 + k.toNat) 0 = 8
  · refine y_top 8 hk5109 ?_
    refine y_tsw 64 c195_4 (by decide) (by decide) rfl rfl ?_
    refine y_aload 65 c195_64 rfl rfl rfl ?_
    refine y_aload 66 c195_65 rfl rfl rfl ?_
    refine y_getX 69 (m (336 + k.toNat) 3) c195_66 rfl (ff336_3 (by omega)) rfl ?_
    have tb5110 := hT.atp (336 + k.toNat) 3 ((-1)) 47 (ft336_3 (by omega))
    refine y_iaT 70 ((-1)) 29 c195_69 rfl (fa252 (by omega)) (by omega) hT (fz252 (by omega)) (fun v5111 hv5111 gv5111 => ?_)
    have tb5112 := hT.atp 169 6 0 200 rfl
    exact y_mRI c195_70 (y_fit0 _) hT hF (by omega)
  by_cases hk5113 : m (336 + k.toNat) 0 = 9
  · refine y_top 9 hk5113 ?_
    refine y_tsw 71 c195_4 (by decide) (by decide) rfl rfl ?_
    refine y_aload 72 c195_71 rfl rfl rfl ?_
    refine y_getR 75 c195_72 rfl kf169_2 ?_
    refine y_aload 76 c195_75 rfl rfl rfl ?_
    refine y_aload 77 c195_76 rfl rfl rfl ?_
    refine y_aload 78 c195_77 rfl rfl rfl ?_
    refine y_getX 81 (m (336 + k.toNat) 3) c195_78 rfl (ff336_3 (by omega)) rfl ?_
    have tb5114 := hT.atp (336 + k.toNat) 3 ((-1)) 47 (ft336_3 (by omega))
    refine y_iaT 82 ((-1)) 29 c195_81 rfl (fa252 (by omega)) (by omega) hT (fz252 (by omega)) (fun v5115 hv5115 gv5115 => ?_)
    refine y_aload 83 c195_82 rfl rfl rfl ?_
    refine y_getX 86 (m (336 + k.toNat) 6) c195_83 rfl (ff336_6 (by omega)) rfl ?_
    have tb5116 := hT.atp (336 + k.toNat) 6 ((-1)) 11 (ft336_6 (by omega))
    have tb5118 := hT.atp 169 4 ((-1)) 1 rfl
    have tb5119 := hT.atp 169 6 0 200 rfl
    refine y_mI 89 [.ref 169, yI v5115, yI (m (336 + k.toNat) 6)] [.ref 220] c195_86 rfl rfl rfl rfl rfl (ycanO km192 ko169) kg195 qOut.I hF (t192_316 hT (by omega) (by omega) (by omega)) (fun rq5117 mq5117 hTq5117 hFq5117 hq5117 => ?_)
    obtain ⟨hq5117, rfl⟩ := hq5117
    refine y_aaload 90 c195_89 rfl kr220 (by omega) ?_
    refine y_aload 91 c195_90 rfl rfl rfl ?_
    refine y_getX 94 (m (336 + k.toNat) 6) c195_91 rfl (ff336_6 (by omega)) rfl ?_
    refine y_iaT 95 ((-1)) 29 c195_94 rfl (fa221 (by omega)) (by omega) hT (fz221 (by omega)) (fun v5120 hv5120 gv5120 => ?_)
    exact y_mRI c195_95 (y_fit0 _) hT hF (by omega)
  refine y_tswd 96 c195_4 (by omega) (by omega) rfl ?_
  refine y_iconst 97 c195_96 rfl ?_
  have tb5121 := hT.atp 169 6 0 200 rfl
  exact y_mRI c195_97 (y_fit0 _) hT hF (by omega)
/-- what a body's run is, once b statements have begun -/
def BR316 (L : Nat) (xs : Nat → Int32) (D : Nat) (b : Int) : Prop := ∀ (nn : Nat) (m : yM) (f e x : Int), Ty gT m → m 169 4 = 1 → PS 316 m → b ≤ m 169 6 → 0 ≤ f ∧ f ≤ 40 → 0 ≤ e ∧ e ≤ m 316 16 → 0 ≤ x ∧ x ≤ 3 → YC (gZ L xs) D 197 [.ref 169, yI f, yI e, yI x] m nn (qTI nn m (fun r m' => (r = 0 ∨ r = 1) ∧ m 169 6 ≤ m' 169 6))
set_option maxRecDepth 100000 in
theorem t190a_316 {L : Nat} {xs : Nat → Int32} {d nn : Nat} {m : yM} {k x : Int} (hT : Ty gT m) (hp : m 169 4 = 1) {b : Int} (hS : PS 316 m) (hkc : 0 ≤ k ∧ k < m 316 16) (hx : 0 ≤ x ∧ x ≤ 3) (hb : b ≤ m 169 6) (hB : BR316 L xs (d + 2) b) (h3 : 0 ≤ m (336 + k.toNat) 3) (h11 : m (336 + k.toNat) 11 ≤ m 316 16) : ∀ (k : Nat) (i : Int) (mi : yM), 201 - i = k → 0 ≤ i ∧ i ≤ 201 → Ty gT mi → Fr wMx m mi → m 169 6 ≤ mi 169 6 → YW (gZ L xs) 190 (d + 3) 13 [some (.ref 169), some (yI k), some (yI x), some (.ref (336 + k.toNat)), some (yI i)] [] mi nn (qTI nn m (fun r m' => (r = 0 ∨ r = 1) ∧ m 169 6 ≤ m' 169 6)) := by
  intro k
  induction k using Nat.strongRecOn with
  | ind k ih =>
    intro i mi hk hi hTi hFi h6
    have tb16 := hT.atp 316 16 0 40 rfl
    have tb10 := hT.atp 316 10 0 10 rfl
    have tb6 := hT.atp 169 6 0 200 rfl
    have hen := hS.2.1 k.toNat (by omega) (by omega)
    have hk40 : k ≤ 39 := by omega
    have hen2 : m (336 + k.toNat) 11 ≤ 40 := (hT.atp (336 + k.toNat) 11 0 40 (ft336_11 (by omega))).2
    refine y_iload 15 c190_13 rfl rfl ?_
    refine y_iconst 18 c190_15 rfl ?_
    refine y_icmp 63 21 c190_18 rfl rfl (yc_gt (by omega) (by omega)) (fun hb5122 => ?_) (fun hb5122 => ?_)
    · refine y_iconst 64 c190_63 rfl ?_
      have tb5123 := hTi.atp 169 6 0 200 rfl
      exact y_mRI c190_64 (y_fit1 (by omega)) hTi hFi (by omega)
    · refine y_aload 22 c190_21 rfl rfl rfl ?_
      refine y_getR 25 c190_22 rfl kf169_3 ?_
      refine y_iload 26 c190_25 rfl rfl ?_
      refine y_aaload 27 c190_26 rfl kr251 (by omega) ?_
      refine y_aload 28 c190_27 rfl rfl rfl ?_
      refine y_getX 31 (m (336 + k.toNat) 3) c190_28 rfl (ff336_3 (by omega)) (hFi (336 + k.toNat) 3 (wMx_h (by omega))) ?_
      have tb5124 := hT.atp (336 + k.toNat) 3 ((-1)) 47 (ft336_3 (by omega))
      refine y_iaT 32 ((-1)) 29 c190_31 rfl (fa252 (by omega)) (by omega) hTi (fz252 (by omega)) (fun v5125 hv5125 gv5125 => ?_)
      refine y_iconst 33 c190_32 rfl ?_
      refine y_icmp 63 36 c190_33 rfl rfl (yc_eq (by omega) (by omega)) (fun hb5126 => ?_) (fun hb5126 => ?_)
      · refine y_iconst 64 c190_63 rfl ?_
        have tb5127 := hTi.atp 169 6 0 200 rfl
        exact y_mRI c190_64 (y_fit1 (by omega)) hTi hFi (by omega)
      · refine y_aload 37 c190_36 rfl rfl rfl ?_
        refine y_iload 38 c190_37 rfl rfl ?_
        refine y_iconst 39 c190_38 rfl ?_
        refine y_iadd 40 c190_39 rfl ?_
        refine y_aload 41 c190_40 rfl rfl rfl ?_
        refine y_getX 44 (m (336 + k.toNat) 11) c190_41 rfl (ff336_11 (by omega)) (hFi (336 + k.toNat) 11 (wMx_h (by omega))) ?_
        have tb5128 := hT.atp (336 + k.toNat) 11 0 40 (ft336_11 (by omega))
        refine y_iload 45 c190_44 rfl rfl ?_
        have es5130 : mi 169 4 = m 169 4 := (hFi 169 4 rfl)
        have tb5131 := hT.atp 169 4 ((-1)) 1 rfl
        have tb5132 := hTi.atp 169 6 0 200 rfl
        have es5133 : mi 316 16 = m 316 16 := (hFi 316 16 rfl)
        have tb5134 := hT.atp 316 16 0 40 rfl
        have es5135 : mi 316 10 = m 316 10 := (hFi 316 10 rfl)
        have tb5136 := hT.atp 316 10 0 10 rfl
        refine y_mI 48 [.ref 169, yI (k + 1), yI (m (336 + k.toNat) 11), yI x] [] c190_45 rfl rfl rfl rfl rfl (ycanO km197 ko169) kg190 qOut.I hFi (hB _ _ _ _ _ hTi (by omega) (hS.fr (by omega) (by omega) (fun k q _ => hFi _ _ (wMx_h (by omega)))) (by omega) (by omega) (by omega) (by omega)) (fun rq5129 mq5129 hTq5129 hFq5129 hq5129 => ?_)
        have hF5137 := hFi.tr' hFq5129
        refine y_if 53 51 c190_48 rfl rfl (yz_eq (by omega)) (fun hb5138 => ?_) (fun hb5138 => ?_)
        · refine y_aload 54 c190_53 rfl rfl rfl ?_
          have tb5140 := hTq5129.atp 169 6 0 200 rfl
          refine y_mU 57 [.ref 169] [] c190_54 rfl rfl rfl rfl rfl (ycanO km189 ko169) kg190 qOut.I hF5137 (t189 hTq5129) (fun mq5139 hTq5139 hFq5139 hq5139 => ?_)
          have hF5141 := hF5137.tr' hFq5139
          refine y_iinc 60 c190_57 rfl rfl rfl ?_
          refine y_goto 13 c190_60 rfl ?_
          exact ih (201 - (i + 1) : Int).toNat (by omega) (i + 1)  _ (by omega) (by omega) hTq5139 hF5141 (by have e : mq5139 169 6 = mq5139 169 6 := rfl; omega)
        · refine y_iconst 52 c190_51 rfl ?_
          have tb5142 := hTq5129.atp 169 6 0 200 rfl
          exact y_mRI c190_52 (y_fit1 (by omega)) hTq5129 hF5137 (by omega)
set_option maxRecDepth 100000 in
theorem t190_316 {L : Nat} {xs : Nat → Int32} {d nn : Nat} {m : yM} {k x : Int} (hT : Ty gT m) (hp : m 169 4 = 1) {b : Int} (hS : PS 316 m) (hkc : 0 ≤ k ∧ k < m 316 16) (hx : 0 ≤ x ∧ x ≤ 3) (hb : b ≤ m 169 6) (hB : BR316 L xs (d + 2) b) (h3 : 0 ≤ m (336 + k.toNat) 3) (h11 : m (336 + k.toNat) 11 ≤ m 316 16) : YC (gZ L xs) (d + 3) 190 [.ref 169, yI k, yI x] m nn (qTI nn m (fun r m' => (r = 0 ∨ r = 1) ∧ m 169 6 ≤ m' 169 6)) := by
  have tb16 := hT.atp 316 16 0 40 rfl
  have tb10 := hT.atp 316 10 0 10 rfl
  have tb6 := hT.atp 169 6 0 200 rfl
  refine YC.mkB [some (.ref 169), some (yI k), some (yI x), none, none] kn190 rfl rfl ?_
  have hF : Fr wMx m m := Fr.rf
  refine y_aload 1 c190_0 rfl rfl rfl ?_
  refine y_getS 4 (B := 316) c190_1 rfl kf169_4 (by rw [show m 169 4 = 1 from by have e : m 169 4 = m 169 4 := rfl; omega]; rfl) ?_
  refine y_getR 7 c190_4 rfl kf316_6 ?_
  refine y_iload 8 c190_7 rfl rfl ?_
  refine y_aaload 9 c190_8 rfl kr323 (by omega) ?_
  refine y_astore 10 c190_9 rfl rfl rfl ?_
  refine y_iconst 11 c190_10 rfl ?_
  refine y_istore 13 c190_11 rfl rfl ?_
  exact t190a_316 hT hp hS hkc hx hb hB h3 h11 201 0 m (by omega) (by omega) hT Fr.rf (by omega)
set_option maxRecDepth 100000 in
theorem t193_316 {L : Nat} {xs : Nat → Int32} {d nn : Nat} {m : yM} {k x : Int} (hT : Ty gT m) (hp : m 169 4 = 1) {b : Int} (hS : PS 316 m) (hkc : 0 ≤ k ∧ k < m 316 16) (hx : 0 ≤ x ∧ x ≤ 3) (hb : b ≤ m 169 6) (hB : BR316 L xs (d + 2) b) (h4 : m (336 + k.toNat) 0 = 4) : YC (gZ L xs) (d + 3) 193 [.ref 169, .ref (336 + k.toNat), yI x] m nn (qTU nn m (fun m' => m 169 6 ≤ m' 169 6)) := by
  have tb16 := hT.atp 316 16 0 40 rfl
  have tb10 := hT.atp 316 10 0 10 rfl
  have tb6 := hT.atp 169 6 0 200 rfl
  have hsv : SV %d m k.toNat := (hS.1.1 k.toNat (by omega) (by omega)).1
  unfold SV at hsv
  obtain ⟨s1, s2, s3, s4, s5⟩ := hsv
  have hen := hS.2.1 k.toNat (by omega) (by omega)
  have hnl := hS.2.2.1 k.toNat (by omega) (by omega)
  have hM : MP 326 m := hS.2.2.2.1
  refine YC.mkB [some (.ref 169), some (.ref (336 + k.toNat)), some (yI x), none, none, none, none, none] kn193 rfl rfl ?_
  have hF : Fr wMx m m := Fr.rf
  refine y_aload 1 c193_0 rfl rfl rfl ?_
  refine y_getR 4 c193_1 rfl kf169_3 ?_
  refine y_iload 5 c193_4 rfl rfl ?_
  refine y_aaload 6 c193_5 rfl kr251 (by omega) ?_
  refine y_astore 7 c193_6 rfl rfl rfl ?_
  refine y_aload 8 c193_7 rfl rfl rfl ?_
  refine y_aload 9 c193_8 rfl rfl rfl ?_
  refine y_getX 12 (m (336 + k.toNat) 3) c193_9 rfl (ff336_3 (by omega)) rfl ?_
  have tb5143 := hT.atp (336 + k.toNat) 3 ((-1)) 47 (ft336_3 (by omega))
  refine y_iaT 13 ((-1)) 29 c193_12 rfl (fa252 (by omega)) (by omega) hT (fz252 (by omega)) (fun v5144 hv5144 gv5144 => ?_)
  refine y_istore 15 c193_13 rfl rfl ?_
  refine y_aload 16 c193_15 rfl rfl rfl ?_
  refine y_getS 19 (B := 316) c193_16 rfl kf169_4 (by rw [show m 169 4 = 1 from by have e : m 169 4 = m 169 4 := rfl; omega]; rfl) ?_
  refine y_aload 20 c193_19 rfl rfl rfl ?_
  refine y_iload 22 c193_20 rfl rfl ?_
  have tb5146 := hT.atp 169 4 ((-1)) 1 rfl
  have tb5147 := hT.atp 169 6 0 200 rfl
  refine y_mI 25 [.ref 169, yI v5144] [.ref 316] c193_22 rfl rfl rfl rfl rfl (ycanO km191 ko169) kg193 qOut.U hF (t191_316 hT (by omega) (by omega)) (fun rq5145 mq5145 hTq5145 hFq5145 hq5145 => ?_)
  obtain ⟨hq5145, rfl⟩ := hq5145
  refine y_aload 26 c193_25 rfl rfl rfl ?_
  refine y_getX 29 (m (336 + k.toNat) 4) c193_26 rfl (ff336_4 (by omega)) rfl ?_
  have tb5148 := hT.atp (336 + k.toNat) 4 ((-2147483648)) 2147483647 (ft336_4 (by omega))
  refine y_aload 30 c193_29 rfl rfl rfl ?_
  refine y_getX 33 (m (336 + k.toNat) 8) c193_30 rfl (ff336_8 (by omega)) rfl ?_
  have tb5149 := hT.atp (336 + k.toNat) 8 0 2 (ft336_8 (by omega))
  have tb5151 := hT.atp 316 10 0 10 rfl
  refine y_callP 36 [.ref 316, yI rq5145, yI (m (336 + k.toNat) 4), yI (m (336 + k.toNat) 8)] [] c193_33 rfl rfl rfl rfl rfl (ycanO km72 ko316) (t72_316 hT (by omega) (by omega) (by omega)) (fun r5150 hr5150 => ?_)
  refine y_istore 38 c193_36 rfl rfl ?_
  refine y_iload 40 c193_38 rfl rfl ?_
  refine y_iconst 41 c193_40 rfl ?_
  refine y_icmp 52 44 c193_41 rfl rfl (yc_ne (by omega) (by omega)) (fun hb5152 => ?_) (fun hb5152 => ?_)
  · have hes : m (326 + r5150.toNat) 5 ≤ m 316 16 := hS.2.2.2.2.1 r5150.toNat (by omega)
    have hm3 := hr5150.2.2 (by omega)
    refine y_aload 53 c193_52 rfl rfl rfl ?_
    refine y_getS 56 (B := 316) c193_53 rfl kf169_4 (by rw [show m 169 4 = 1 from by have e : m 169 4 = m 169 4 := rfl; omega]; rfl) ?_
    refine y_getR 59 c193_56 rfl kf316_5 ?_
    refine y_iload 61 c193_59 rfl rfl ?_
    refine y_aaload 62 c193_61 rfl kr322 (by omega) ?_
    refine y_astore 64 c193_62 rfl rfl rfl ?_
    refine y_aload 65 c193_64 rfl rfl rfl ?_
    refine y_iload 66 c193_65 rfl rfl ?_
    refine y_iconst 67 c193_66 rfl ?_
    refine y_iadd 68 c193_67 rfl ?_
    refine y_mA 71 [.ref 169, yI (x + 1)] [] c193_68 rfl rfl rfl rfl rfl (ycanO km187 ko169) kg193 qOut.U hF (t187 hT (by omega)) (fun rq5153 mq5153 hTq5153 hFq5153 hq5153 => ?_)
    have hF5154 := hF.tr' hFq5153
    obtain ⟨rfl, hq5153⟩ := hq5153
    refine y_astore 73 c193_71 rfl rfl rfl ?_
    refine y_aload 74 c193_73 rfl rfl rfl ?_
    refine y_aload 76 c193_74 rfl rfl rfl ?_
    refine y_aload 78 c193_76 rfl rfl rfl ?_
    refine y_callP 81 [.ref (326 + r5150.toNat)] [.ref (252 + (x + 1).toNat), .ref 169] c193_78 rfl rfl rfl rfl rfl (ycanO km57 (fo326 (by omega))) (t57_316 hTq5153 (by omega)) (fun r5155 hr5155 => ?_)
    refine y_iload 83 c193_81 rfl rfl ?_
    have tb5157 := hTq5153.atp 169 6 0 200 rfl
    refine y_callUB 86 [.ref 169, .ref (252 + (x + 1).toNat), yI r5155, yI v5144] [] c193_83 rfl rfl rfl rfl rfl (ycanO km188 ko169) (t188 hTq5153 (by omega) (by omega) (by omega)) (fun mq5156 nq5156 hq5156 => ?_)
    obtain ⟨rfl, hTq5156, hFq5156, hq5156⟩ := hq5156
    have hF5158 := hF5154.tr hFq5156 (fun _ _ e => e)
    refine y_aload 87 c193_86 rfl rfl rfl ?_
    refine y_getX 90 (m (336 + k.toNat) 8) c193_87 rfl (ff336_8 (by omega)) ((hFq5156 (336 + k.toNat) 8 (wMx_h (by omega))).trans (hFq5153 (336 + k.toNat) 8 (wMx_h (by omega)))) ?_
    refine y_if 111 93 c193_90 rfl rfl (yz_le (by omega)) (fun hb5159 => ?_) (fun hb5159 => ?_)
    · refine y_aload 112 c193_111 rfl rfl rfl ?_
      refine y_getX 115 (m (336 + k.toNat) 8) c193_112 rfl (ff336_8 (by omega)) ((hFq5156 (336 + k.toNat) 8 (wMx_h (by omega))).trans (hFq5153 (336 + k.toNat) 8 (wMx_h (by omega)))) ?_
      refine y_iconst 116 c193_115 rfl ?_
      refine y_icmp 137 119 c193_116 rfl rfl (yc_le (by omega) (by omega)) (fun hb5160 => ?_) (fun hb5160 => ?_)
      · refine y_aload 138 c193_137 rfl rfl rfl ?_
        refine y_aload 140 c193_138 rfl rfl rfl ?_
        refine y_getX 143 (m (326 + r5150.toNat) 4) c193_140 rfl (ff326_4 (by omega)) ((hFq5156 (326 + r5150.toNat) 4 (wMx_h (by omega))).trans (hFq5153 (326 + r5150.toNat) 4 (wMx_h (by omega)))) ?_
        have tb5161 := hT.atp (326 + r5150.toNat) 4 0 40 (ft326_4 (by omega))
        refine y_aload 145 c193_143 rfl rfl rfl ?_
        refine y_getX 148 (m (326 + r5150.toNat) 5) c193_145 rfl (ff326_5 (by omega)) ((hFq5156 (326 + r5150.toNat) 5 (wMx_h (by omega))).trans (hFq5153 (326 + r5150.toNat) 5 (wMx_h (by omega)))) ?_
        have tb5162 := hT.atp (326 + r5150.toNat) 5 0 40 (ft326_5 (by omega))
        refine y_iload 149 c193_148 rfl rfl ?_
        refine y_iconst 150 c193_149 rfl ?_
        refine y_iadd 151 c193_150 rfl ?_
        have es5164 : mq5156 169 4 = m 169 4 := ((hFq5156 169 4 rfl).trans (hFq5153 169 4 rfl))
        have tb5165 := hTq5156.atp 169 6 0 200 rfl
        have es5166 : mq5156 316 16 = m 316 16 := ((hFq5156 316 16 rfl).trans (hFq5153 316 16 rfl))
        have tb5167 := hT.atp 316 16 0 40 rfl
        have es5168 : mq5156 316 10 = m 316 10 := ((hFq5156 316 10 rfl).trans (hFq5153 316 10 rfl))
        refine y_mI 154 [.ref 169, yI (m (326 + r5150.toNat) 4), yI (m (326 + r5150.toNat) 5), yI (x + 1)] [] c193_151 rfl rfl rfl rfl rfl (ycanO km197 ko169) kg193 qOut.U hF5158 (hB _ _ _ _ _ hTq5156 (by omega) (hS.fr (by omega) (by omega) (fun k q _ => hF5158 _ _ (wMx_h (by omega)))) (by omega) (by omega) (by omega) (by omega)) (fun rq5163 mq5163 hTq5163 hFq5163 hq5163 => ?_)
        have hF5169 := hF5158.tr' hFq5163
        refine y_pop 155 c193_154 rfl rfl ?_
        refine y_aload 156 c193_155 rfl rfl rfl ?_
        refine y_getX 159 (m (336 + k.toNat) 2) c193_156 rfl (ff336_2 (by omega)) ((hFq5163 (336 + k.toNat) 2 (wMx_h (by omega))).trans ((hFq5156 (336 + k.toNat) 2 (wMx_h (by omega))).trans (hFq5153 (336 + k.toNat) 2 (wMx_h (by omega))))) ?_
        have tb5170 := hT.atp (336 + k.toNat) 2 ((-1)) 47 (ft336_2 (by omega))
        refine y_iconst 160 c193_159 rfl ?_
        refine y_icmp 180 163 c193_160 rfl rfl (yc_eq (by omega) (by omega)) (fun hb5171 => ?_) (fun hb5171 => ?_)
        · have tb5172 := hTq5163.atp 169 6 0 200 rfl
          exact y_mRU c193_180 hTq5163 hF5169 (by omega)
        · refine y_aload 164 c193_163 rfl rfl rfl ?_
          refine y_aload 165 c193_164 rfl rfl rfl ?_
          refine y_aload 166 c193_165 rfl rfl rfl ?_
          refine y_getX 169 (m (336 + k.toNat) 2) c193_166 rfl (ff336_2 (by omega)) ((hFq5163 (336 + k.toNat) 2 (wMx_h (by omega))).trans ((hFq5156 (336 + k.toNat) 2 (wMx_h (by omega))).trans (hFq5153 (336 + k.toNat) 2 (wMx_h (by omega))))) ?_
          refine y_aload 171 c193_169 rfl rfl rfl ?_
          refine y_aload 173 c193_171 rfl rfl rfl ?_
          refine y_getX 176 (m (326 + r5150.toNat) 2) c193_173 rfl (ff326_2 (by omega)) ((hFq5163 (326 + r5150.toNat) 2 (wMx_h (by omega))).trans ((hFq5156 (326 + r5150.toNat) 2 (wMx_h (by omega))).trans (hFq5153 (326 + r5150.toNat) 2 (wMx_h (by omega))))) ?_
          have tb5173 := hT.atp (326 + r5150.toNat) 2 0 46 (ft326_2 (by omega))
          refine y_iaT 177 ((-1)) 29 c193_176 rfl (fa252 (by omega)) (by omega) hTq5163 (fz252 (by omega)) (fun v5174 hv5174 gv5174 => ?_)
          have tb5176 := hTq5163.atp 169 6 0 200 rfl
          refine y_callUB 180 [.ref 169, .ref (252 + x.toNat), yI (m (336 + k.toNat) 2), yI v5174] [] c193_177 rfl rfl rfl rfl rfl (ycanO km188 ko169) (t188 hTq5163 (by omega) (by omega) (by omega)) (fun mq5175 nq5175 hq5175 => ?_)
          obtain ⟨rfl, hTq5175, hFq5175, hq5175⟩ := hq5175
          have hF5177 := hF5169.tr hFq5175 (fun _ _ e => e)
          have tb5178 := hTq5175.atp 169 6 0 200 rfl
          exact y_mRU c193_180 hTq5175 hF5177 (by omega)
      · exfalso; omega
    · refine y_aload 94 c193_93 rfl rfl rfl ?_
      refine y_aload 96 c193_94 rfl rfl rfl ?_
      refine y_aload 98 c193_96 rfl rfl rfl ?_
      refine y_iconst 99 c193_98 rfl ?_
      have es5180 : mq5156 (326 + r5150.toNat) 3 = m (326 + r5150.toNat) 3 := ((hFq5156 (326 + r5150.toNat) 3 (wMx_h (by omega))).trans (hFq5153 (326 + r5150.toNat) 3 (wMx_h (by omega))))
      have tb5181 := hT.atp (326 + r5150.toNat) 3 0 2 (ft326_3 (by omega))
      refine y_callP 102 [.ref (326 + r5150.toNat), yI 0] [.ref (252 + (x + 1).toNat), .ref 169] c193_99 rfl rfl rfl rfl rfl (ycanO km87 (fo326 (by omega))) (t87_316 hTq5156 (by omega) (by omega) (hM.fr (fun k hk => hF5158 _ _ (wMx_h (by omega))) (fun k hk => hF5158 _ _ (wMx_h (by omega))))) (fun r5179 hr5179 => ?_)
      refine y_aload 103 c193_102 rfl rfl rfl ?_
      refine y_aload 104 c193_103 rfl rfl rfl ?_
      refine y_getX 107 (m (336 + k.toNat) 9) c193_104 rfl (ff336_9 (by omega)) ((hFq5156 (336 + k.toNat) 9 (wMx_h (by omega))).trans (hFq5153 (336 + k.toNat) 9 (wMx_h (by omega)))) ?_
      have tb5182 := hT.atp (336 + k.toNat) 9 ((-1)) 47 (ft336_9 (by omega))
      refine y_iaT 108 ((-1)) 29 c193_107 rfl (fa252 (by omega)) (by omega) hTq5156 (fz252 (by omega)) (fun v5183 hv5183 gv5183 => ?_)
      have tb5185 := hTq5156.atp 169 6 0 200 rfl
      refine y_callUB 111 [.ref 169, .ref (252 + (x + 1).toNat), yI r5179, yI v5183] [] c193_108 rfl rfl rfl rfl rfl (ycanO km188 ko169) (t188 hTq5156 (by omega) (by omega) (by omega)) (fun mq5184 nq5184 hq5184 => ?_)
      obtain ⟨rfl, hTq5184, hFq5184, hq5184⟩ := hq5184
      have hF5186 := hF5158.tr hFq5184 (fun _ _ e => e)
      refine y_aload 112 c193_111 rfl rfl rfl ?_
      refine y_getX 115 (m (336 + k.toNat) 8) c193_112 rfl (ff336_8 (by omega)) ((hFq5184 (336 + k.toNat) 8 (wMx_h (by omega))).trans ((hFq5156 (336 + k.toNat) 8 (wMx_h (by omega))).trans (hFq5153 (336 + k.toNat) 8 (wMx_h (by omega))))) ?_
      refine y_iconst 116 c193_115 rfl ?_
      refine y_icmp 137 119 c193_116 rfl rfl (yc_le (by omega) (by omega)) (fun hb5187 => ?_) (fun hb5187 => ?_)
      · refine y_aload 138 c193_137 rfl rfl rfl ?_
        refine y_aload 140 c193_138 rfl rfl rfl ?_
        refine y_getX 143 (m (326 + r5150.toNat) 4) c193_140 rfl (ff326_4 (by omega)) ((hFq5184 (326 + r5150.toNat) 4 (wMx_h (by omega))).trans ((hFq5156 (326 + r5150.toNat) 4 (wMx_h (by omega))).trans (hFq5153 (326 + r5150.toNat) 4 (wMx_h (by omega))))) ?_
        have tb5188 := hT.atp (326 + r5150.toNat) 4 0 40 (ft326_4 (by omega))
        refine y_aload 145 c193_143 rfl rfl rfl ?_
        refine y_getX 148 (m (326 + r5150.toNat) 5) c193_145 rfl (ff326_5 (by omega)) ((hFq5184 (326 + r5150.toNat) 5 (wMx_h (by omega))).trans ((hFq5156 (326 + r5150.toNat) 5 (wMx_h (by omega))).trans (hFq5153 (326 + r5150.toNat) 5 (wMx_h (by omega))))) ?_
        have tb5189 := hT.atp (326 + r5150.toNat) 5 0 40 (ft326_5 (by omega))
        refine y_iload 149 c193_148 rfl rfl ?_
        refine y_iconst 150 c193_149 rfl ?_
        refine y_iadd 151 c193_150 rfl ?_
        have es5191 : mq5184 169 4 = m 169 4 := ((hFq5184 169 4 rfl).trans ((hFq5156 169 4 rfl).trans (hFq5153 169 4 rfl)))
        have tb5192 := hTq5184.atp 169 6 0 200 rfl
        have es5193 : mq5184 316 16 = m 316 16 := ((hFq5184 316 16 rfl).trans ((hFq5156 316 16 rfl).trans (hFq5153 316 16 rfl)))
        have tb5194 := hT.atp 316 16 0 40 rfl
        have es5195 : mq5184 316 10 = m 316 10 := ((hFq5184 316 10 rfl).trans ((hFq5156 316 10 rfl).trans (hFq5153 316 10 rfl)))
        refine y_mI 154 [.ref 169, yI (m (326 + r5150.toNat) 4), yI (m (326 + r5150.toNat) 5), yI (x + 1)] [] c193_151 rfl rfl rfl rfl rfl (ycanO km197 ko169) kg193 qOut.U hF5186 (hB _ _ _ _ _ hTq5184 (by omega) (hS.fr (by omega) (by omega) (fun k q _ => hF5186 _ _ (wMx_h (by omega)))) (by omega) (by omega) (by omega) (by omega)) (fun rq5190 mq5190 hTq5190 hFq5190 hq5190 => ?_)
        have hF5196 := hF5186.tr' hFq5190
        refine y_pop 155 c193_154 rfl rfl ?_
        refine y_aload 156 c193_155 rfl rfl rfl ?_
        refine y_getX 159 (m (336 + k.toNat) 2) c193_156 rfl (ff336_2 (by omega)) ((hFq5190 (336 + k.toNat) 2 (wMx_h (by omega))).trans ((hFq5184 (336 + k.toNat) 2 (wMx_h (by omega))).trans ((hFq5156 (336 + k.toNat) 2 (wMx_h (by omega))).trans (hFq5153 (336 + k.toNat) 2 (wMx_h (by omega)))))) ?_
        have tb5197 := hT.atp (336 + k.toNat) 2 ((-1)) 47 (ft336_2 (by omega))
        refine y_iconst 160 c193_159 rfl ?_
        refine y_icmp 180 163 c193_160 rfl rfl (yc_eq (by omega) (by omega)) (fun hb5198 => ?_) (fun hb5198 => ?_)
        · have tb5199 := hTq5190.atp 169 6 0 200 rfl
          exact y_mRU c193_180 hTq5190 hF5196 (by omega)
        · refine y_aload 164 c193_163 rfl rfl rfl ?_
          refine y_aload 165 c193_164 rfl rfl rfl ?_
          refine y_aload 166 c193_165 rfl rfl rfl ?_
          refine y_getX 169 (m (336 + k.toNat) 2) c193_166 rfl (ff336_2 (by omega)) ((hFq5190 (336 + k.toNat) 2 (wMx_h (by omega))).trans ((hFq5184 (336 + k.toNat) 2 (wMx_h (by omega))).trans ((hFq5156 (336 + k.toNat) 2 (wMx_h (by omega))).trans (hFq5153 (336 + k.toNat) 2 (wMx_h (by omega)))))) ?_
          refine y_aload 171 c193_169 rfl rfl rfl ?_
          refine y_aload 173 c193_171 rfl rfl rfl ?_
          refine y_getX 176 (m (326 + r5150.toNat) 2) c193_173 rfl (ff326_2 (by omega)) ((hFq5190 (326 + r5150.toNat) 2 (wMx_h (by omega))).trans ((hFq5184 (326 + r5150.toNat) 2 (wMx_h (by omega))).trans ((hFq5156 (326 + r5150.toNat) 2 (wMx_h (by omega))).trans (hFq5153 (326 + r5150.toNat) 2 (wMx_h (by omega)))))) ?_
          have tb5200 := hT.atp (326 + r5150.toNat) 2 0 46 (ft326_2 (by omega))
          refine y_iaT 177 ((-1)) 29 c193_176 rfl (fa252 (by omega)) (by omega) hTq5190 (fz252 (by omega)) (fun v5201 hv5201 gv5201 => ?_)
          have tb5203 := hTq5190.atp 169 6 0 200 rfl
          refine y_callUB 180 [.ref 169, .ref (252 + x.toNat), yI (m (336 + k.toNat) 2), yI v5201] [] c193_177 rfl rfl rfl rfl rfl (ycanO km188 ko169) (t188 hTq5190 (by omega) (by omega) (by omega)) (fun mq5202 nq5202 hq5202 => ?_)
          obtain ⟨rfl, hTq5202, hFq5202, hq5202⟩ := hq5202
          have hF5204 := hF5196.tr hFq5202 (fun _ _ e => e)
          have tb5205 := hTq5202.atp 169 6 0 200 rfl
          exact y_mRU c193_180 hTq5202 hF5204 (by omega)
      · refine y_aload 120 c193_119 rfl rfl rfl ?_
        refine y_aload 122 c193_120 rfl rfl rfl ?_
        refine y_aload 124 c193_122 rfl rfl rfl ?_
        refine y_iconst 125 c193_124 rfl ?_
        have es5207 : mq5184 (326 + r5150.toNat) 3 = m (326 + r5150.toNat) 3 := ((hFq5184 (326 + r5150.toNat) 3 (wMx_h (by omega))).trans ((hFq5156 (326 + r5150.toNat) 3 (wMx_h (by omega))).trans (hFq5153 (326 + r5150.toNat) 3 (wMx_h (by omega)))))
        refine y_callP 128 [.ref (326 + r5150.toNat), yI 1] [.ref (252 + (x + 1).toNat), .ref 169] c193_125 rfl rfl rfl rfl rfl (ycanO km87 (fo326 (by omega))) (t87_316 hTq5184 (by omega) (by omega) (hM.fr (fun k hk => hF5186 _ _ (wMx_h (by omega))) (fun k hk => hF5186 _ _ (wMx_h (by omega))))) (fun r5206 hr5206 => ?_)
        refine y_aload 129 c193_128 rfl rfl rfl ?_
        refine y_aload 130 c193_129 rfl rfl rfl ?_
        refine y_getX 133 (m (336 + k.toNat) 10) c193_130 rfl (ff336_10 (by omega)) ((hFq5184 (336 + k.toNat) 10 (wMx_h (by omega))).trans ((hFq5156 (336 + k.toNat) 10 (wMx_h (by omega))).trans (hFq5153 (336 + k.toNat) 10 (wMx_h (by omega))))) ?_
        have tb5208 := hT.atp (336 + k.toNat) 10 ((-1)) 47 (ft336_10 (by omega))
        refine y_iaT 134 ((-1)) 29 c193_133 rfl (fa252 (by omega)) (by omega) hTq5184 (fz252 (by omega)) (fun v5209 hv5209 gv5209 => ?_)
        have tb5211 := hTq5184.atp 169 6 0 200 rfl
        refine y_callUB 137 [.ref 169, .ref (252 + (x + 1).toNat), yI r5206, yI v5209] [] c193_134 rfl rfl rfl rfl rfl (ycanO km188 ko169) (t188 hTq5184 (by omega) (by omega) (by omega)) (fun mq5210 nq5210 hq5210 => ?_)
        obtain ⟨rfl, hTq5210, hFq5210, hq5210⟩ := hq5210
        have hF5212 := hF5186.tr hFq5210 (fun _ _ e => e)
        refine y_aload 138 c193_137 rfl rfl rfl ?_
        refine y_aload 140 c193_138 rfl rfl rfl ?_
        refine y_getX 143 (m (326 + r5150.toNat) 4) c193_140 rfl (ff326_4 (by omega)) ((hFq5210 (326 + r5150.toNat) 4 (wMx_h (by omega))).trans ((hFq5184 (326 + r5150.toNat) 4 (wMx_h (by omega))).trans ((hFq5156 (326 + r5150.toNat) 4 (wMx_h (by omega))).trans (hFq5153 (326 + r5150.toNat) 4 (wMx_h (by omega)))))) ?_
        have tb5213 := hT.atp (326 + r5150.toNat) 4 0 40 (ft326_4 (by omega))
        refine y_aload 145 c193_143 rfl rfl rfl ?_
        refine y_getX 148 (m (326 + r5150.toNat) 5) c193_145 rfl (ff326_5 (by omega)) ((hFq5210 (326 + r5150.toNat) 5 (wMx_h (by omega))).trans ((hFq5184 (326 + r5150.toNat) 5 (wMx_h (by omega))).trans ((hFq5156 (326 + r5150.toNat) 5 (wMx_h (by omega))).trans (hFq5153 (326 + r5150.toNat) 5 (wMx_h (by omega)))))) ?_
        have tb5214 := hT.atp (326 + r5150.toNat) 5 0 40 (ft326_5 (by omega))
        refine y_iload 149 c193_148 rfl rfl ?_
        refine y_iconst 150 c193_149 rfl ?_
        refine y_iadd 151 c193_150 rfl ?_
        have es5216 : mq5210 169 4 = m 169 4 := ((hFq5210 169 4 rfl).trans ((hFq5184 169 4 rfl).trans ((hFq5156 169 4 rfl).trans (hFq5153 169 4 rfl))))
        have tb5217 := hTq5210.atp 169 6 0 200 rfl
        have es5218 : mq5210 316 16 = m 316 16 := ((hFq5210 316 16 rfl).trans ((hFq5184 316 16 rfl).trans ((hFq5156 316 16 rfl).trans (hFq5153 316 16 rfl))))
        have tb5219 := hT.atp 316 16 0 40 rfl
        have es5220 : mq5210 316 10 = m 316 10 := ((hFq5210 316 10 rfl).trans ((hFq5184 316 10 rfl).trans ((hFq5156 316 10 rfl).trans (hFq5153 316 10 rfl))))
        refine y_mI 154 [.ref 169, yI (m (326 + r5150.toNat) 4), yI (m (326 + r5150.toNat) 5), yI (x + 1)] [] c193_151 rfl rfl rfl rfl rfl (ycanO km197 ko169) kg193 qOut.U hF5212 (hB _ _ _ _ _ hTq5210 (by omega) (hS.fr (by omega) (by omega) (fun k q _ => hF5212 _ _ (wMx_h (by omega)))) (by omega) (by omega) (by omega) (by omega)) (fun rq5215 mq5215 hTq5215 hFq5215 hq5215 => ?_)
        have hF5221 := hF5212.tr' hFq5215
        refine y_pop 155 c193_154 rfl rfl ?_
        refine y_aload 156 c193_155 rfl rfl rfl ?_
        refine y_getX 159 (m (336 + k.toNat) 2) c193_156 rfl (ff336_2 (by omega)) ((hFq5215 (336 + k.toNat) 2 (wMx_h (by omega))).trans ((hFq5210 (336 + k.toNat) 2 (wMx_h (by omega))).trans ((hFq5184 (336 + k.toNat) 2 (wMx_h (by omega))).trans ((hFq5156 (336 + k.toNat) 2 (wMx_h (by omega))).trans (hFq5153 (336 + k.toNat) 2 (wMx_h (by omega))))))) ?_
        have tb5222 := hT.atp (336 + k.toNat) 2 ((-1)) 47 (ft336_2 (by omega))
        refine y_iconst 160 c193_159 rfl ?_
        refine y_icmp 180 163 c193_160 rfl rfl (yc_eq (by omega) (by omega)) (fun hb5223 => ?_) (fun hb5223 => ?_)
        · have tb5224 := hTq5215.atp 169 6 0 200 rfl
          exact y_mRU c193_180 hTq5215 hF5221 (by omega)
        · refine y_aload 164 c193_163 rfl rfl rfl ?_
          refine y_aload 165 c193_164 rfl rfl rfl ?_
          refine y_aload 166 c193_165 rfl rfl rfl ?_
          refine y_getX 169 (m (336 + k.toNat) 2) c193_166 rfl (ff336_2 (by omega)) ((hFq5215 (336 + k.toNat) 2 (wMx_h (by omega))).trans ((hFq5210 (336 + k.toNat) 2 (wMx_h (by omega))).trans ((hFq5184 (336 + k.toNat) 2 (wMx_h (by omega))).trans ((hFq5156 (336 + k.toNat) 2 (wMx_h (by omega))).trans (hFq5153 (336 + k.toNat) 2 (wMx_h (by omega))))))) ?_
          refine y_aload 171 c193_169 rfl rfl rfl ?_
          refine y_aload 173 c193_171 rfl rfl rfl ?_
          refine y_getX 176 (m (326 + r5150.toNat) 2) c193_173 rfl (ff326_2 (by omega)) ((hFq5215 (326 + r5150.toNat) 2 (wMx_h (by omega))).trans ((hFq5210 (326 + r5150.toNat) 2 (wMx_h (by omega))).trans ((hFq5184 (326 + r5150.toNat) 2 (wMx_h (by omega))).trans ((hFq5156 (326 + r5150.toNat) 2 (wMx_h (by omega))).trans (hFq5153 (326 + r5150.toNat) 2 (wMx_h (by omega))))))) ?_
          have tb5225 := hT.atp (326 + r5150.toNat) 2 0 46 (ft326_2 (by omega))
          refine y_iaT 177 ((-1)) 29 c193_176 rfl (fa252 (by omega)) (by omega) hTq5215 (fz252 (by omega)) (fun v5226 hv5226 gv5226 => ?_)
          have tb5228 := hTq5215.atp 169 6 0 200 rfl
          refine y_callUB 180 [.ref 169, .ref (252 + x.toNat), yI (m (336 + k.toNat) 2), yI v5226] [] c193_177 rfl rfl rfl rfl rfl (ycanO km188 ko169) (t188 hTq5215 (by omega) (by omega) (by omega)) (fun mq5227 nq5227 hq5227 => ?_)
          obtain ⟨rfl, hTq5227, hFq5227, hq5227⟩ := hq5227
          have hF5229 := hF5221.tr hFq5227 (fun _ _ e => e)
          have tb5230 := hTq5227.atp 169 6 0 200 rfl
          exact y_mRU c193_180 hTq5227 hF5229 (by omega)
  · exact y_mThr c193_44 rfl hT hF (by decide) qOut.U
set_option maxRecDepth 100000 in
theorem t196_316 {L : Nat} {xs : Nat → Int32} {d nn : Nat} {m : yM} {k x : Int} (hT : Ty gT m) (hp : m 169 4 = 1) {b : Int} (hS : PS 316 m) (hkc : 0 ≤ k ∧ k < m 316 16) (hx : 0 ≤ x ∧ x ≤ 3) (hb : b ≤ m 169 6) (hB : BR316 L xs (d + 2) (b + 1)) : YC (gZ L xs) (d + 4) 196 [.ref 169, yI k, yI x] m nn (qTI nn m (fun r m' => (r = 0 ∨ r = 1) ∧ m 169 6 ≤ m' 169 6)) := by
  have tb16 := hT.atp 316 16 0 40 rfl
  have tb10 := hT.atp 316 10 0 10 rfl
  have tb6 := hT.atp 169 6 0 200 rfl
  have hsv : SV %d m k.toNat := (hS.1.1 k.toNat (by omega) (by omega)).1
  unfold SV at hsv
  obtain ⟨s1, s2, s3, s4, s5⟩ := hsv
  have hen := hS.2.1 k.toNat (by omega) (by omega)
  have hnl := hS.2.2.1 k.toNat (by omega) (by omega)
  refine YC.mkB [some (.ref 169), some (yI k), some (yI x), none, none] kn196 rfl rfl ?_
  have hF : Fr wMx m m := Fr.rf
  refine y_aload 1 c196_0 rfl rfl rfl ?_
  have tb5232 := hT.atp 169 6 0 200 rfl
  refine y_mU 4 [.ref 169] [] c196_1 rfl rfl rfl rfl rfl (ycanO km189 ko169) kg196 qOut.I hF (t189 hT) (fun mq5231 hTq5231 hFq5231 hq5231 => ?_)
  have hF5233 := hF.tr' hFq5231
  refine y_aload 5 c196_4 rfl rfl rfl ?_
  refine y_getS 8 (B := 316) c196_5 rfl kf169_4 (by rw [show mq5231 169 4 = 1 from by have e : mq5231 169 4 = m 169 4 := (hFq5231 169 4 rfl); omega]; rfl) ?_
  refine y_getR 11 c196_8 rfl kf316_6 ?_
  refine y_iload 12 c196_11 rfl rfl ?_
  refine y_aaload 13 c196_12 rfl kr323 (by omega) ?_
  refine y_astore 14 c196_13 rfl rfl rfl ?_
  refine y_aload 15 c196_14 rfl rfl rfl ?_
  refine y_getR 18 c196_15 rfl kf169_3 ?_
  refine y_iload 19 c196_18 rfl rfl ?_
  refine y_aaload 20 c196_19 rfl kr251 (by omega) ?_
  refine y_astore 22 c196_20 rfl rfl rfl ?_
  refine y_aload 23 c196_22 rfl rfl rfl ?_
  refine y_getX 26 (m (336 + k.toNat) 0) c196_23 rfl (ff336_0 (by omega)) (hFq5231 (336 + k.toNat) 0 (wMx_h (by omega))) ?_
  have tb5234 := hT.atp (336 + k.toNat) 0 0 9 (ft336_0 (by omega))
  by_cases hk5235 : m (336 + k.toNat) 0 = 0
  · refine y_top 0 hk5235 ?_
    refine y_tsw 60 c196_26 (by decide) (by decide) rfl rfl ?_
    refine y_aload 62 c196_60 rfl rfl rfl ?_
    refine y_aload 63 c196_62 rfl rfl rfl ?_
    refine y_getX 66 (m (336 + k.toNat) 3) c196_63 rfl (ff336_3 (by omega)) (hFq5231 (336 + k.toNat) 3 (wMx_h (by omega))) ?_
    have tb5236 := hT.atp (336 + k.toNat) 3 ((-1)) 47 (ft336_3 (by omega))
    refine y_iaT 67 ((-1)) 29 c196_66 rfl (fa252 (by omega)) (by omega) hTq5231 (fz252 (by omega)) (fun v5237 hv5237 gv5237 => ?_)
    refine y_iconst 68 c196_67 rfl ?_
    refine y_icmp 86 71 c196_68 rfl rfl (yc_eq (by omega) (by omega)) (fun hb5238 => ?_) (fun hb5238 => ?_)
    · refine y_aload 87 c196_86 rfl rfl rfl ?_
      refine y_aload 88 c196_87 rfl rfl rfl ?_
      refine y_getX 91 (m (336 + k.toNat) 11) c196_88 rfl (ff336_11 (by omega)) (hFq5231 (336 + k.toNat) 11 (wMx_h (by omega))) ?_
      have tb5239 := hT.atp (336 + k.toNat) 11 0 40 (ft336_11 (by omega))
      refine y_aload 92 c196_91 rfl rfl rfl ?_
      refine y_getX 95 (m (336 + k.toNat) 12) c196_92 rfl (ff336_12 (by omega)) (hFq5231 (336 + k.toNat) 12 (wMx_h (by omega))) ?_
      have tb5240 := hT.atp (336 + k.toNat) 12 0 40 (ft336_12 (by omega))
      refine y_iload 96 c196_95 rfl rfl ?_
      have es5242 : mq5231 169 4 = m 169 4 := (hFq5231 169 4 rfl)
      have tb5243 := hT.atp 169 4 ((-1)) 1 rfl
      have tb5244 := hTq5231.atp 169 6 0 200 rfl
      have es5245 : mq5231 316 16 = m 316 16 := (hFq5231 316 16 rfl)
      have tb5246 := hT.atp 316 16 0 40 rfl
      have es5247 : mq5231 316 10 = m 316 10 := (hFq5231 316 10 rfl)
      have tb5248 := hT.atp 316 10 0 10 rfl
      refine y_mI 99 [.ref 169, yI (m (336 + k.toNat) 11), yI (m (336 + k.toNat) 12), yI x] [] c196_96 rfl rfl rfl rfl rfl (ycanO km197 ko169) kg196 qOut.I hF5233 (hB _ _ _ _ _ hTq5231 (by omega) (hS.fr (by omega) (by omega) (fun k q _ => hF5233 _ _ (wMx_h (by omega)))) (by omega) (by omega) (by omega) (by omega)) (fun rq5241 mq5241 hTq5241 hFq5241 hq5241 => ?_)
      have hF5249 := hF5233.tr' hFq5241
      have tb5250 := hTq5241.atp 169 6 0 200 rfl
      exact y_mRI c196_99 (y_fit1 (by omega)) hTq5241 hF5249 (by omega)
    · refine y_aload 72 c196_71 rfl rfl rfl ?_
      refine y_iload 73 c196_72 rfl rfl ?_
      refine y_iconst 74 c196_73 rfl ?_
      refine y_iadd 75 c196_74 rfl ?_
      refine y_aload 76 c196_75 rfl rfl rfl ?_
      refine y_getX 79 (m (336 + k.toNat) 11) c196_76 rfl (ff336_11 (by omega)) (hFq5231 (336 + k.toNat) 11 (wMx_h (by omega))) ?_
      have tb5251 := hT.atp (336 + k.toNat) 11 0 40 (ft336_11 (by omega))
      refine y_iload 80 c196_79 rfl rfl ?_
      have es5253 : mq5231 169 4 = m 169 4 := (hFq5231 169 4 rfl)
      have tb5254 := hT.atp 169 4 ((-1)) 1 rfl
      have tb5255 := hTq5231.atp 169 6 0 200 rfl
      have es5256 : mq5231 316 16 = m 316 16 := (hFq5231 316 16 rfl)
      have tb5257 := hT.atp 316 16 0 40 rfl
      have es5258 : mq5231 316 10 = m 316 10 := (hFq5231 316 10 rfl)
      have tb5259 := hT.atp 316 10 0 10 rfl
      refine y_mI 83 [.ref 169, yI (k + 1), yI (m (336 + k.toNat) 11), yI x] [] c196_80 rfl rfl rfl rfl rfl (ycanO km197 ko169) kg196 qOut.I hF5233 (hB _ _ _ _ _ hTq5231 (by omega) (hS.fr (by omega) (by omega) (fun k q _ => hF5233 _ _ (wMx_h (by omega)))) (by omega) (by omega) (by omega) (by omega)) (fun rq5252 mq5252 hTq5252 hFq5252 hq5252 => ?_)
      have hF5260 := hF5233.tr' hFq5252
      refine y_goto 99 c196_83 rfl ?_
      have tb5261 := hTq5252.atp 169 6 0 200 rfl
      exact y_mRI c196_99 (y_fit1 (by omega)) hTq5252 hF5260 (by omega)
  by_cases hk5262 : m (336 + k.toNat) 0 = 1
  · refine y_top 1 hk5262 ?_
    refine y_tsw 100 c196_26 (by decide) (by decide) rfl rfl ?_
    refine y_aload 101 c196_100 rfl rfl rfl ?_
    refine y_iload 102 c196_101 rfl rfl ?_
    refine y_iload 103 c196_102 rfl rfl ?_
    have es5264 : mq5231 169 4 = m 169 4 := (hFq5231 169 4 rfl)
    have tb5265 := hT.atp 169 4 ((-1)) 1 rfl
    have tb5266 := hTq5231.atp 169 6 0 200 rfl
    have es5267 : mq5231 316 16 = m 316 16 := (hFq5231 316 16 rfl)
    have tb5268 := hT.atp 316 16 0 40 rfl
    have es5269 : mq5231 316 10 = m 316 10 := (hFq5231 316 10 rfl)
    have tb5270 := hT.atp 316 10 0 10 rfl
    have es5271 : mq5231 (336 + k.toNat) 3 = m (336 + k.toNat) 3 := (hFq5231 (336 + k.toNat) 3 (wMx_h (by omega)))
    have tb5272 := hT.atp (336 + k.toNat) 3 ((-1)) 47 (ft336_3 (by omega))
    have es5273 : mq5231 (336 + k.toNat) 11 = m (336 + k.toNat) 11 := (hFq5231 (336 + k.toNat) 11 (wMx_h (by omega)))
    have tb5274 := hT.atp (336 + k.toNat) 11 0 40 (ft336_11 (by omega))
    refine y_mI 106 [.ref 169, yI k, yI x] [] c196_103 rfl rfl rfl rfl rfl (ycanO km190 ko169) kg196 qOut.I hF5233 (t190_316 (k := k) (b := b + 1) hTq5231 (by omega) (hS.fr (by omega) (by omega) (fun k q _ => hF5233 _ _ (wMx_h (by omega)))) (by omega) (by omega) (by omega) hB (by omega) (by omega)) (fun rq5263 mq5263 hTq5263 hFq5263 hq5263 => ?_)
    have hF5275 := hF5233.tr' hFq5263
    have tb5276 := hTq5263.atp 169 6 0 200 rfl
    exact y_mRI c196_106 (y_fit1 (by omega)) hTq5263 hF5275 (by omega)
  by_cases hk5277 : m (336 + k.toNat) 0 = 2
  · refine y_top 2 hk5277 ?_
    refine y_tsw 107 c196_26 (by decide) (by decide) rfl rfl ?_
    refine y_aload 108 c196_107 rfl rfl rfl ?_
    refine y_aload 110 c196_108 rfl rfl rfl ?_
    refine y_aload 111 c196_110 rfl rfl rfl ?_
    refine y_getX 114 (m (336 + k.toNat) 2) c196_111 rfl (ff336_2 (by omega)) (hFq5231 (336 + k.toNat) 2 (wMx_h (by omega))) ?_
    have tb5278 := hT.atp (336 + k.toNat) 2 ((-1)) 47 (ft336_2 (by omega))
    refine y_aload 116 c196_114 rfl rfl rfl ?_
    refine y_aload 117 c196_116 rfl rfl rfl ?_
    refine y_getX 120 (m (336 + k.toNat) 3) c196_117 rfl (ff336_3 (by omega)) (hFq5231 (336 + k.toNat) 3 (wMx_h (by omega))) ?_
    have tb5279 := hT.atp (336 + k.toNat) 3 ((-1)) 47 (ft336_3 (by omega))
    refine y_iaT 121 ((-1)) 29 c196_120 rfl (fa252 (by omega)) (by omega) hTq5231 (fz252 (by omega)) (fun v5280 hv5280 gv5280 => ?_)
    have tb5282 := hTq5231.atp 169 6 0 200 rfl
    refine y_callUB 124 [.ref 169, .ref (252 + x.toNat), yI (m (336 + k.toNat) 2), yI v5280] [] c196_121 rfl rfl rfl rfl rfl (ycanO km188 ko169) (t188 hTq5231 (by omega) (by omega) (by omega)) (fun mq5281 nq5281 hq5281 => ?_)
    obtain ⟨rfl, hTq5281, hFq5281, hq5281⟩ := hq5281
    have hF5283 := hF5233.tr hFq5281 (fun _ _ e => e)
    refine y_iconst 125 c196_124 rfl ?_
    have tb5284 := hTq5281.atp 169 6 0 200 rfl
    exact y_mRI c196_125 (y_fit1 (by omega)) hTq5281 hF5283 (by omega)
  by_cases hk5285 : m (336 + k.toNat) 0 = 3
  · refine y_top 3 hk5285 ?_
    refine y_tsw 126 c196_26 (by decide) (by decide) rfl rfl ?_
    refine y_aload 127 c196_126 rfl rfl rfl ?_
    refine y_getR 130 c196_127 rfl kf169_2 ?_
    refine y_aload 131 c196_130 rfl rfl rfl ?_
    refine y_aload 133 c196_131 rfl rfl rfl ?_
    refine y_aload 134 c196_133 rfl rfl rfl ?_
    refine y_getX 137 (m (336 + k.toNat) 2) c196_134 rfl (ff336_2 (by omega)) (hFq5231 (336 + k.toNat) 2 (wMx_h (by omega))) ?_
    have tb5286 := hT.atp (336 + k.toNat) 2 ((-1)) 47 (ft336_2 (by omega))
    refine y_iaT 138 ((-1)) 29 c196_137 rfl (fa252 (by omega)) (by omega) hTq5231 (fz252 (by omega)) (fun v5287 hv5287 gv5287 => ?_)
    refine y_aload 139 c196_138 rfl rfl rfl ?_
    refine y_getX 142 (m (336 + k.toNat) 6) c196_139 rfl (ff336_6 (by omega)) (hFq5231 (336 + k.toNat) 6 (wMx_h (by omega))) ?_
    have tb5288 := hT.atp (336 + k.toNat) 6 ((-1)) 11 (ft336_6 (by omega))
    have es5290 : mq5231 169 4 = m 169 4 := (hFq5231 169 4 rfl)
    have tb5291 := hT.atp 169 4 ((-1)) 1 rfl
    have tb5292 := hTq5231.atp 169 6 0 200 rfl
    refine y_mI 145 [.ref 169, yI v5287, yI (m (336 + k.toNat) 6)] [.ref 220] c196_142 rfl rfl rfl rfl rfl (ycanO km192 ko169) kg196 qOut.I hF5233 (t192_316 hTq5231 (by omega) (by omega) (by omega)) (fun rq5289 mq5289 hTq5289 hFq5289 hq5289 => ?_)
    obtain ⟨hq5289, rfl⟩ := hq5289
    refine y_aaload 146 c196_145 rfl kr220 (by omega) ?_
    refine y_aload 147 c196_146 rfl rfl rfl ?_
    refine y_getX 150 (m (336 + k.toNat) 6) c196_147 rfl (ff336_6 (by omega)) (hFq5231 (336 + k.toNat) 6 (wMx_h (by omega))) ?_
    refine y_aload 152 c196_150 rfl rfl rfl ?_
    refine y_aload 153 c196_152 rfl rfl rfl ?_
    refine y_getX 156 (m (336 + k.toNat) 3) c196_153 rfl (ff336_3 (by omega)) (hFq5231 (336 + k.toNat) 3 (wMx_h (by omega))) ?_
    have tb5293 := hT.atp (336 + k.toNat) 3 ((-1)) 47 (ft336_3 (by omega))
    refine y_iaT 157 ((-1)) 29 c196_156 rfl (fa252 (by omega)) (by omega) hTq5231 (fz252 (by omega)) (fun v5294 hv5294 gv5294 => ?_)
    refine y_iastore 158 c196_157 rfl (fa221 (by omega)) (by omega) (y_nar0 _) ?_
    have hT5295 := hTq5231.up (221 + rq5289.toNat) ((m (336 + k.toNat) 6).toNat) v5294 ((-1)) 29 (fz221 (by omega)) (by omega)
    have hF5296 := hF5233.up (221 + rq5289.toNat) ((m (336 + k.toNat) 6).toNat) v5294 (wMx_r (by omega))
    refine y_iconst 159 c196_158 rfl ?_
    have es5297 : (yup mq5231 (221 + rq5289.toNat) ((m (336 + k.toNat) 6).toNat) v5294) 169 6 = mq5231 169 6 := (yup_na (by omega))
    exact y_mRI c196_159 (y_fit1 (by omega)) hT5295 hF5296 (by omega)
  by_cases hk5298 : m (336 + k.toNat) 0 = 4
  · refine y_top 4 hk5298 ?_
    refine y_tsw 160 c196_26 (by decide) (by decide) rfl rfl ?_
    refine y_aload 161 c196_160 rfl rfl rfl ?_
    refine y_aload 162 c196_161 rfl rfl rfl ?_
    refine y_iload 163 c196_162 rfl rfl ?_
    have es5300 : mq5231 169 4 = m 169 4 := (hFq5231 169 4 rfl)
    have tb5301 := hT.atp 169 4 ((-1)) 1 rfl
    have tb5302 := hTq5231.atp 169 6 0 200 rfl
    have es5303 : mq5231 316 16 = m 316 16 := (hFq5231 316 16 rfl)
    have tb5304 := hT.atp 316 16 0 40 rfl
    have es5305 : mq5231 316 10 = m 316 10 := (hFq5231 316 10 rfl)
    have tb5306 := hT.atp 316 10 0 10 rfl
    have es5307 : mq5231 (336 + k.toNat) 0 = m (336 + k.toNat) 0 := (hFq5231 (336 + k.toNat) 0 (wMx_h (by omega)))
    refine y_mU 166 [.ref 169, .ref (336 + k.toNat), yI x] [] c196_163 rfl rfl rfl rfl rfl (ycanO km193 ko169) kg196 qOut.I hF5233 (t193_316 (k := k) (b := b + 1) hTq5231 (by omega) (hS.fr (by omega) (by omega) (fun k q _ => hF5233 _ _ (wMx_h (by omega)))) (by omega) (by omega) (by omega) hB (by omega)) (fun mq5299 hTq5299 hFq5299 hq5299 => ?_)
    have hF5308 := hF5233.tr' hFq5299
    refine y_iconst 167 c196_166 rfl ?_
    have tb5309 := hTq5299.atp 169 6 0 200 rfl
    exact y_mRI c196_167 (y_fit1 (by omega)) hTq5299 hF5308 (by omega)
  refine y_tswd 168 c196_26 (by omega) (by omega) rfl ?_
  refine y_aload 169 c196_168 rfl rfl rfl ?_
  refine y_aload 171 c196_169 rfl rfl rfl ?_
  refine y_aload 172 c196_171 rfl rfl rfl ?_
  refine y_getX 175 (m (336 + k.toNat) 2) c196_172 rfl (ff336_2 (by omega)) (hFq5231 (336 + k.toNat) 2 (wMx_h (by omega))) ?_
  have tb5310 := hT.atp (336 + k.toNat) 2 ((-1)) 47 (ft336_2 (by omega))
  refine y_aload 176 c196_175 rfl rfl rfl ?_
  refine y_aload 177 c196_176 rfl rfl rfl ?_
  refine y_aload 179 c196_177 rfl rfl rfl ?_
  have es5312 : mq5231 169 4 = m 169 4 := (hFq5231 169 4 rfl)
  have tb5313 := hT.atp 169 4 ((-1)) 1 rfl
  have tb5314 := hTq5231.atp 169 6 0 200 rfl
  have es5315 : mq5231 316 16 = m 316 16 := (hFq5231 316 16 rfl)
  have tb5316 := hT.atp 316 16 0 40 rfl
  have es5317 : mq5231 316 10 = m 316 10 := (hFq5231 316 10 rfl)
  have tb5318 := hT.atp 316 10 0 10 rfl
  have es5319 : mq5231 (336 + k.toNat) 0 = m (336 + k.toNat) 0 := (hFq5231 (336 + k.toNat) 0 (wMx_h (by omega)))
  have es5320 : mq5231 (336 + k.toNat) 3 = m (336 + k.toNat) 3 := (hFq5231 (336 + k.toNat) 3 (wMx_h (by omega)))
  have tb5321 := hT.atp (336 + k.toNat) 3 ((-1)) 47 (ft336_3 (by omega))
  have es5322 : mq5231 (336 + k.toNat) 6 = m (336 + k.toNat) 6 := (hFq5231 (336 + k.toNat) 6 (wMx_h (by omega)))
  have tb5323 := hT.atp (336 + k.toNat) 6 ((-1)) 11 (ft336_6 (by omega))
  refine y_mI 182 [.ref 169, .ref (336 + k.toNat), .ref (252 + x.toNat)] [yI (m (336 + k.toNat) 2), .ref (252 + x.toNat), .ref 169] c196_179 rfl rfl rfl rfl rfl (ycanO km195 ko169) kg196 qOut.I hF5233 (t195_316 (k := k) hTq5231 (by omega) (by omega) (by omega) (by omega) (by omega) (by omega)) (fun rq5311 mq5311 hTq5311 hFq5311 hq5311 => ?_)
  have hF5324 := hF5233.tr' hFq5311
  have tb5326 := hTq5311.atp 169 6 0 200 rfl
  refine y_callUB 185 [.ref 169, .ref (252 + x.toNat), yI (m (336 + k.toNat) 2), yI rq5311] [] c196_182 rfl rfl rfl rfl rfl (ycanO km188 ko169) (t188 hTq5311 (by omega) (by omega) (by omega)) (fun mq5325 nq5325 hq5325 => ?_)
  obtain ⟨rfl, hTq5325, hFq5325, hq5325⟩ := hq5325
  have hF5327 := hF5324.tr hFq5325 (fun _ _ e => e)
  refine y_iconst 186 c196_185 rfl ?_
  have tb5328 := hTq5325.atp 169 6 0 200 rfl
  exact y_mRI c196_186 (y_fit1 (by omega)) hTq5325 hF5327 (by omega)
set_option maxRecDepth 100000 in
theorem t197a_316 {L : Nat} {xs : Nat → Int32} {d nn : Nat} {m : yM} {f e x b : Int} (hT : Ty gT m) (hp : m 169 4 = 1) (hS : PS 316 m) (hb : b ≤ m 169 6) (he : 0 ≤ e ∧ e ≤ m 316 16) (hx : 0 ≤ x ∧ x ≤ 3) (hB : BR316 L xs (d + 2) (b + 1)) : ∀ (k : Nat) (p : Int) (i : Int) (mi : yM), 40 - i = k → 0 ≤ p ∧ p ≤ 40 → 0 ≤ i ∧ i ≤ 40 → Ty gT mi → Fr wMx m mi → m 169 6 ≤ mi 169 6 → YW (gZ L xs) 197 (d + 5) 6 [some (.ref 169), some (yI f), some (yI e), some (yI x), some (yI p), some (yI i)] [] mi nn (qTI nn m (fun r m' => (r = 0 ∨ r = 1) ∧ m 169 6 ≤ m' 169 6)) := by
  intro k
  induction k using Nat.strongRecOn with
  | ind k ih =>
    intro p i mi hk hpp hi hTi hFi h6
    have tb16 := hT.atp 316 16 0 40 rfl
    have tb10 := hT.atp 316 10 0 10 rfl
    have tb6 := hT.atp 169 6 0 200 rfl
    refine y_iload 8 c197_6 rfl rfl ?_
    refine y_iconst 10 c197_8 rfl ?_
    refine y_icmp 52 13 c197_10 rfl rfl (yc_ge (by omega) (by omega)) (fun hb5329 => ?_) (fun hb5329 => ?_)
    · refine y_iconst 53 c197_52 rfl ?_
      have tb5330 := hTi.atp 169 6 0 200 rfl
      exact y_mRI c197_53 (y_fit1 (by omega)) hTi hFi (by omega)
    · refine y_iload 15 c197_13 rfl rfl ?_
      refine y_iload 16 c197_15 rfl rfl ?_
      refine y_icmp 52 19 c197_16 rfl rfl (yc_ge (by omega) (by omega)) (fun hb5331 => ?_) (fun hb5331 => ?_)
      · refine y_iconst 53 c197_52 rfl ?_
        have tb5332 := hTi.atp 169 6 0 200 rfl
        exact y_mRI c197_53 (y_fit1 (by omega)) hTi hFi (by omega)
      · refine y_aload 20 c197_19 rfl rfl rfl ?_
        refine y_iload 22 c197_20 rfl rfl ?_
        refine y_iload 23 c197_22 rfl rfl ?_
        have es5334 : mi 169 4 = m 169 4 := (hFi 169 4 rfl)
        have tb5335 := hT.atp 169 4 ((-1)) 1 rfl
        have tb5336 := hTi.atp 169 6 0 200 rfl
        have es5337 : mi 316 16 = m 316 16 := (hFi 316 16 rfl)
        have tb5338 := hT.atp 316 16 0 40 rfl
        have es5339 : mi 316 10 = m 316 10 := (hFi 316 10 rfl)
        have tb5340 := hT.atp 316 10 0 10 rfl
        refine y_mI 26 [.ref 169, yI p, yI x] [] c197_23 rfl rfl rfl rfl rfl (ycanO km196 ko169) kg197 qOut.I hFi (t196_316 (b := b) hTi (by omega) (hS.fr (by omega) (by omega) (fun k q _ => hFi _ _ (wMx_h (by omega)))) (by omega) (by omega) (by omega) hB) (fun rq5333 mq5333 hTq5333 hFq5333 hq5333 => ?_)
        have hF5341 := hFi.tr' hFq5333
        refine y_if 31 29 c197_26 rfl rfl (yz_eq (by omega)) (fun hb5342 => ?_) (fun hb5342 => ?_)
        · refine y_aload 32 c197_31 rfl rfl rfl ?_
          refine y_getS 35 (B := 316) c197_32 rfl kf169_4 (by rw [show mq5333 169 4 = 1 from by have e : mq5333 169 4 = m 169 4 := ((hFq5333 169 4 rfl).trans (hFi 169 4 rfl)); omega]; rfl) ?_
          refine y_getR 38 c197_35 rfl kf316_6 ?_
          refine y_iload 40 c197_38 rfl rfl ?_
          refine y_aaload 41 c197_40 rfl kr323 (by omega) ?_
          refine y_getX 44 (m (336 + p.toNat) 12) c197_41 rfl (ff336_12 (by omega)) ((hFq5333 (336 + p.toNat) 12 (wMx_h (by omega))).trans (hFi (336 + p.toNat) 12 (wMx_h (by omega)))) ?_
          have tb5343 := hT.atp (336 + p.toNat) 12 0 40 (ft336_12 (by omega))
          refine y_istore 46 c197_44 rfl rfl ?_
          refine y_iinc 49 c197_46 rfl rfl rfl ?_
          refine y_goto 6 c197_49 rfl ?_
          exact ih (40 - (i + 1) : Int).toNat (by omega) (m (336 + p.toNat) 12) (i + 1)  _ (by omega) (by omega) (by omega) hTq5333 hF5341 (by have e : mq5333 169 6 = mq5333 169 6 := rfl; omega)
        · refine y_iconst 30 c197_29 rfl ?_
          have tb5344 := hTq5333.atp 169 6 0 200 rfl
          exact y_mRI c197_30 (y_fit1 (by omega)) hTq5333 hF5341 (by omega)
set_option maxRecDepth 100000 in
theorem t197_316 {L : Nat} {xs : Nat → Int32} {d nn : Nat} {m : yM} {f e x b : Int} (hT : Ty gT m) (hp : m 169 4 = 1) (hS : PS 316 m) (hb : b ≤ m 169 6) (he : 0 ≤ e ∧ e ≤ m 316 16) (hx : 0 ≤ x ∧ x ≤ 3) (hB : BR316 L xs (d + 2) (b + 1)) (hf : 0 ≤ f ∧ f ≤ 40) : YC (gZ L xs) (d + 5) 197 [.ref 169, yI f, yI e, yI x] m nn (qTI nn m (fun r m' => (r = 0 ∨ r = 1) ∧ m 169 6 ≤ m' 169 6)) := by
  have tb16 := hT.atp 316 16 0 40 rfl
  have tb10 := hT.atp 316 10 0 10 rfl
  have tb6 := hT.atp 169 6 0 200 rfl
  refine YC.mkB [some (.ref 169), some (yI f), some (yI e), some (yI x), none, none] kn197 rfl rfl ?_
  have hF : Fr wMx m m := Fr.rf
  refine y_iload 1 c197_0 rfl rfl ?_
  refine y_istore 3 c197_1 rfl rfl ?_
  refine y_iconst 4 c197_3 rfl ?_
  refine y_istore 6 c197_4 rfl rfl ?_
  exact t197a_316 hT hp hS hb he hx hB 40 f 0 m (by omega) hf (by omega) hT Fr.rf (by omega)
theorem tBR_316 {L : Nat} {xs : Nat → Int32} {d : Nat} : ∀ (n : Nat) (b : Int), 201 - b = n → BR316 L xs (3 * n + d + 2) b := by
  intro n
  induction n with
  | zero => intro b hb nn m f e x hT hp hS h6 hf he hx; exfalso; have := hT.atp 169 6 0 200 rfl; omega
  | succ n ih =>
    intro b hb nn m f e x hT hp hS h6 hf he hx
    have h1 : BR316 L xs (3 * n + d + 2) (b + 1) := ih (b + 1) (by omega)
    rw [show 3 * (n + 1) + d + 2 = 3 * n + d + 5 by omega]
    exact t197_316 hT hp hS h6 he hx h1 hf
