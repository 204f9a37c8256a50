/-! CONTRACTS: the machine. Printed by wip/whole/gen93.py -/
set_option maxRecDepth 100000 in
theorem t191_256 {L : Nat} {xs : Nat → Int32} {d nn : Nat} {m : yM} {q : Int} (hT : Ty gT m) (hp : m 169 4 = 0) (hq : -1 ≤ q ∧ q ≤ 29) : YC (gZ L xs) d 191 [.ref 169, yI q] m nn (qTI nn m (fun r m' => (0 ≤ r ∧ r ≤ 5 ∧ q ≠ -1) ∧ m' = m)) := by
  refine YC.mkB [some (.ref 169), some (yI q)] kn191 rfl rfl ?_
  have hF : Fr wMx m m := Fr.rf
  refine y_iload 1 c191_0 rfl rfl ?_
  refine y_iconst 2 c191_1 rfl ?_
  refine y_icmp 13 5 c191_2 rfl rfl (yc_ne (by omega) (by omega)) (fun hb4813 => ?_) (fun hb4813 => ?_)
  · refine y_aload 14 c191_13 rfl rfl rfl ?_
    refine y_getS 17 (B := 256) c191_14 rfl kf169_4 (by rw [show m 169 4 = 0 from by have e : m 169 4 = m 169 4 := rfl; omega]; rfl) ?_
    refine y_getR 20 c191_17 rfl kf256_7 ?_
    refine y_aload 21 c191_20 rfl rfl rfl ?_
    refine y_getR 24 c191_21 rfl kf169_1 ?_
    refine y_iload 25 c191_24 rfl rfl ?_
    refine y_iaT 26 0 11 c191_25 rfl ka219 (by omega) hT rfl (fun v4814 hv4814 gv4814 => ?_)
    refine y_iaT 27 0 5 c191_26 rfl ka264 (by omega) hT rfl (fun v4815 hv4815 gv4815 => ?_)
    exact y_mRI c191_27 (y_fit0 _) hT hF (⟨by omega, rfl⟩)
  · exact y_mThr c191_5 rfl hT hF (by decide) qOut.I
set_option maxRecDepth 100000 in
theorem t192_256 {L : Nat} {xs : Nat → Int32} {d nn : Nat} {m : yM} {q f : Int} (hT : Ty gT m) (hp : m 169 4 = 0) (hq : -1 ≤ q ∧ q ≤ 29) (hf : -1 ≤ f ∧ f ≤ 11) : YC (gZ L xs) (d + 1) 192 [.ref 169, yI q, yI f] m nn (qTI nn m (fun r m' => (r = q ∧ q ≠ -1 ∧ f ≠ -1) ∧ m' = m)) := by
  refine YC.mkB [some (.ref 169), some (yI q), some (yI f)] kn192 rfl rfl ?_
  have hF : Fr wMx m m := Fr.rf
  refine y_aload 1 c192_0 rfl rfl rfl ?_
  refine y_getS 4 (B := 256) c192_1 rfl kf169_4 (by rw [show m 169 4 = 0 from by have e : m 169 4 = m 169 4 := rfl; omega]; rfl) ?_
  refine y_aload 5 c192_4 rfl rfl rfl ?_
  refine y_iload 6 c192_5 rfl rfl ?_
  have tb4817 := hT.atp 169 4 ((-1)) 1 rfl
  have tb4818 := hT.atp 169 6 0 200 rfl
  refine y_mI 9 [.ref 169, yI q] [.ref 256] c192_6 rfl rfl rfl rfl rfl (ycanO km191 ko169) kg192 qOut.I hF (t191_256 hT (by omega) (by omega)) (fun rq4816 mq4816 hTq4816 hFq4816 hq4816 => ?_)
  obtain ⟨hq4816, rfl⟩ := hq4816
  refine y_iload 10 c192_9 rfl rfl ?_
  refine y_callP 13 [.ref 256, yI rq4816, yI f] [] c192_10 rfl rfl rfl rfl rfl (ycanO km47 ko256) (t47_256 hT (by omega) (by omega)) (fun r4819 hr4819 => ?_)
  refine y_if 24 16 c192_13 rfl rfl (yz_ne (by omega)) (fun hb4820 => ?_) (fun hb4820 => ?_)
  · refine y_iload 25 c192_24 rfl rfl ?_
    exact y_mRI c192_25 (y_fit0 _) hT hF (⟨by omega, rfl⟩)
  · exact y_mThr c192_16 rfl hT hF (by decide) qOut.I
set_option maxRecDepth 100000 in
theorem t194_256 {L : Nat} {xs : Nat → Int32} {d nn : Nat} {m : yM} {t q : Int} (hT : Ty gT m) (hp : m 169 4 = 0) (ht : -1 ≤ t ∧ t ≤ 5) (hq : -1 ≤ q ∧ q ≤ 29) : YC (gZ L xs) (d + 1) 194 [.ref 169, yI t, yI q] m nn (qTI nn m (fun r m' => (r = q) ∧ m' = m)) := by
  refine YC.mkB [some (.ref 169), some (yI t), some (yI q)] kn194 rfl rfl ?_
  have hF : Fr wMx m m := Fr.rf
  refine y_iload 1 c194_0 rfl rfl ?_
  refine y_iconst 2 c194_1 rfl ?_
  refine y_icmp 29 5 c194_2 rfl rfl (yc_eq (by omega) (by omega)) (fun hb4821 => ?_) (fun hb4821 => ?_)
  · refine y_iload 30 c194_29 rfl rfl ?_
    exact y_mRI c194_30 (y_fit0 _) hT hF (⟨by omega, rfl⟩)
  · refine y_aload 6 c194_5 rfl rfl rfl ?_
    refine y_getS 9 (B := 256) c194_6 rfl kf169_4 (by rw [show m 169 4 = 0 from by have e : m 169 4 = m 169 4 := rfl; omega]; rfl) ?_
    refine y_aload 10 c194_9 rfl rfl rfl ?_
    refine y_iload 11 c194_10 rfl rfl ?_
    have tb4823 := hT.atp 169 4 ((-1)) 1 rfl
    have tb4824 := hT.atp 169 6 0 200 rfl
    refine y_mI 14 [.ref 169, yI q] [.ref 256] c194_11 rfl rfl rfl rfl rfl (ycanO km191 ko169) kg194 qOut.I hF (t191_256 hT (by omega) (by omega)) (fun rq4822 mq4822 hTq4822 hFq4822 hq4822 => ?_)
    obtain ⟨hq4822, rfl⟩ := hq4822
    refine y_iload 15 c194_14 rfl rfl ?_
    refine y_callP 18 [.ref 256, yI rq4822, yI t] [] c194_15 rfl rfl rfl rfl rfl (ycanO km81 ko256) (t81_256 hT (by omega) (by omega)) (fun r4825 hr4825 => ?_)
    refine y_if 29 21 c194_18 rfl rfl (yz_ne (by omega)) (fun hb4826 => ?_) (fun hb4826 => ?_)
    · refine y_iload 30 c194_29 rfl rfl ?_
      exact y_mRI c194_30 (y_fit0 _) hT hF (⟨by omega, rfl⟩)
    · exact y_mThr c194_21 rfl hT hF (by decide) qOut.I
set_option maxRecDepth 100000 in
theorem t195_256 {L : Nat} {xs : Nat → Int32} {d nn : Nat} {m : yM} {k x : Int} (hT : Ty gT m) (hp : m 169 4 = 0) (hk : 0 ≤ k ∧ k ≤ 39) (hx : 0 ≤ x ∧ x ≤ 3) (h5 : m (276 + k.toNat) 0 = 5 → 0 ≤ m (276 + k.toNat) 6) (h3 : (m (276 + k.toNat) 0 = 7 ∨ m (276 + k.toNat) 0 = 8 ∨ m (276 + k.toNat) 0 = 9) → 0 ≤ m (276 + k.toNat) 3) (h9 : m (276 + k.toNat) 0 = 9 → m (276 + k.toNat) 6 ≤ 7) : YC (gZ L xs) (d + 2) 195 [.ref 169, .ref (276 + k.toNat), .ref (252 + x.toNat)] m nn (qTI nn m (fun r m' => -1 ≤ r ∧ r ≤ 29 ∧ m' 169 6 = m 169 6)) := by
  refine YC.mkB [some (.ref 169), some (.ref (276 + k.toNat)), some (.ref (252 + x.toNat))] kn195 rfl rfl ?_
  have hF : Fr wMx m m := Fr.rf
  refine y_aload 1 c195_0 rfl rfl rfl ?_
  refine y_getX 4 (m (276 + k.toNat) 0) c195_1 rfl (ff276_0 (by omega)) rfl ?_
  have tb4827 := hT.atp (276 + k.toNat) 0 0 9 (ft276_0 (by omega))
  by_cases hk4828 : m (276 + k.toNat) 0 = 5
  · refine y_top 5 hk4828 ?_
    refine y_tsw 40 c195_4 (by decide) (by decide) rfl rfl ?_
    refine y_aload 41 c195_40 rfl rfl rfl ?_
    refine y_aload 42 c195_41 rfl rfl rfl ?_
    refine y_getX 45 (m (276 + k.toNat) 6) c195_42 rfl (ff276_6 (by omega)) rfl ?_
    have tb4829 := hT.atp (276 + k.toNat) 6 ((-1)) 11 (ft276_6 (by omega))
    have tb4831 := hT.atp 169 6 0 200 rfl
    refine y_mI 48 [.ref 169, yI (m (276 + k.toNat) 6)] [] c195_45 rfl rfl rfl rfl rfl (ycanO km186 ko169) kg195 qOut.I hF (t186 hT (by omega)) (fun rq4830 mq4830 hTq4830 hFq4830 hq4830 => ?_)
    have hF4832 := hF.tr' hFq4830
    have tb4833 := hTq4830.atp 169 6 0 200 rfl
    exact y_mRI c195_48 (y_fit0 _) hTq4830 hF4832 (by omega)
  by_cases hk4834 : m (276 + k.toNat) 0 = 6
  · refine y_top 6 hk4834 ?_
    refine y_tsw 96 c195_4 (by decide) (by decide) rfl rfl ?_
    refine y_iconst 97 c195_96 rfl ?_
    have tb4835 := hT.atp 169 6 0 200 rfl
    exact y_mRI c195_97 (y_fit0 _) hT hF (by omega)
  by_cases hk4836 : m (276 + k.toNat) 0 = 7
  · refine y_top 7 hk4836 ?_
    refine y_tsw 49 c195_4 (by decide) (by decide) rfl rfl ?_
    refine y_aload 50 c195_49 rfl rfl rfl ?_
    refine y_aload 51 c195_50 rfl rfl rfl ?_
    refine y_getX 54 (m (276 + k.toNat) 7) c195_51 rfl (ff276_7 (by omega)) rfl ?_
    have tb4837 := hT.atp (276 + k.toNat) 7 ((-1)) 5 (ft276_7 (by omega))
    refine y_aload 55 c195_54 rfl rfl rfl ?_
    refine y_aload 56 c195_55 rfl rfl rfl ?_
    refine y_getX 59 (m (276 + k.toNat) 3) c195_56 rfl (ff276_3 (by omega)) rfl ?_
    have tb4838 := hT.atp (276 + k.toNat) 3 ((-1)) 47 (ft276_3 (by omega))
    refine y_iaT 60 ((-1)) 29 c195_59 rfl (fa252 (by omega)) (by omega) hT (fz252 (by omega)) (fun v4839 hv4839 gv4839 => ?_)
    have tb4841 := hT.atp 169 4 ((-1)) 1 rfl
    have tb4842 := hT.atp 169 6 0 200 rfl
    refine y_mI 63 [.ref 169, yI (m (276 + k.toNat) 7), yI v4839] [] c195_60 rfl rfl rfl rfl rfl (ycanO km194 ko169) kg195 qOut.I hF (t194_256 hT (by omega) (by omega) (by omega)) (fun rq4840 mq4840 hTq4840 hFq4840 hq4840 => ?_)
    obtain ⟨hq4840, rfl⟩ := hq4840
    exact y_mRI c195_63 (y_fit0 _) hT hF (by omega)
  by_cases hk4843 : m (276 + k.toNat) 0 = 8
  · refine y_top 8 hk4843 ?_
    refine y_tsw 64 c195_4 (by decide) (by decide) rfl rfl ?_
    refine y_aload 65 c195_64 rfl rfl rfl ?_
    refine y_aload 66 c195_65 rfl rfl rfl ?_
    refine y_getX 69 (m (276 + k.toNat) 3) c195_66 rfl (ff276_3 (by omega)) rfl ?_
    have tb4844 := hT.atp (276 + k.toNat) 3 ((-1)) 47 (ft276_3 (by omega))
    refine y_iaT 70 ((-1)) 29 c195_69 rfl (fa252 (by omega)) (by omega) hT (fz252 (by omega)) (fun v4845 hv4845 gv4845 => ?_)
    have tb4846 := hT.atp 169 6 0 200 rfl
    exact y_mRI c195_70 (y_fit0 _) hT hF (by omega)
  by_cases hk4847 : m (276 + k.toNat) 0 = 9
  · refine y_top 9 hk4847 ?_
    refine y_tsw 71 c195_4 (by decide) (by decide) rfl rfl ?_
    refine y_aload 72 c195_71 rfl rfl rfl ?_
    refine y_getR 75 c195_72 rfl kf169_2 ?_
    refine y_aload 76 c195_75 rfl rfl rfl ?_
    refine y_aload 77 c195_76 rfl rfl rfl ?_
    refine y_aload 78 c195_77 rfl rfl rfl ?_
    refine y_getX 81 (m (276 + k.toNat) 3) c195_78 rfl (ff276_3 (by omega)) rfl ?_
    have tb4848 := hT.atp (276 + k.toNat) 3 ((-1)) 47 (ft276_3 (by omega))
    refine y_iaT 82 ((-1)) 29 c195_81 rfl (fa252 (by omega)) (by omega) hT (fz252 (by omega)) (fun v4849 hv4849 gv4849 => ?_)
    refine y_aload 83 c195_82 rfl rfl rfl ?_
    refine y_getX 86 (m (276 + k.toNat) 6) c195_83 rfl (ff276_6 (by omega)) rfl ?_
    have tb4850 := hT.atp (276 + k.toNat) 6 ((-1)) 11 (ft276_6 (by omega))
    have tb4852 := hT.atp 169 4 ((-1)) 1 rfl
    have tb4853 := hT.atp 169 6 0 200 rfl
    refine y_mI 89 [.ref 169, yI v4849, yI (m (276 + k.toNat) 6)] [.ref 220] c195_86 rfl rfl rfl rfl rfl (ycanO km192 ko169) kg195 qOut.I hF (t192_256 hT (by omega) (by omega) (by omega)) (fun rq4851 mq4851 hTq4851 hFq4851 hq4851 => ?_)
    obtain ⟨hq4851, rfl⟩ := hq4851
    refine y_aaload 90 c195_89 rfl kr220 (by omega) ?_
    refine y_aload 91 c195_90 rfl rfl rfl ?_
    refine y_getX 94 (m (276 + k.toNat) 6) c195_91 rfl (ff276_6 (by omega)) rfl ?_
    refine y_iaT 95 ((-1)) 29 c195_94 rfl (fa221 (by omega)) (by omega) hT (fz221 (by omega)) (fun v4854 hv4854 gv4854 => ?_)
    exact y_mRI c195_95 (y_fit0 _) hT hF (by omega)
  refine y_tswd 96 c195_4 (by omega) (by omega) rfl ?_
  refine y_iconst 97 c195_96 rfl ?_
  have tb4855 := hT.atp 169 6 0 200 rfl
  exact y_mRI c195_97 (y_fit0 _) hT hF (by omega)
/-- what a body's run is, once b statements have begun -/
def BR256 (L : Nat) (xs : Nat → Int32) (D : Nat) (b : Int) : Prop := ∀ (nn : Nat) (m : yM) (f e x : Int), Ty gT m → m 169 4 = 0 → PS 256 m → b ≤ m 169 6 → 0 ≤ f ∧ f ≤ 40 → 0 ≤ e ∧ e ≤ m 256 16 → 0 ≤ x ∧ x ≤ 3 → YC (gZ L xs) D 197 [.ref 169, yI f, yI e, yI x] m nn (qTI nn m (fun r m' => (r = 0 ∨ r = 1) ∧ m 169 6 ≤ m' 169 6))
set_option maxRecDepth 100000 in
theorem t190a_256 {L : Nat} {xs : Nat → Int32} {d nn : Nat} {m : yM} {k x : Int} (hT : Ty gT m) (hp : m 169 4 = 0) {b : Int} (hS : PS 256 m) (hkc : 0 ≤ k ∧ k < m 256 16) (hx : 0 ≤ x ∧ x ≤ 3) (hb : b ≤ m 169 6) (hB : BR256 L xs (d + 2) b) (h3 : 0 ≤ m (276 + k.toNat) 3) (h11 : m (276 + k.toNat) 11 ≤ m 256 16) : ∀ (k : Nat) (i : Int) (mi : yM), 201 - i = k → 0 ≤ i ∧ i ≤ 201 → Ty gT mi → Fr wMx m mi → m 169 6 ≤ mi 169 6 → YW (gZ L xs) 190 (d + 3) 13 [some (.ref 169), some (yI k), some (yI x), some (.ref (276 + k.toNat)), some (yI i)] [] mi nn (qTI nn m (fun r m' => (r = 0 ∨ r = 1) ∧ m 169 6 ≤ m' 169 6)) := by
  intro k
  induction k using Nat.strongRecOn with
  | ind k ih =>
    intro i mi hk hi hTi hFi h6
    have tb16 := hT.atp 256 16 0 40 rfl
    have tb10 := hT.atp 256 10 0 10 rfl
    have tb6 := hT.atp 169 6 0 200 rfl
    have hen := hS.2.1 k.toNat (by omega) (by omega)
    have hk40 : k ≤ 39 := by omega
    have hen2 : m (276 + k.toNat) 11 ≤ 40 := (hT.atp (276 + k.toNat) 11 0 40 (ft276_11 (by omega))).2
    refine y_iload 15 c190_13 rfl rfl ?_
    refine y_iconst 18 c190_15 rfl ?_
    refine y_icmp 63 21 c190_18 rfl rfl (yc_gt (by omega) (by omega)) (fun hb4856 => ?_) (fun hb4856 => ?_)
    · refine y_iconst 64 c190_63 rfl ?_
      have tb4857 := hTi.atp 169 6 0 200 rfl
      exact y_mRI c190_64 (y_fit1 (by omega)) hTi hFi (by omega)
    · refine y_aload 22 c190_21 rfl rfl rfl ?_
      refine y_getR 25 c190_22 rfl kf169_3 ?_
      refine y_iload 26 c190_25 rfl rfl ?_
      refine y_aaload 27 c190_26 rfl kr251 (by omega) ?_
      refine y_aload 28 c190_27 rfl rfl rfl ?_
      refine y_getX 31 (m (276 + k.toNat) 3) c190_28 rfl (ff276_3 (by omega)) (hFi (276 + k.toNat) 3 (wMx_h (by omega))) ?_
      have tb4858 := hT.atp (276 + k.toNat) 3 ((-1)) 47 (ft276_3 (by omega))
      refine y_iaT 32 ((-1)) 29 c190_31 rfl (fa252 (by omega)) (by omega) hTi (fz252 (by omega)) (fun v4859 hv4859 gv4859 => ?_)
      refine y_iconst 33 c190_32 rfl ?_
      refine y_icmp 63 36 c190_33 rfl rfl (yc_eq (by omega) (by omega)) (fun hb4860 => ?_) (fun hb4860 => ?_)
      · refine y_iconst 64 c190_63 rfl ?_
        have tb4861 := hTi.atp 169 6 0 200 rfl
        exact y_mRI c190_64 (y_fit1 (by omega)) hTi hFi (by omega)
      · refine y_aload 37 c190_36 rfl rfl rfl ?_
        refine y_iload 38 c190_37 rfl rfl ?_
        refine y_iconst 39 c190_38 rfl ?_
        refine y_iadd 40 c190_39 rfl ?_
        refine y_aload 41 c190_40 rfl rfl rfl ?_
        refine y_getX 44 (m (276 + k.toNat) 11) c190_41 rfl (ff276_11 (by omega)) (hFi (276 + k.toNat) 11 (wMx_h (by omega))) ?_
        have tb4862 := hT.atp (276 + k.toNat) 11 0 40 (ft276_11 (by omega))
        refine y_iload 45 c190_44 rfl rfl ?_
        have es4864 : mi 169 4 = m 169 4 := (hFi 169 4 rfl)
        have tb4865 := hT.atp 169 4 ((-1)) 1 rfl
        have tb4866 := hTi.atp 169 6 0 200 rfl
        have es4867 : mi 256 16 = m 256 16 := (hFi 256 16 rfl)
        have tb4868 := hT.atp 256 16 0 40 rfl
        have es4869 : mi 256 10 = m 256 10 := (hFi 256 10 rfl)
        have tb4870 := hT.atp 256 10 0 10 rfl
        refine y_mI 48 [.ref 169, yI (k + 1), yI (m (276 + k.toNat) 11), yI x] [] c190_45 rfl rfl rfl rfl rfl (ycanO km197 ko169) kg190 qOut.I hFi (hB _ _ _ _ _ hTi (by omega) (hS.fr (by omega) (by omega) (fun k q _ => hFi _ _ (wMx_h (by omega)))) (by omega) (by omega) (by omega) (by omega)) (fun rq4863 mq4863 hTq4863 hFq4863 hq4863 => ?_)
        have hF4871 := hFi.tr' hFq4863
        refine y_if 53 51 c190_48 rfl rfl (yz_eq (by omega)) (fun hb4872 => ?_) (fun hb4872 => ?_)
        · refine y_aload 54 c190_53 rfl rfl rfl ?_
          have tb4874 := hTq4863.atp 169 6 0 200 rfl
          refine y_mU 57 [.ref 169] [] c190_54 rfl rfl rfl rfl rfl (ycanO km189 ko169) kg190 qOut.I hF4871 (t189 hTq4863) (fun mq4873 hTq4873 hFq4873 hq4873 => ?_)
          have hF4875 := hF4871.tr' hFq4873
          refine y_iinc 60 c190_57 rfl rfl rfl ?_
          refine y_goto 13 c190_60 rfl ?_
          exact ih (201 - (i + 1) : Int).toNat (by omega) (i + 1)  _ (by omega) (by omega) hTq4873 hF4875 (by have e : mq4873 169 6 = mq4873 169 6 := rfl; omega)
        · refine y_iconst 52 c190_51 rfl ?_
          have tb4876 := hTq4863.atp 169 6 0 200 rfl
          exact y_mRI c190_52 (y_fit1 (by omega)) hTq4863 hF4871 (by omega)
set_option maxRecDepth 100000 in
theorem t190_256 {L : Nat} {xs : Nat → Int32} {d nn : Nat} {m : yM} {k x : Int} (hT : Ty gT m) (hp : m 169 4 = 0) {b : Int} (hS : PS 256 m) (hkc : 0 ≤ k ∧ k < m 256 16) (hx : 0 ≤ x ∧ x ≤ 3) (hb : b ≤ m 169 6) (hB : BR256 L xs (d + 2) b) (h3 : 0 ≤ m (276 + k.toNat) 3) (h11 : m (276 + k.toNat) 11 ≤ m 256 16) : YC (gZ L xs) (d + 3) 190 [.ref 169, yI k, yI x] m nn (qTI nn m (fun r m' => (r = 0 ∨ r = 1) ∧ m 169 6 ≤ m' 169 6)) := by
  have tb16 := hT.atp 256 16 0 40 rfl
  have tb10 := hT.atp 256 10 0 10 rfl
  have tb6 := hT.atp 169 6 0 200 rfl
  refine YC.mkB [some (.ref 169), some (yI k), some (yI x), none, none] kn190 rfl rfl ?_
  have hF : Fr wMx m m := Fr.rf
  refine y_aload 1 c190_0 rfl rfl rfl ?_
  refine y_getS 4 (B := 256) c190_1 rfl kf169_4 (by rw [show m 169 4 = 0 from by have e : m 169 4 = m 169 4 := rfl; omega]; rfl) ?_
  refine y_getR 7 c190_4 rfl kf256_6 ?_
  refine y_iload 8 c190_7 rfl rfl ?_
  refine y_aaload 9 c190_8 rfl kr263 (by omega) ?_
  refine y_astore 10 c190_9 rfl rfl rfl ?_
  refine y_iconst 11 c190_10 rfl ?_
  refine y_istore 13 c190_11 rfl rfl ?_
  exact t190a_256 hT hp hS hkc hx hb hB h3 h11 201 0 m (by omega) (by omega) hT Fr.rf (by omega)
set_option maxRecDepth 100000 in
theorem t193_256 {L : Nat} {xs : Nat → Int32} {d nn : Nat} {m : yM} {k x : Int} (hT : Ty gT m) (hp : m 169 4 = 0) {b : Int} (hS : PS 256 m) (hkc : 0 ≤ k ∧ k < m 256 16) (hx : 0 ≤ x ∧ x ≤ 3) (hb : b ≤ m 169 6) (hB : BR256 L xs (d + 2) b) (h4 : m (276 + k.toNat) 0 = 4) : YC (gZ L xs) (d + 3) 193 [.ref 169, .ref (276 + k.toNat), yI x] m nn (qTU nn m (fun m' => m 169 6 ≤ m' 169 6)) := by
  have tb16 := hT.atp 256 16 0 40 rfl
  have tb10 := hT.atp 256 10 0 10 rfl
  have tb6 := hT.atp 169 6 0 200 rfl
  have hsv : SV %d m k.toNat := (hS.1.1 k.toNat (by omega) (by omega)).1
  unfold SV at hsv
  obtain ⟨s1, s2, s3, s4, s5⟩ := hsv
  have hen := hS.2.1 k.toNat (by omega) (by omega)
  have hnl := hS.2.2.1 k.toNat (by omega) (by omega)
  have hM : MP 266 m := hS.2.2.2.1
  refine YC.mkB [some (.ref 169), some (.ref (276 + k.toNat)), some (yI x), none, none, none, none, none] kn193 rfl rfl ?_
  have hF : Fr wMx m m := Fr.rf
  refine y_aload 1 c193_0 rfl rfl rfl ?_
  refine y_getR 4 c193_1 rfl kf169_3 ?_
  refine y_iload 5 c193_4 rfl rfl ?_
  refine y_aaload 6 c193_5 rfl kr251 (by omega) ?_
  refine y_astore 7 c193_6 rfl rfl rfl ?_
  refine y_aload 8 c193_7 rfl rfl rfl ?_
  refine y_aload 9 c193_8 rfl rfl rfl ?_
  refine y_getX 12 (m (276 + k.toNat) 3) c193_9 rfl (ff276_3 (by omega)) rfl ?_
  have tb4877 := hT.atp (276 + k.toNat) 3 ((-1)) 47 (ft276_3 (by omega))
  refine y_iaT 13 ((-1)) 29 c193_12 rfl (fa252 (by omega)) (by omega) hT (fz252 (by omega)) (fun v4878 hv4878 gv4878 => ?_)
  refine y_istore 15 c193_13 rfl rfl ?_
  refine y_aload 16 c193_15 rfl rfl rfl ?_
  refine y_getS 19 (B := 256) c193_16 rfl kf169_4 (by rw [show m 169 4 = 0 from by have e : m 169 4 = m 169 4 := rfl; omega]; rfl) ?_
  refine y_aload 20 c193_19 rfl rfl rfl ?_
  refine y_iload 22 c193_20 rfl rfl ?_
  have tb4880 := hT.atp 169 4 ((-1)) 1 rfl
  have tb4881 := hT.atp 169 6 0 200 rfl
  refine y_mI 25 [.ref 169, yI v4878] [.ref 256] c193_22 rfl rfl rfl rfl rfl (ycanO km191 ko169) kg193 qOut.U hF (t191_256 hT (by omega) (by omega)) (fun rq4879 mq4879 hTq4879 hFq4879 hq4879 => ?_)
  obtain ⟨hq4879, rfl⟩ := hq4879
  refine y_aload 26 c193_25 rfl rfl rfl ?_
  refine y_getX 29 (m (276 + k.toNat) 4) c193_26 rfl (ff276_4 (by omega)) rfl ?_
  have tb4882 := hT.atp (276 + k.toNat) 4 ((-2147483648)) 2147483647 (ft276_4 (by omega))
  refine y_aload 30 c193_29 rfl rfl rfl ?_
  refine y_getX 33 (m (276 + k.toNat) 8) c193_30 rfl (ff276_8 (by omega)) rfl ?_
  have tb4883 := hT.atp (276 + k.toNat) 8 0 2 (ft276_8 (by omega))
  have tb4885 := hT.atp 256 10 0 10 rfl
  refine y_callP 36 [.ref 256, yI rq4879, yI (m (276 + k.toNat) 4), yI (m (276 + k.toNat) 8)] [] c193_33 rfl rfl rfl rfl rfl (ycanO km72 ko256) (t72_256 hT (by omega) (by omega) (by omega)) (fun r4884 hr4884 => ?_)
  refine y_istore 38 c193_36 rfl rfl ?_
  refine y_iload 40 c193_38 rfl rfl ?_
  refine y_iconst 41 c193_40 rfl ?_
  refine y_icmp 52 44 c193_41 rfl rfl (yc_ne (by omega) (by omega)) (fun hb4886 => ?_) (fun hb4886 => ?_)
  · have hes : m (266 + r4884.toNat) 5 ≤ m 256 16 := hS.2.2.2.2.1 r4884.toNat (by omega)
    have hm3 := hr4884.2.2 (by omega)
    refine y_aload 53 c193_52 rfl rfl rfl ?_
    refine y_getS 56 (B := 256) c193_53 rfl kf169_4 (by rw [show m 169 4 = 0 from by have e : m 169 4 = m 169 4 := rfl; omega]; rfl) ?_
    refine y_getR 59 c193_56 rfl kf256_5 ?_
    refine y_iload 61 c193_59 rfl rfl ?_
    refine y_aaload 62 c193_61 rfl kr262 (by omega) ?_
    refine y_astore 64 c193_62 rfl rfl rfl ?_
    refine y_aload 65 c193_64 rfl rfl rfl ?_
    refine y_iload 66 c193_65 rfl rfl ?_
    refine y_iconst 67 c193_66 rfl ?_
    refine y_iadd 68 c193_67 rfl ?_
    refine y_mA 71 [.ref 169, yI (x + 1)] [] c193_68 rfl rfl rfl rfl rfl (ycanO km187 ko169) kg193 qOut.U hF (t187 hT (by omega)) (fun rq4887 mq4887 hTq4887 hFq4887 hq4887 => ?_)
    have hF4888 := hF.tr' hFq4887
    obtain ⟨rfl, hq4887⟩ := hq4887
    refine y_astore 73 c193_71 rfl rfl rfl ?_
    refine y_aload 74 c193_73 rfl rfl rfl ?_
    refine y_aload 76 c193_74 rfl rfl rfl ?_
    refine y_aload 78 c193_76 rfl rfl rfl ?_
    refine y_callP 81 [.ref (266 + r4884.toNat)] [.ref (252 + (x + 1).toNat), .ref 169] c193_78 rfl rfl rfl rfl rfl (ycanO km57 (fo266 (by omega))) (t57_256 hTq4887 (by omega)) (fun r4889 hr4889 => ?_)
    refine y_iload 83 c193_81 rfl rfl ?_
    have tb4891 := hTq4887.atp 169 6 0 200 rfl
    refine y_callUB 86 [.ref 169, .ref (252 + (x + 1).toNat), yI r4889, yI v4878] [] c193_83 rfl rfl rfl rfl rfl (ycanO km188 ko169) (t188 hTq4887 (by omega) (by omega) (by omega)) (fun mq4890 nq4890 hq4890 => ?_)
    obtain ⟨rfl, hTq4890, hFq4890, hq4890⟩ := hq4890
    have hF4892 := hF4888.tr hFq4890 (fun _ _ e => e)
    refine y_aload 87 c193_86 rfl rfl rfl ?_
    refine y_getX 90 (m (276 + k.toNat) 8) c193_87 rfl (ff276_8 (by omega)) ((hFq4890 (276 + k.toNat) 8 (wMx_h (by omega))).trans (hFq4887 (276 + k.toNat) 8 (wMx_h (by omega)))) ?_
    refine y_if 111 93 c193_90 rfl rfl (yz_le (by omega)) (fun hb4893 => ?_) (fun hb4893 => ?_)
    · refine y_aload 112 c193_111 rfl rfl rfl ?_
      refine y_getX 115 (m (276 + k.toNat) 8) c193_112 rfl (ff276_8 (by omega)) ((hFq4890 (276 + k.toNat) 8 (wMx_h (by omega))).trans (hFq4887 (276 + k.toNat) 8 (wMx_h (by omega)))) ?_
      refine y_iconst 116 c193_115 rfl ?_
      refine y_icmp 137 119 c193_116 rfl rfl (yc_le (by omega) (by omega)) (fun hb4894 => ?_) (fun hb4894 => ?_)
      · refine y_aload 138 c193_137 rfl rfl rfl ?_
        refine y_aload 140 c193_138 rfl rfl rfl ?_
        refine y_getX 143 (m (266 + r4884.toNat) 4) c193_140 rfl (ff266_4 (by omega)) ((hFq4890 (266 + r4884.toNat) 4 (wMx_h (by omega))).trans (hFq4887 (266 + r4884.toNat) 4 (wMx_h (by omega)))) ?_
        have tb4895 := hT.atp (266 + r4884.toNat) 4 0 40 (ft266_4 (by omega))
        refine y_aload 145 c193_143 rfl rfl rfl ?_
        refine y_getX 148 (m (266 + r4884.toNat) 5) c193_145 rfl (ff266_5 (by omega)) ((hFq4890 (266 + r4884.toNat) 5 (wMx_h (by omega))).trans (hFq4887 (266 + r4884.toNat) 5 (wMx_h (by omega)))) ?_
        have tb4896 := hT.atp (266 + r4884.toNat) 5 0 40 (ft266_5 (by omega))
        refine y_iload 149 c193_148 rfl rfl ?_
        refine y_iconst 150 c193_149 rfl ?_
        refine y_iadd 151 c193_150 rfl ?_
        have es4898 : mq4890 169 4 = m 169 4 := ((hFq4890 169 4 rfl).trans (hFq4887 169 4 rfl))
        have tb4899 := hTq4890.atp 169 6 0 200 rfl
        have es4900 : mq4890 256 16 = m 256 16 := ((hFq4890 256 16 rfl).trans (hFq4887 256 16 rfl))
        have tb4901 := hT.atp 256 16 0 40 rfl
        have es4902 : mq4890 256 10 = m 256 10 := ((hFq4890 256 10 rfl).trans (hFq4887 256 10 rfl))
        refine y_mI 154 [.ref 169, yI (m (266 + r4884.toNat) 4), yI (m (266 + r4884.toNat) 5), yI (x + 1)] [] c193_151 rfl rfl rfl rfl rfl (ycanO km197 ko169) kg193 qOut.U hF4892 (hB _ _ _ _ _ hTq4890 (by omega) (hS.fr (by omega) (by omega) (fun k q _ => hF4892 _ _ (wMx_h (by omega)))) (by omega) (by omega) (by omega) (by omega)) (fun rq4897 mq4897 hTq4897 hFq4897 hq4897 => ?_)
        have hF4903 := hF4892.tr' hFq4897
        refine y_pop 155 c193_154 rfl rfl ?_
        refine y_aload 156 c193_155 rfl rfl rfl ?_
        refine y_getX 159 (m (276 + k.toNat) 2) c193_156 rfl (ff276_2 (by omega)) ((hFq4897 (276 + k.toNat) 2 (wMx_h (by omega))).trans ((hFq4890 (276 + k.toNat) 2 (wMx_h (by omega))).trans (hFq4887 (276 + k.toNat) 2 (wMx_h (by omega))))) ?_
        have tb4904 := hT.atp (276 + k.toNat) 2 ((-1)) 47 (ft276_2 (by omega))
        refine y_iconst 160 c193_159 rfl ?_
        refine y_icmp 180 163 c193_160 rfl rfl (yc_eq (by omega) (by omega)) (fun hb4905 => ?_) (fun hb4905 => ?_)
        · have tb4906 := hTq4897.atp 169 6 0 200 rfl
          exact y_mRU c193_180 hTq4897 hF4903 (by omega)
        · refine y_aload 164 c193_163 rfl rfl rfl ?_
          refine y_aload 165 c193_164 rfl rfl rfl ?_
          refine y_aload 166 c193_165 rfl rfl rfl ?_
          refine y_getX 169 (m (276 + k.toNat) 2) c193_166 rfl (ff276_2 (by omega)) ((hFq4897 (276 + k.toNat) 2 (wMx_h (by omega))).trans ((hFq4890 (276 + k.toNat) 2 (wMx_h (by omega))).trans (hFq4887 (276 + k.toNat) 2 (wMx_h (by omega))))) ?_
          refine y_aload 171 c193_169 rfl rfl rfl ?_
          refine y_aload 173 c193_171 rfl rfl rfl ?_
          refine y_getX 176 (m (266 + r4884.toNat) 2) c193_173 rfl (ff266_2 (by omega)) ((hFq4897 (266 + r4884.toNat) 2 (wMx_h (by omega))).trans ((hFq4890 (266 + r4884.toNat) 2 (wMx_h (by omega))).trans (hFq4887 (266 + r4884.toNat) 2 (wMx_h (by omega))))) ?_
          have tb4907 := hT.atp (266 + r4884.toNat) 2 0 46 (ft266_2 (by omega))
          refine y_iaT 177 ((-1)) 29 c193_176 rfl (fa252 (by omega)) (by omega) hTq4897 (fz252 (by omega)) (fun v4908 hv4908 gv4908 => ?_)
          have tb4910 := hTq4897.atp 169 6 0 200 rfl
          refine y_callUB 180 [.ref 169, .ref (252 + x.toNat), yI (m (276 + k.toNat) 2), yI v4908] [] c193_177 rfl rfl rfl rfl rfl (ycanO km188 ko169) (t188 hTq4897 (by omega) (by omega) (by omega)) (fun mq4909 nq4909 hq4909 => ?_)
          obtain ⟨rfl, hTq4909, hFq4909, hq4909⟩ := hq4909
          have hF4911 := hF4903.tr hFq4909 (fun _ _ e => e)
          have tb4912 := hTq4909.atp 169 6 0 200 rfl
          exact y_mRU c193_180 hTq4909 hF4911 (by omega)
      · exfalso; omega
    · refine y_aload 94 c193_93 rfl rfl rfl ?_
      refine y_aload 96 c193_94 rfl rfl rfl ?_
      refine y_aload 98 c193_96 rfl rfl rfl ?_
      refine y_iconst 99 c193_98 rfl ?_
      have es4914 : mq4890 (266 + r4884.toNat) 3 = m (266 + r4884.toNat) 3 := ((hFq4890 (266 + r4884.toNat) 3 (wMx_h (by omega))).trans (hFq4887 (266 + r4884.toNat) 3 (wMx_h (by omega))))
      have tb4915 := hT.atp (266 + r4884.toNat) 3 0 2 (ft266_3 (by omega))
      refine y_callP 102 [.ref (266 + r4884.toNat), yI 0] [.ref (252 + (x + 1).toNat), .ref 169] c193_99 rfl rfl rfl rfl rfl (ycanO km87 (fo266 (by omega))) (t87_256 hTq4890 (by omega) (by omega) (hM.fr (fun k hk => hF4892 _ _ (wMx_h (by omega))) (fun k hk => hF4892 _ _ (wMx_h (by omega))))) (fun r4913 hr4913 => ?_)
      refine y_aload 103 c193_102 rfl rfl rfl ?_
      refine y_aload 104 c193_103 rfl rfl rfl ?_
      refine y_getX 107 (m (276 + k.toNat) 9) c193_104 rfl (ff276_9 (by omega)) ((hFq4890 (276 + k.toNat) 9 (wMx_h (by omega))).trans (hFq4887 (276 + k.toNat) 9 (wMx_h (by omega)))) ?_
      have tb4916 := hT.atp (276 + k.toNat) 9 ((-1)) 47 (ft276_9 (by omega))
      refine y_iaT 108 ((-1)) 29 c193_107 rfl (fa252 (by omega)) (by omega) hTq4890 (fz252 (by omega)) (fun v4917 hv4917 gv4917 => ?_)
      have tb4919 := hTq4890.atp 169 6 0 200 rfl
      refine y_callUB 111 [.ref 169, .ref (252 + (x + 1).toNat), yI r4913, yI v4917] [] c193_108 rfl rfl rfl rfl rfl (ycanO km188 ko169) (t188 hTq4890 (by omega) (by omega) (by omega)) (fun mq4918 nq4918 hq4918 => ?_)
      obtain ⟨rfl, hTq4918, hFq4918, hq4918⟩ := hq4918
      have hF4920 := hF4892.tr hFq4918 (fun _ _ e => e)
      refine y_aload 112 c193_111 rfl rfl rfl ?_
      refine y_getX 115 (m (276 + k.toNat) 8) c193_112 rfl (ff276_8 (by omega)) ((hFq4918 (276 + k.toNat) 8 (wMx_h (by omega))).trans ((hFq4890 (276 + k.toNat) 8 (wMx_h (by omega))).trans (hFq4887 (276 + k.toNat) 8 (wMx_h (by omega))))) ?_
      refine y_iconst 116 c193_115 rfl ?_
      refine y_icmp 137 119 c193_116 rfl rfl (yc_le (by omega) (by omega)) (fun hb4921 => ?_) (fun hb4921 => ?_)
      · refine y_aload 138 c193_137 rfl rfl rfl ?_
        refine y_aload 140 c193_138 rfl rfl rfl ?_
        refine y_getX 143 (m (266 + r4884.toNat) 4) c193_140 rfl (ff266_4 (by omega)) ((hFq4918 (266 + r4884.toNat) 4 (wMx_h (by omega))).trans ((hFq4890 (266 + r4884.toNat) 4 (wMx_h (by omega))).trans (hFq4887 (266 + r4884.toNat) 4 (wMx_h (by omega))))) ?_
        have tb4922 := hT.atp (266 + r4884.toNat) 4 0 40 (ft266_4 (by omega))
        refine y_aload 145 c193_143 rfl rfl rfl ?_
        refine y_getX 148 (m (266 + r4884.toNat) 5) c193_145 rfl (ff266_5 (by omega)) ((hFq4918 (266 + r4884.toNat) 5 (wMx_h (by omega))).trans ((hFq4890 (266 + r4884.toNat) 5 (wMx_h (by omega))).trans (hFq4887 (266 + r4884.toNat) 5 (wMx_h (by omega))))) ?_
        have tb4923 := hT.atp (266 + r4884.toNat) 5 0 40 (ft266_5 (by omega))
        refine y_iload 149 c193_148 rfl rfl ?_
        refine y_iconst 150 c193_149 rfl ?_
        refine y_iadd 151 c193_150 rfl ?_
        have es4925 : mq4918 169 4 = m 169 4 := ((hFq4918 169 4 rfl).trans ((hFq4890 169 4 rfl).trans (hFq4887 169 4 rfl)))
        have tb4926 := hTq4918.atp 169 6 0 200 rfl
        have es4927 : mq4918 256 16 = m 256 16 := ((hFq4918 256 16 rfl).trans ((hFq4890 256 16 rfl).trans (hFq4887 256 16 rfl)))
        have tb4928 := hT.atp 256 16 0 40 rfl
        have es4929 : mq4918 256 10 = m 256 10 := ((hFq4918 256 10 rfl).trans ((hFq4890 256 10 rfl).trans (hFq4887 256 10 rfl)))
        refine y_mI 154 [.ref 169, yI (m (266 + r4884.toNat) 4), yI (m (266 + r4884.toNat) 5), yI (x + 1)] [] c193_151 rfl rfl rfl rfl rfl (ycanO km197 ko169) kg193 qOut.U hF4920 (hB _ _ _ _ _ hTq4918 (by omega) (hS.fr (by omega) (by omega) (fun k q _ => hF4920 _ _ (wMx_h (by omega)))) (by omega) (by omega) (by omega) (by omega)) (fun rq4924 mq4924 hTq4924 hFq4924 hq4924 => ?_)
        have hF4930 := hF4920.tr' hFq4924
        refine y_pop 155 c193_154 rfl rfl ?_
        refine y_aload 156 c193_155 rfl rfl rfl ?_
        refine y_getX 159 (m (276 + k.toNat) 2) c193_156 rfl (ff276_2 (by omega)) ((hFq4924 (276 + k.toNat) 2 (wMx_h (by omega))).trans ((hFq4918 (276 + k.toNat) 2 (wMx_h (by omega))).trans ((hFq4890 (276 + k.toNat) 2 (wMx_h (by omega))).trans (hFq4887 (276 + k.toNat) 2 (wMx_h (by omega)))))) ?_
        have tb4931 := hT.atp (276 + k.toNat) 2 ((-1)) 47 (ft276_2 (by omega))
        refine y_iconst 160 c193_159 rfl ?_
        refine y_icmp 180 163 c193_160 rfl rfl (yc_eq (by omega) (by omega)) (fun hb4932 => ?_) (fun hb4932 => ?_)
        · have tb4933 := hTq4924.atp 169 6 0 200 rfl
          exact y_mRU c193_180 hTq4924 hF4930 (by omega)
        · refine y_aload 164 c193_163 rfl rfl rfl ?_
          refine y_aload 165 c193_164 rfl rfl rfl ?_
          refine y_aload 166 c193_165 rfl rfl rfl ?_
          refine y_getX 169 (m (276 + k.toNat) 2) c193_166 rfl (ff276_2 (by omega)) ((hFq4924 (276 + k.toNat) 2 (wMx_h (by omega))).trans ((hFq4918 (276 + k.toNat) 2 (wMx_h (by omega))).trans ((hFq4890 (276 + k.toNat) 2 (wMx_h (by omega))).trans (hFq4887 (276 + k.toNat) 2 (wMx_h (by omega)))))) ?_
          refine y_aload 171 c193_169 rfl rfl rfl ?_
          refine y_aload 173 c193_171 rfl rfl rfl ?_
          refine y_getX 176 (m (266 + r4884.toNat) 2) c193_173 rfl (ff266_2 (by omega)) ((hFq4924 (266 + r4884.toNat) 2 (wMx_h (by omega))).trans ((hFq4918 (266 + r4884.toNat) 2 (wMx_h (by omega))).trans ((hFq4890 (266 + r4884.toNat) 2 (wMx_h (by omega))).trans (hFq4887 (266 + r4884.toNat) 2 (wMx_h (by omega)))))) ?_
          have tb4934 := hT.atp (266 + r4884.toNat) 2 0 46 (ft266_2 (by omega))
          refine y_iaT 177 ((-1)) 29 c193_176 rfl (fa252 (by omega)) (by omega) hTq4924 (fz252 (by omega)) (fun v4935 hv4935 gv4935 => ?_)
          have tb4937 := hTq4924.atp 169 6 0 200 rfl
          refine y_callUB 180 [.ref 169, .ref (252 + x.toNat), yI (m (276 + k.toNat) 2), yI v4935] [] c193_177 rfl rfl rfl rfl rfl (ycanO km188 ko169) (t188 hTq4924 (by omega) (by omega) (by omega)) (fun mq4936 nq4936 hq4936 => ?_)
          obtain ⟨rfl, hTq4936, hFq4936, hq4936⟩ := hq4936
          have hF4938 := hF4930.tr hFq4936 (fun _ _ e => e)
          have tb4939 := hTq4936.atp 169 6 0 200 rfl
          exact y_mRU c193_180 hTq4936 hF4938 (by omega)
      · refine y_aload 120 c193_119 rfl rfl rfl ?_
        refine y_aload 122 c193_120 rfl rfl rfl ?_
        refine y_aload 124 c193_122 rfl rfl rfl ?_
        refine y_iconst 125 c193_124 rfl ?_
        have es4941 : mq4918 (266 + r4884.toNat) 3 = m (266 + r4884.toNat) 3 := ((hFq4918 (266 + r4884.toNat) 3 (wMx_h (by omega))).trans ((hFq4890 (266 + r4884.toNat) 3 (wMx_h (by omega))).trans (hFq4887 (266 + r4884.toNat) 3 (wMx_h (by omega)))))
        refine y_callP 128 [.ref (266 + r4884.toNat), yI 1] [.ref (252 + (x + 1).toNat), .ref 169] c193_125 rfl rfl rfl rfl rfl (ycanO km87 (fo266 (by omega))) (t87_256 hTq4918 (by omega) (by omega) (hM.fr (fun k hk => hF4920 _ _ (wMx_h (by omega))) (fun k hk => hF4920 _ _ (wMx_h (by omega))))) (fun r4940 hr4940 => ?_)
        refine y_aload 129 c193_128 rfl rfl rfl ?_
        refine y_aload 130 c193_129 rfl rfl rfl ?_
        refine y_getX 133 (m (276 + k.toNat) 10) c193_130 rfl (ff276_10 (by omega)) ((hFq4918 (276 + k.toNat) 10 (wMx_h (by omega))).trans ((hFq4890 (276 + k.toNat) 10 (wMx_h (by omega))).trans (hFq4887 (276 + k.toNat) 10 (wMx_h (by omega))))) ?_
        have tb4942 := hT.atp (276 + k.toNat) 10 ((-1)) 47 (ft276_10 (by omega))
        refine y_iaT 134 ((-1)) 29 c193_133 rfl (fa252 (by omega)) (by omega) hTq4918 (fz252 (by omega)) (fun v4943 hv4943 gv4943 => ?_)
        have tb4945 := hTq4918.atp 169 6 0 200 rfl
        refine y_callUB 137 [.ref 169, .ref (252 + (x + 1).toNat), yI r4940, yI v4943] [] c193_134 rfl rfl rfl rfl rfl (ycanO km188 ko169) (t188 hTq4918 (by omega) (by omega) (by omega)) (fun mq4944 nq4944 hq4944 => ?_)
        obtain ⟨rfl, hTq4944, hFq4944, hq4944⟩ := hq4944
        have hF4946 := hF4920.tr hFq4944 (fun _ _ e => e)
        refine y_aload 138 c193_137 rfl rfl rfl ?_
        refine y_aload 140 c193_138 rfl rfl rfl ?_
        refine y_getX 143 (m (266 + r4884.toNat) 4) c193_140 rfl (ff266_4 (by omega)) ((hFq4944 (266 + r4884.toNat) 4 (wMx_h (by omega))).trans ((hFq4918 (266 + r4884.toNat) 4 (wMx_h (by omega))).trans ((hFq4890 (266 + r4884.toNat) 4 (wMx_h (by omega))).trans (hFq4887 (266 + r4884.toNat) 4 (wMx_h (by omega)))))) ?_
        have tb4947 := hT.atp (266 + r4884.toNat) 4 0 40 (ft266_4 (by omega))
        refine y_aload 145 c193_143 rfl rfl rfl ?_
        refine y_getX 148 (m (266 + r4884.toNat) 5) c193_145 rfl (ff266_5 (by omega)) ((hFq4944 (266 + r4884.toNat) 5 (wMx_h (by omega))).trans ((hFq4918 (266 + r4884.toNat) 5 (wMx_h (by omega))).trans ((hFq4890 (266 + r4884.toNat) 5 (wMx_h (by omega))).trans (hFq4887 (266 + r4884.toNat) 5 (wMx_h (by omega)))))) ?_
        have tb4948 := hT.atp (266 + r4884.toNat) 5 0 40 (ft266_5 (by omega))
        refine y_iload 149 c193_148 rfl rfl ?_
        refine y_iconst 150 c193_149 rfl ?_
        refine y_iadd 151 c193_150 rfl ?_
        have es4950 : mq4944 169 4 = m 169 4 := ((hFq4944 169 4 rfl).trans ((hFq4918 169 4 rfl).trans ((hFq4890 169 4 rfl).trans (hFq4887 169 4 rfl))))
        have tb4951 := hTq4944.atp 169 6 0 200 rfl
        have es4952 : mq4944 256 16 = m 256 16 := ((hFq4944 256 16 rfl).trans ((hFq4918 256 16 rfl).trans ((hFq4890 256 16 rfl).trans (hFq4887 256 16 rfl))))
        have tb4953 := hT.atp 256 16 0 40 rfl
        have es4954 : mq4944 256 10 = m 256 10 := ((hFq4944 256 10 rfl).trans ((hFq4918 256 10 rfl).trans ((hFq4890 256 10 rfl).trans (hFq4887 256 10 rfl))))
        refine y_mI 154 [.ref 169, yI (m (266 + r4884.toNat) 4), yI (m (266 + r4884.toNat) 5), yI (x + 1)] [] c193_151 rfl rfl rfl rfl rfl (ycanO km197 ko169) kg193 qOut.U hF4946 (hB _ _ _ _ _ hTq4944 (by omega) (hS.fr (by omega) (by omega) (fun k q _ => hF4946 _ _ (wMx_h (by omega)))) (by omega) (by omega) (by omega) (by omega)) (fun rq4949 mq4949 hTq4949 hFq4949 hq4949 => ?_)
        have hF4955 := hF4946.tr' hFq4949
        refine y_pop 155 c193_154 rfl rfl ?_
        refine y_aload 156 c193_155 rfl rfl rfl ?_
        refine y_getX 159 (m (276 + k.toNat) 2) c193_156 rfl (ff276_2 (by omega)) ((hFq4949 (276 + k.toNat) 2 (wMx_h (by omega))).trans ((hFq4944 (276 + k.toNat) 2 (wMx_h (by omega))).trans ((hFq4918 (276 + k.toNat) 2 (wMx_h (by omega))).trans ((hFq4890 (276 + k.toNat) 2 (wMx_h (by omega))).trans (hFq4887 (276 + k.toNat) 2 (wMx_h (by omega))))))) ?_
        have tb4956 := hT.atp (276 + k.toNat) 2 ((-1)) 47 (ft276_2 (by omega))
        refine y_iconst 160 c193_159 rfl ?_
        refine y_icmp 180 163 c193_160 rfl rfl (yc_eq (by omega) (by omega)) (fun hb4957 => ?_) (fun hb4957 => ?_)
        · have tb4958 := hTq4949.atp 169 6 0 200 rfl
          exact y_mRU c193_180 hTq4949 hF4955 (by omega)
        · refine y_aload 164 c193_163 rfl rfl rfl ?_
          refine y_aload 165 c193_164 rfl rfl rfl ?_
          refine y_aload 166 c193_165 rfl rfl rfl ?_
          refine y_getX 169 (m (276 + k.toNat) 2) c193_166 rfl (ff276_2 (by omega)) ((hFq4949 (276 + k.toNat) 2 (wMx_h (by omega))).trans ((hFq4944 (276 + k.toNat) 2 (wMx_h (by omega))).trans ((hFq4918 (276 + k.toNat) 2 (wMx_h (by omega))).trans ((hFq4890 (276 + k.toNat) 2 (wMx_h (by omega))).trans (hFq4887 (276 + k.toNat) 2 (wMx_h (by omega))))))) ?_
          refine y_aload 171 c193_169 rfl rfl rfl ?_
          refine y_aload 173 c193_171 rfl rfl rfl ?_
          refine y_getX 176 (m (266 + r4884.toNat) 2) c193_173 rfl (ff266_2 (by omega)) ((hFq4949 (266 + r4884.toNat) 2 (wMx_h (by omega))).trans ((hFq4944 (266 + r4884.toNat) 2 (wMx_h (by omega))).trans ((hFq4918 (266 + r4884.toNat) 2 (wMx_h (by omega))).trans ((hFq4890 (266 + r4884.toNat) 2 (wMx_h (by omega))).trans (hFq4887 (266 + r4884.toNat) 2 (wMx_h (by omega))))))) ?_
          have tb4959 := hT.atp (266 + r4884.toNat) 2 0 46 (ft266_2 (by omega))
          refine y_iaT 177 ((-1)) 29 c193_176 rfl (fa252 (by omega)) (by omega) hTq4949 (fz252 (by omega)) (fun v4960 hv4960 gv4960 => ?_)
          have tb4962 := hTq4949.atp 169 6 0 200 rfl
          refine y_callUB 180 [.ref 169, .ref (252 + x.toNat), yI (m (276 + k.toNat) 2), yI v4960] [] c193_177 rfl rfl rfl rfl rfl (ycanO km188 ko169) (t188 hTq4949 (by omega) (by omega) (by omega)) (fun mq4961 nq4961 hq4961 => ?_)
          obtain ⟨rfl, hTq4961, hFq4961, hq4961⟩ := hq4961
          have hF4963 := hF4955.tr hFq4961 (fun _ _ e => e)
          have tb4964 := hTq4961.atp 169 6 0 200 rfl
          exact y_mRU c193_180 hTq4961 hF4963 (by omega)
  · exact y_mThr c193_44 rfl hT hF (by decide) qOut.U
set_option maxRecDepth 100000 in
theorem t196_256 {L : Nat} {xs : Nat → Int32} {d nn : Nat} {m : yM} {k x : Int} (hT : Ty gT m) (hp : m 169 4 = 0) {b : Int} (hS : PS 256 m) (hkc : 0 ≤ k ∧ k < m 256 16) (hx : 0 ≤ x ∧ x ≤ 3) (hb : b ≤ m 169 6) (hB : BR256 L xs (d + 2) (b + 1)) : YC (gZ L xs) (d + 4) 196 [.ref 169, yI k, yI x] m nn (qTI nn m (fun r m' => (r = 0 ∨ r = 1) ∧ m 169 6 ≤ m' 169 6)) := by
  have tb16 := hT.atp 256 16 0 40 rfl
  have tb10 := hT.atp 256 10 0 10 rfl
  have tb6 := hT.atp 169 6 0 200 rfl
  have hsv : SV %d m k.toNat := (hS.1.1 k.toNat (by omega) (by omega)).1
  unfold SV at hsv
  obtain ⟨s1, s2, s3, s4, s5⟩ := hsv
  have hen := hS.2.1 k.toNat (by omega) (by omega)
  have hnl := hS.2.2.1 k.toNat (by omega) (by omega)
  refine YC.mkB [some (.ref 169), some (yI k), some (yI x), none, none] kn196 rfl rfl ?_
  have hF : Fr wMx m m := Fr.rf
  refine y_aload 1 c196_0 rfl rfl rfl ?_
  have tb4966 := hT.atp 169 6 0 200 rfl
  refine y_mU 4 [.ref 169] [] c196_1 rfl rfl rfl rfl rfl (ycanO km189 ko169) kg196 qOut.I hF (t189 hT) (fun mq4965 hTq4965 hFq4965 hq4965 => ?_)
  have hF4967 := hF.tr' hFq4965
  refine y_aload 5 c196_4 rfl rfl rfl ?_
  refine y_getS 8 (B := 256) c196_5 rfl kf169_4 (by rw [show mq4965 169 4 = 0 from by have e : mq4965 169 4 = m 169 4 := (hFq4965 169 4 rfl); omega]; rfl) ?_
  refine y_getR 11 c196_8 rfl kf256_6 ?_
  refine y_iload 12 c196_11 rfl rfl ?_
  refine y_aaload 13 c196_12 rfl kr263 (by omega) ?_
  refine y_astore 14 c196_13 rfl rfl rfl ?_
  refine y_aload 15 c196_14 rfl rfl rfl ?_
  refine y_getR 18 c196_15 rfl kf169_3 ?_
  refine y_iload 19 c196_18 rfl rfl ?_
  refine y_aaload 20 c196_19 rfl kr251 (by omega) ?_
  refine y_astore 22 c196_20 rfl rfl rfl ?_
  refine y_aload 23 c196_22 rfl rfl rfl ?_
  refine y_getX 26 (m (276 + k.toNat) 0) c196_23 rfl (ff276_0 (by omega)) (hFq4965 (276 + k.toNat) 0 (wMx_h (by omega))) ?_
  have tb4968 := hT.atp (276 + k.toNat) 0 0 9 (ft276_0 (by omega))
  by_cases hk4969 : m (276 + k.toNat) 0 = 0
  · refine y_top 0 hk4969 ?_
    refine y_tsw 60 c196_26 (by decide) (by decide) rfl rfl ?_
    refine y_aload 62 c196_60 rfl rfl rfl ?_
    refine y_aload 63 c196_62 rfl rfl rfl ?_
    refine y_getX 66 (m (276 + k.toNat) 3) c196_63 rfl (ff276_3 (by omega)) (hFq4965 (276 + k.toNat) 3 (wMx_h (by omega))) ?_
    have tb4970 := hT.atp (276 + k.toNat) 3 ((-1)) 47 (ft276_3 (by omega))
    refine y_iaT 67 ((-1)) 29 c196_66 rfl (fa252 (by omega)) (by omega) hTq4965 (fz252 (by omega)) (fun v4971 hv4971 gv4971 => ?_)
    refine y_iconst 68 c196_67 rfl ?_
    refine y_icmp 86 71 c196_68 rfl rfl (yc_eq (by omega) (by omega)) (fun hb4972 => ?_) (fun hb4972 => ?_)
    · refine y_aload 87 c196_86 rfl rfl rfl ?_
      refine y_aload 88 c196_87 rfl rfl rfl ?_
      refine y_getX 91 (m (276 + k.toNat) 11) c196_88 rfl (ff276_11 (by omega)) (hFq4965 (276 + k.toNat) 11 (wMx_h (by omega))) ?_
      have tb4973 := hT.atp (276 + k.toNat) 11 0 40 (ft276_11 (by omega))
      refine y_aload 92 c196_91 rfl rfl rfl ?_
      refine y_getX 95 (m (276 + k.toNat) 12) c196_92 rfl (ff276_12 (by omega)) (hFq4965 (276 + k.toNat) 12 (wMx_h (by omega))) ?_
      have tb4974 := hT.atp (276 + k.toNat) 12 0 40 (ft276_12 (by omega))
      refine y_iload 96 c196_95 rfl rfl ?_
      have es4976 : mq4965 169 4 = m 169 4 := (hFq4965 169 4 rfl)
      have tb4977 := hT.atp 169 4 ((-1)) 1 rfl
      have tb4978 := hTq4965.atp 169 6 0 200 rfl
      have es4979 : mq4965 256 16 = m 256 16 := (hFq4965 256 16 rfl)
      have tb4980 := hT.atp 256 16 0 40 rfl
      have es4981 : mq4965 256 10 = m 256 10 := (hFq4965 256 10 rfl)
      have tb4982 := hT.atp 256 10 0 10 rfl
      refine y_mI 99 [.ref 169, yI (m (276 + k.toNat) 11), yI (m (276 + k.toNat) 12), yI x] [] c196_96 rfl rfl rfl rfl rfl (ycanO km197 ko169) kg196 qOut.I hF4967 (hB _ _ _ _ _ hTq4965 (by omega) (hS.fr (by omega) (by omega) (fun k q _ => hF4967 _ _ (wMx_h (by omega)))) (by omega) (by omega) (by omega) (by omega)) (fun rq4975 mq4975 hTq4975 hFq4975 hq4975 => ?_)
      have hF4983 := hF4967.tr' hFq4975
      have tb4984 := hTq4975.atp 169 6 0 200 rfl
      exact y_mRI c196_99 (y_fit1 (by omega)) hTq4975 hF4983 (by omega)
    · refine y_aload 72 c196_71 rfl rfl rfl ?_
      refine y_iload 73 c196_72 rfl rfl ?_
      refine y_iconst 74 c196_73 rfl ?_
      refine y_iadd 75 c196_74 rfl ?_
      refine y_aload 76 c196_75 rfl rfl rfl ?_
      refine y_getX 79 (m (276 + k.toNat) 11) c196_76 rfl (ff276_11 (by omega)) (hFq4965 (276 + k.toNat) 11 (wMx_h (by omega))) ?_
      have tb4985 := hT.atp (276 + k.toNat) 11 0 40 (ft276_11 (by omega))
      refine y_iload 80 c196_79 rfl rfl ?_
      have es4987 : mq4965 169 4 = m 169 4 := (hFq4965 169 4 rfl)
      have tb4988 := hT.atp 169 4 ((-1)) 1 rfl
      have tb4989 := hTq4965.atp 169 6 0 200 rfl
      have es4990 : mq4965 256 16 = m 256 16 := (hFq4965 256 16 rfl)
      have tb4991 := hT.atp 256 16 0 40 rfl
      have es4992 : mq4965 256 10 = m 256 10 := (hFq4965 256 10 rfl)
      have tb4993 := hT.atp 256 10 0 10 rfl
      refine y_mI 83 [.ref 169, yI (k + 1), yI (m (276 + k.toNat) 11), yI x] [] c196_80 rfl rfl rfl rfl rfl (ycanO km197 ko169) kg196 qOut.I hF4967 (hB _ _ _ _ _ hTq4965 (by omega) (hS.fr (by omega) (by omega) (fun k q _ => hF4967 _ _ (wMx_h (by omega)))) (by omega) (by omega) (by omega) (by omega)) (fun rq4986 mq4986 hTq4986 hFq4986 hq4986 => ?_)
      have hF4994 := hF4967.tr' hFq4986
      refine y_goto 99 c196_83 rfl ?_
      have tb4995 := hTq4986.atp 169 6 0 200 rfl
      exact y_mRI c196_99 (y_fit1 (by omega)) hTq4986 hF4994 (by omega)
  by_cases hk4996 : m (276 + k.toNat) 0 = 1
  · refine y_top 1 hk4996 ?_
    refine y_tsw 100 c196_26 (by decide) (by decide) rfl rfl ?_
    refine y_aload 101 c196_100 rfl rfl rfl ?_
    refine y_iload 102 c196_101 rfl rfl ?_
    refine y_iload 103 c196_102 rfl rfl ?_
    have es4998 : mq4965 169 4 = m 169 4 := (hFq4965 169 4 rfl)
    have tb4999 := hT.atp 169 4 ((-1)) 1 rfl
    have tb5000 := hTq4965.atp 169 6 0 200 rfl
    have es5001 : mq4965 256 16 = m 256 16 := (hFq4965 256 16 rfl)
    have tb5002 := hT.atp 256 16 0 40 rfl
    have es5003 : mq4965 256 10 = m 256 10 := (hFq4965 256 10 rfl)
    have tb5004 := hT.atp 256 10 0 10 rfl
    have es5005 : mq4965 (276 + k.toNat) 3 = m (276 + k.toNat) 3 := (hFq4965 (276 + k.toNat) 3 (wMx_h (by omega)))
    have tb5006 := hT.atp (276 + k.toNat) 3 ((-1)) 47 (ft276_3 (by omega))
    have es5007 : mq4965 (276 + k.toNat) 11 = m (276 + k.toNat) 11 := (hFq4965 (276 + k.toNat) 11 (wMx_h (by omega)))
    have tb5008 := hT.atp (276 + k.toNat) 11 0 40 (ft276_11 (by omega))
    refine y_mI 106 [.ref 169, yI k, yI x] [] c196_103 rfl rfl rfl rfl rfl (ycanO km190 ko169) kg196 qOut.I hF4967 (t190_256 (k := k) (b := b + 1) hTq4965 (by omega) (hS.fr (by omega) (by omega) (fun k q _ => hF4967 _ _ (wMx_h (by omega)))) (by omega) (by omega) (by omega) hB (by omega) (by omega)) (fun rq4997 mq4997 hTq4997 hFq4997 hq4997 => ?_)
    have hF5009 := hF4967.tr' hFq4997
    have tb5010 := hTq4997.atp 169 6 0 200 rfl
    exact y_mRI c196_106 (y_fit1 (by omega)) hTq4997 hF5009 (by omega)
  by_cases hk5011 : m (276 + k.toNat) 0 = 2
  · refine y_top 2 hk5011 ?_
    refine y_tsw 107 c196_26 (by decide) (by decide) rfl rfl ?_
    refine y_aload 108 c196_107 rfl rfl rfl ?_
    refine y_aload 110 c196_108 rfl rfl rfl ?_
    refine y_aload 111 c196_110 rfl rfl rfl ?_
    refine y_getX 114 (m (276 + k.toNat) 2) c196_111 rfl (ff276_2 (by omega)) (hFq4965 (276 + k.toNat) 2 (wMx_h (by omega))) ?_
    have tb5012 := hT.atp (276 + k.toNat) 2 ((-1)) 47 (ft276_2 (by omega))
    refine y_aload 116 c196_114 rfl rfl rfl ?_
    refine y_aload 117 c196_116 rfl rfl rfl ?_
    refine y_getX 120 (m (276 + k.toNat) 3) c196_117 rfl (ff276_3 (by omega)) (hFq4965 (276 + k.toNat) 3 (wMx_h (by omega))) ?_
    have tb5013 := hT.atp (276 + k.toNat) 3 ((-1)) 47 (ft276_3 (by omega))
    refine y_iaT 121 ((-1)) 29 c196_120 rfl (fa252 (by omega)) (by omega) hTq4965 (fz252 (by omega)) (fun v5014 hv5014 gv5014 => ?_)
    have tb5016 := hTq4965.atp 169 6 0 200 rfl
    refine y_callUB 124 [.ref 169, .ref (252 + x.toNat), yI (m (276 + k.toNat) 2), yI v5014] [] c196_121 rfl rfl rfl rfl rfl (ycanO km188 ko169) (t188 hTq4965 (by omega) (by omega) (by omega)) (fun mq5015 nq5015 hq5015 => ?_)
    obtain ⟨rfl, hTq5015, hFq5015, hq5015⟩ := hq5015
    have hF5017 := hF4967.tr hFq5015 (fun _ _ e => e)
    refine y_iconst 125 c196_124 rfl ?_
    have tb5018 := hTq5015.atp 169 6 0 200 rfl
    exact y_mRI c196_125 (y_fit1 (by omega)) hTq5015 hF5017 (by omega)
  by_cases hk5019 : m (276 + k.toNat) 0 = 3
  · refine y_top 3 hk5019 ?_
    refine y_tsw 126 c196_26 (by decide) (by decide) rfl rfl ?_
    refine y_aload 127 c196_126 rfl rfl rfl ?_
    refine y_getR 130 c196_127 rfl kf169_2 ?_
    refine y_aload 131 c196_130 rfl rfl rfl ?_
    refine y_aload 133 c196_131 rfl rfl rfl ?_
    refine y_aload 134 c196_133 rfl rfl rfl ?_
    refine y_getX 137 (m (276 + k.toNat) 2) c196_134 rfl (ff276_2 (by omega)) (hFq4965 (276 + k.toNat) 2 (wMx_h (by omega))) ?_
    have tb5020 := hT.atp (276 + k.toNat) 2 ((-1)) 47 (ft276_2 (by omega))
    refine y_iaT 138 ((-1)) 29 c196_137 rfl (fa252 (by omega)) (by omega) hTq4965 (fz252 (by omega)) (fun v5021 hv5021 gv5021 => ?_)
    refine y_aload 139 c196_138 rfl rfl rfl ?_
    refine y_getX 142 (m (276 + k.toNat) 6) c196_139 rfl (ff276_6 (by omega)) (hFq4965 (276 + k.toNat) 6 (wMx_h (by omega))) ?_
    have tb5022 := hT.atp (276 + k.toNat) 6 ((-1)) 11 (ft276_6 (by omega))
    have es5024 : mq4965 169 4 = m 169 4 := (hFq4965 169 4 rfl)
    have tb5025 := hT.atp 169 4 ((-1)) 1 rfl
    have tb5026 := hTq4965.atp 169 6 0 200 rfl
    refine y_mI 145 [.ref 169, yI v5021, yI (m (276 + k.toNat) 6)] [.ref 220] c196_142 rfl rfl rfl rfl rfl (ycanO km192 ko169) kg196 qOut.I hF4967 (t192_256 hTq4965 (by omega) (by omega) (by omega)) (fun rq5023 mq5023 hTq5023 hFq5023 hq5023 => ?_)
    obtain ⟨hq5023, rfl⟩ := hq5023
    refine y_aaload 146 c196_145 rfl kr220 (by omega) ?_
    refine y_aload 147 c196_146 rfl rfl rfl ?_
    refine y_getX 150 (m (276 + k.toNat) 6) c196_147 rfl (ff276_6 (by omega)) (hFq4965 (276 + k.toNat) 6 (wMx_h (by omega))) ?_
    refine y_aload 152 c196_150 rfl rfl rfl ?_
    refine y_aload 153 c196_152 rfl rfl rfl ?_
    refine y_getX 156 (m (276 + k.toNat) 3) c196_153 rfl (ff276_3 (by omega)) (hFq4965 (276 + k.toNat) 3 (wMx_h (by omega))) ?_
    have tb5027 := hT.atp (276 + k.toNat) 3 ((-1)) 47 (ft276_3 (by omega))
    refine y_iaT 157 ((-1)) 29 c196_156 rfl (fa252 (by omega)) (by omega) hTq4965 (fz252 (by omega)) (fun v5028 hv5028 gv5028 => ?_)
    refine y_iastore 158 c196_157 rfl (fa221 (by omega)) (by omega) (y_nar0 _) ?_
    have hT5029 := hTq4965.up (221 + rq5023.toNat) ((m (276 + k.toNat) 6).toNat) v5028 ((-1)) 29 (fz221 (by omega)) (by omega)
    have hF5030 := hF4967.up (221 + rq5023.toNat) ((m (276 + k.toNat) 6).toNat) v5028 (wMx_r (by omega))
    refine y_iconst 159 c196_158 rfl ?_
    have es5031 : (yup mq4965 (221 + rq5023.toNat) ((m (276 + k.toNat) 6).toNat) v5028) 169 6 = mq4965 169 6 := (yup_na (by omega))
    exact y_mRI c196_159 (y_fit1 (by omega)) hT5029 hF5030 (by omega)
  by_cases hk5032 : m (276 + k.toNat) 0 = 4
  · refine y_top 4 hk5032 ?_
    refine y_tsw 160 c196_26 (by decide) (by decide) rfl rfl ?_
    refine y_aload 161 c196_160 rfl rfl rfl ?_
    refine y_aload 162 c196_161 rfl rfl rfl ?_
    refine y_iload 163 c196_162 rfl rfl ?_
    have es5034 : mq4965 169 4 = m 169 4 := (hFq4965 169 4 rfl)
    have tb5035 := hT.atp 169 4 ((-1)) 1 rfl
    have tb5036 := hTq4965.atp 169 6 0 200 rfl
    have es5037 : mq4965 256 16 = m 256 16 := (hFq4965 256 16 rfl)
    have tb5038 := hT.atp 256 16 0 40 rfl
    have es5039 : mq4965 256 10 = m 256 10 := (hFq4965 256 10 rfl)
    have tb5040 := hT.atp 256 10 0 10 rfl
    have es5041 : mq4965 (276 + k.toNat) 0 = m (276 + k.toNat) 0 := (hFq4965 (276 + k.toNat) 0 (wMx_h (by omega)))
    refine y_mU 166 [.ref 169, .ref (276 + k.toNat), yI x] [] c196_163 rfl rfl rfl rfl rfl (ycanO km193 ko169) kg196 qOut.I hF4967 (t193_256 (k := k) (b := b + 1) hTq4965 (by omega) (hS.fr (by omega) (by omega) (fun k q _ => hF4967 _ _ (wMx_h (by omega)))) (by omega) (by omega) (by omega) hB (by omega)) (fun mq5033 hTq5033 hFq5033 hq5033 => ?_)
    have hF5042 := hF4967.tr' hFq5033
    refine y_iconst 167 c196_166 rfl ?_
    have tb5043 := hTq5033.atp 169 6 0 200 rfl
    exact y_mRI c196_167 (y_fit1 (by omega)) hTq5033 hF5042 (by omega)
  refine y_tswd 168 c196_26 (by omega) (by omega) rfl ?_
  refine y_aload 169 c196_168 rfl rfl rfl ?_
  refine y_aload 171 c196_169 rfl rfl rfl ?_
  refine y_aload 172 c196_171 rfl rfl rfl ?_
  refine y_getX 175 (m (276 + k.toNat) 2) c196_172 rfl (ff276_2 (by omega)) (hFq4965 (276 + k.toNat) 2 (wMx_h (by omega))) ?_
  have tb5044 := hT.atp (276 + k.toNat) 2 ((-1)) 47 (ft276_2 (by omega))
  refine y_aload 176 c196_175 rfl rfl rfl ?_
  refine y_aload 177 c196_176 rfl rfl rfl ?_
  refine y_aload 179 c196_177 rfl rfl rfl ?_
  have es5046 : mq4965 169 4 = m 169 4 := (hFq4965 169 4 rfl)
  have tb5047 := hT.atp 169 4 ((-1)) 1 rfl
  have tb5048 := hTq4965.atp 169 6 0 200 rfl
  have es5049 : mq4965 256 16 = m 256 16 := (hFq4965 256 16 rfl)
  have tb5050 := hT.atp 256 16 0 40 rfl
  have es5051 : mq4965 256 10 = m 256 10 := (hFq4965 256 10 rfl)
  have tb5052 := hT.atp 256 10 0 10 rfl
  have es5053 : mq4965 (276 + k.toNat) 0 = m (276 + k.toNat) 0 := (hFq4965 (276 + k.toNat) 0 (wMx_h (by omega)))
  have es5054 : mq4965 (276 + k.toNat) 3 = m (276 + k.toNat) 3 := (hFq4965 (276 + k.toNat) 3 (wMx_h (by omega)))
  have tb5055 := hT.atp (276 + k.toNat) 3 ((-1)) 47 (ft276_3 (by omega))
  have es5056 : mq4965 (276 + k.toNat) 6 = m (276 + k.toNat) 6 := (hFq4965 (276 + k.toNat) 6 (wMx_h (by omega)))
  have tb5057 := hT.atp (276 + k.toNat) 6 ((-1)) 11 (ft276_6 (by omega))
  refine y_mI 182 [.ref 169, .ref (276 + k.toNat), .ref (252 + x.toNat)] [yI (m (276 + k.toNat) 2), .ref (252 + x.toNat), .ref 169] c196_179 rfl rfl rfl rfl rfl (ycanO km195 ko169) kg196 qOut.I hF4967 (t195_256 (k := k) hTq4965 (by omega) (by omega) (by omega) (by omega) (by omega) (by omega)) (fun rq5045 mq5045 hTq5045 hFq5045 hq5045 => ?_)
  have hF5058 := hF4967.tr' hFq5045
  have tb5060 := hTq5045.atp 169 6 0 200 rfl
  refine y_callUB 185 [.ref 169, .ref (252 + x.toNat), yI (m (276 + k.toNat) 2), yI rq5045] [] c196_182 rfl rfl rfl rfl rfl (ycanO km188 ko169) (t188 hTq5045 (by omega) (by omega) (by omega)) (fun mq5059 nq5059 hq5059 => ?_)
  obtain ⟨rfl, hTq5059, hFq5059, hq5059⟩ := hq5059
  have hF5061 := hF5058.tr hFq5059 (fun _ _ e => e)
  refine y_iconst 186 c196_185 rfl ?_
  have tb5062 := hTq5059.atp 169 6 0 200 rfl
  exact y_mRI c196_186 (y_fit1 (by omega)) hTq5059 hF5061 (by omega)
set_option maxRecDepth 100000 in
theorem t197a_256 {L : Nat} {xs : Nat → Int32} {d nn : Nat} {m : yM} {f e x b : Int} (hT : Ty gT m) (hp : m 169 4 = 0) (hS : PS 256 m) (hb : b ≤ m 169 6) (he : 0 ≤ e ∧ e ≤ m 256 16) (hx : 0 ≤ x ∧ x ≤ 3) (hB : BR256 L xs (d + 2) (b + 1)) : ∀ (k : Nat) (p : Int) (i : Int) (mi : yM), 40 - i = k → 0 ≤ p ∧ p ≤ 40 → 0 ≤ i ∧ i ≤ 40 → Ty gT mi → Fr wMx m mi → m 169 6 ≤ mi 169 6 → YW (gZ L xs) 197 (d + 5) 6 [some (.ref 169), some (yI f), some (yI e), some (yI x), some (yI p), some (yI i)] [] mi nn (qTI nn m (fun r m' => (r = 0 ∨ r = 1) ∧ m 169 6 ≤ m' 169 6)) := by
  intro k
  induction k using Nat.strongRecOn with
  | ind k ih =>
    intro p i mi hk hpp hi hTi hFi h6
    have tb16 := hT.atp 256 16 0 40 rfl
    have tb10 := hT.atp 256 10 0 10 rfl
    have tb6 := hT.atp 169 6 0 200 rfl
    refine y_iload 8 c197_6 rfl rfl ?_
    refine y_iconst 10 c197_8 rfl ?_
    refine y_icmp 52 13 c197_10 rfl rfl (yc_ge (by omega) (by omega)) (fun hb5063 => ?_) (fun hb5063 => ?_)
    · refine y_iconst 53 c197_52 rfl ?_
      have tb5064 := hTi.atp 169 6 0 200 rfl
      exact y_mRI c197_53 (y_fit1 (by omega)) hTi hFi (by omega)
    · refine y_iload 15 c197_13 rfl rfl ?_
      refine y_iload 16 c197_15 rfl rfl ?_
      refine y_icmp 52 19 c197_16 rfl rfl (yc_ge (by omega) (by omega)) (fun hb5065 => ?_) (fun hb5065 => ?_)
      · refine y_iconst 53 c197_52 rfl ?_
        have tb5066 := hTi.atp 169 6 0 200 rfl
        exact y_mRI c197_53 (y_fit1 (by omega)) hTi hFi (by omega)
      · refine y_aload 20 c197_19 rfl rfl rfl ?_
        refine y_iload 22 c197_20 rfl rfl ?_
        refine y_iload 23 c197_22 rfl rfl ?_
        have es5068 : mi 169 4 = m 169 4 := (hFi 169 4 rfl)
        have tb5069 := hT.atp 169 4 ((-1)) 1 rfl
        have tb5070 := hTi.atp 169 6 0 200 rfl
        have es5071 : mi 256 16 = m 256 16 := (hFi 256 16 rfl)
        have tb5072 := hT.atp 256 16 0 40 rfl
        have es5073 : mi 256 10 = m 256 10 := (hFi 256 10 rfl)
        have tb5074 := hT.atp 256 10 0 10 rfl
        refine y_mI 26 [.ref 169, yI p, yI x] [] c197_23 rfl rfl rfl rfl rfl (ycanO km196 ko169) kg197 qOut.I hFi (t196_256 (b := b) hTi (by omega) (hS.fr (by omega) (by omega) (fun k q _ => hFi _ _ (wMx_h (by omega)))) (by omega) (by omega) (by omega) hB) (fun rq5067 mq5067 hTq5067 hFq5067 hq5067 => ?_)
        have hF5075 := hFi.tr' hFq5067
        refine y_if 31 29 c197_26 rfl rfl (yz_eq (by omega)) (fun hb5076 => ?_) (fun hb5076 => ?_)
        · refine y_aload 32 c197_31 rfl rfl rfl ?_
          refine y_getS 35 (B := 256) c197_32 rfl kf169_4 (by rw [show mq5067 169 4 = 0 from by have e : mq5067 169 4 = m 169 4 := ((hFq5067 169 4 rfl).trans (hFi 169 4 rfl)); omega]; rfl) ?_
          refine y_getR 38 c197_35 rfl kf256_6 ?_
          refine y_iload 40 c197_38 rfl rfl ?_
          refine y_aaload 41 c197_40 rfl kr263 (by omega) ?_
          refine y_getX 44 (m (276 + p.toNat) 12) c197_41 rfl (ff276_12 (by omega)) ((hFq5067 (276 + p.toNat) 12 (wMx_h (by omega))).trans (hFi (276 + p.toNat) 12 (wMx_h (by omega)))) ?_
          have tb5077 := hT.atp (276 + p.toNat) 12 0 40 (ft276_12 (by omega))
          refine y_istore 46 c197_44 rfl rfl ?_
          refine y_iinc 49 c197_46 rfl rfl rfl ?_
          refine y_goto 6 c197_49 rfl ?_
          exact ih (40 - (i + 1) : Int).toNat (by omega) (m (276 + p.toNat) 12) (i + 1)  _ (by omega) (by omega) (by omega) hTq5067 hF5075 (by have e : mq5067 169 6 = mq5067 169 6 := rfl; omega)
        · refine y_iconst 30 c197_29 rfl ?_
          have tb5078 := hTq5067.atp 169 6 0 200 rfl
          exact y_mRI c197_30 (y_fit1 (by omega)) hTq5067 hF5075 (by omega)
set_option maxRecDepth 100000 in
theorem t197_256 {L : Nat} {xs : Nat → Int32} {d nn : Nat} {m : yM} {f e x b : Int} (hT : Ty gT m) (hp : m 169 4 = 0) (hS : PS 256 m) (hb : b ≤ m 169 6) (he : 0 ≤ e ∧ e ≤ m 256 16) (hx : 0 ≤ x ∧ x ≤ 3) (hB : BR256 L xs (d + 2) (b + 1)) (hf : 0 ≤ f ∧ f ≤ 40) : YC (gZ L xs) (d + 5) 197 [.ref 169, yI f, yI e, yI x] m nn (qTI nn m (fun r m' => (r = 0 ∨ r = 1) ∧ m 169 6 ≤ m' 169 6)) := by
  have tb16 := hT.atp 256 16 0 40 rfl
  have tb10 := hT.atp 256 10 0 10 rfl
  have tb6 := hT.atp 169 6 0 200 rfl
  refine YC.mkB [some (.ref 169), some (yI f), some (yI e), some (yI x), none, none] kn197 rfl rfl ?_
  have hF : Fr wMx m m := Fr.rf
  refine y_iload 1 c197_0 rfl rfl ?_
  refine y_istore 3 c197_1 rfl rfl ?_
  refine y_iconst 4 c197_3 rfl ?_
  refine y_istore 6 c197_4 rfl rfl ?_
  exact t197a_256 hT hp hS hb he hx hB 40 f 0 m (by omega) hf (by omega) hT Fr.rf (by omega)
theorem tBR_256 {L : Nat} {xs : Nat → Int32} {d : Nat} : ∀ (n : Nat) (b : Int), 201 - b = n → BR256 L xs (3 * n + d + 2) b := by
  intro n
  induction n with
  | zero => intro b hb nn m f e x hT hp hS h6 hf he hx; exfalso; have := hT.atp 169 6 0 200 rfl; omega
  | succ n ih =>
    intro b hb nn m f e x hT hp hS h6 hf he hx
    have h1 : BR256 L xs (3 * n + d + 2) (b + 1) := ih (b + 1) (by omega)
    rw [show 3 * (n + 1) + d + 2 = 3 * n + d + 5 by omega]
    exact t197_256 hT hp hS h6 he hx h1 hf
