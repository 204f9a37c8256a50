/-! CONTRACTS: the machine. Printed by wip/whole/gen93.py -/
set_option maxRecDepth 100000 in
theorem t191_256 {L : Nat} {xs : Nat → Int32} {d nn : Nat} {m : yM} {q : Int} (hT : Ty gT m) (hp : m 169 4 = 0) (hq : -1 ≤ q ∧ q ≤ 29) : YC (gZ L xs) d 191 [.ref 169, yI q] m nn (qTI nn m (fun r m' => (0 ≤ r ∧ r ≤ 5 ∧ q ≠ -1) ∧ m' = m)) := by
  refine YC.mkB [some (.ref 169), some (yI q)] kn191 rfl rfl ?_
  have hF : Fr wMx m m := Fr.rf
  refine y_iload 1 c191_0 rfl rfl ?_
  refine y_iconst 2 c191_1 rfl ?_
  refine y_icmp 13 5 c191_2 rfl rfl (yc_ne (by omega) (by omega)) (fun hb4817 => ?_) (fun hb4817 => ?_)
  · refine y_aload 14 c191_13 rfl rfl rfl ?_
    refine y_getS 17 (B := 256) c191_14 rfl kf169_4 (by first | rfl | (rw [show m 169 4 = 0 from by have e : m 169 4 = m 169 4 := rfl; omega]; rfl)) ?_
    refine y_getR 20 c191_17 rfl kf256_7 ?_
    refine y_aload 21 c191_20 rfl rfl rfl ?_
    refine y_getR 24 c191_21 rfl kf169_1 ?_
    refine y_iload 25 c191_24 rfl rfl ?_
    refine y_iaT 26 0 11 c191_25 rfl ka219 (by omega) hT rfl (fun v4818 hv4818 gv4818 => ?_)
    refine y_iaT 27 0 5 c191_26 rfl ka264 (by omega) hT rfl (fun v4819 hv4819 gv4819 => ?_)
    exact y_mRI c191_27 (y_fit0 _) hT hF (⟨by omega, rfl⟩)
  · exact y_mThr c191_5 rfl hT hF (by decide) qOut.I
set_option maxRecDepth 100000 in
theorem t192_256 {L : Nat} {xs : Nat → Int32} {d nn : Nat} {m : yM} {q f : Int} (hT : Ty gT m) (hp : m 169 4 = 0) (hq : -1 ≤ q ∧ q ≤ 29) (hf : -1 ≤ f ∧ f ≤ 11) : YC (gZ L xs) (d + 1) 192 [.ref 169, yI q, yI f] m nn (qTI nn m (fun r m' => (r = q ∧ q ≠ -1 ∧ f ≠ -1) ∧ m' = m)) := by
  refine YC.mkB [some (.ref 169), some (yI q), some (yI f)] kn192 rfl rfl ?_
  have hF : Fr wMx m m := Fr.rf
  refine y_aload 1 c192_0 rfl rfl rfl ?_
  refine y_getS 4 (B := 256) c192_1 rfl kf169_4 (by first | rfl | (rw [show m 169 4 = 0 from by have e : m 169 4 = m 169 4 := rfl; omega]; rfl)) ?_
  refine y_aload 5 c192_4 rfl rfl rfl ?_
  refine y_iload 6 c192_5 rfl rfl ?_
  have tb4821 := hT.atp 169 4 ((-1)) 1 rfl
  have tb4822 := hT.atp 169 6 0 200 rfl
  refine y_mI 9 [.ref 169, yI q] [.ref 256] c192_6 rfl rfl rfl rfl rfl (ycanO km191 ko169) kg192 qOut.I hF (t191_256 hT (by omega) (by omega)) (fun rq4820 mq4820 hTq4820 hFq4820 hq4820 => ?_)
  obtain ⟨hq4820, hmq4820⟩ := hq4820
  obtain rfl := hmq4820.symm
  refine y_iload 10 c192_9 rfl rfl ?_
  refine y_callP 13 [.ref 256, yI rq4820, yI f] [] c192_10 rfl rfl rfl rfl rfl (ycanO km47 ko256) (t47_256 hT (by omega) (by omega)) (fun r4823 hr4823 => ?_)
  refine y_if 24 16 c192_13 rfl rfl (yz_ne (by omega)) (fun hb4824 => ?_) (fun hb4824 => ?_)
  · refine y_iload 25 c192_24 rfl rfl ?_
    exact y_mRI c192_25 (y_fit0 _) hT hF (⟨by omega, rfl⟩)
  · exact y_mThr c192_16 rfl hT hF (by decide) qOut.I
set_option maxRecDepth 100000 in
theorem t194_256 {L : Nat} {xs : Nat → Int32} {d nn : Nat} {m : yM} {t q : Int} (hT : Ty gT m) (hp : m 169 4 = 0) (ht : -1 ≤ t ∧ t ≤ 5) (hq : -1 ≤ q ∧ q ≤ 29) : YC (gZ L xs) (d + 1) 194 [.ref 169, yI t, yI q] m nn (qTI nn m (fun r m' => (r = q) ∧ m' = m)) := by
  refine YC.mkB [some (.ref 169), some (yI t), some (yI q)] kn194 rfl rfl ?_
  have hF : Fr wMx m m := Fr.rf
  refine y_iload 1 c194_0 rfl rfl ?_
  refine y_iconst 2 c194_1 rfl ?_
  refine y_icmp 29 5 c194_2 rfl rfl (yc_eq (by omega) (by omega)) (fun hb4825 => ?_) (fun hb4825 => ?_)
  · refine y_iload 30 c194_29 rfl rfl ?_
    exact y_mRI c194_30 (y_fit0 _) hT hF (⟨by omega, rfl⟩)
  · refine y_aload 6 c194_5 rfl rfl rfl ?_
    refine y_getS 9 (B := 256) c194_6 rfl kf169_4 (by first | rfl | (rw [show m 169 4 = 0 from by have e : m 169 4 = m 169 4 := rfl; omega]; rfl)) ?_
    refine y_aload 10 c194_9 rfl rfl rfl ?_
    refine y_iload 11 c194_10 rfl rfl ?_
    have tb4827 := hT.atp 169 4 ((-1)) 1 rfl
    have tb4828 := hT.atp 169 6 0 200 rfl
    refine y_mI 14 [.ref 169, yI q] [.ref 256] c194_11 rfl rfl rfl rfl rfl (ycanO km191 ko169) kg194 qOut.I hF (t191_256 hT (by omega) (by omega)) (fun rq4826 mq4826 hTq4826 hFq4826 hq4826 => ?_)
    obtain ⟨hq4826, hmq4826⟩ := hq4826
    obtain rfl := hmq4826.symm
    refine y_iload 15 c194_14 rfl rfl ?_
    refine y_callP 18 [.ref 256, yI rq4826, yI t] [] c194_15 rfl rfl rfl rfl rfl (ycanO km81 ko256) (t81_256 hT (by omega) (by omega)) (fun r4829 hr4829 => ?_)
    refine y_if 29 21 c194_18 rfl rfl (yz_ne (by omega)) (fun hb4830 => ?_) (fun hb4830 => ?_)
    · refine y_iload 30 c194_29 rfl rfl ?_
      exact y_mRI c194_30 (y_fit0 _) hT hF (⟨by omega, rfl⟩)
    · exact y_mThr c194_21 rfl hT hF (by decide) qOut.I
set_option maxRecDepth 100000 in
theorem t195_256 {L : Nat} {xs : Nat → Int32} {d nn : Nat} {m : yM} {k x : Int} (hT : Ty gT m) (hp : m 169 4 = 0) (hk : 0 ≤ k ∧ k ≤ 39) (hx : 0 ≤ x ∧ x ≤ 3) (h5 : m (276 + k.toNat) 0 = 5 → 0 ≤ m (276 + k.toNat) 6) (h3 : (m (276 + k.toNat) 0 = 7 ∨ m (276 + k.toNat) 0 = 8 ∨ m (276 + k.toNat) 0 = 9) → 0 ≤ m (276 + k.toNat) 3) (h9 : m (276 + k.toNat) 0 = 9 → m (276 + k.toNat) 6 ≤ 7) : YC (gZ L xs) (d + 2) 195 [.ref 169, .ref (276 + k.toNat), .ref (252 + x.toNat)] m nn (qTI nn m (fun r m' => -1 ≤ r ∧ r ≤ 29 ∧ m' 169 6 = m 169 6)) := by
  refine YC.mkB [some (.ref 169), some (.ref (276 + k.toNat)), some (.ref (252 + x.toNat))] kn195 rfl rfl ?_
  have hF : Fr wMx m m := Fr.rf
  refine y_aload 1 c195_0 rfl rfl rfl ?_
  refine y_getX 4 (m (276 + k.toNat) 0) c195_1 rfl (ff276_0 (by omega)) rfl ?_
  have tb4831 := hT.atp (276 + k.toNat) 0 0 9 (ft276_0 (by omega))
  by_cases hk4832 : m (276 + k.toNat) 0 = 5
  · refine y_top 5 hk4832 ?_
    refine y_tsw 40 c195_4 (by decide) (by decide) rfl rfl ?_
    refine y_aload 41 c195_40 rfl rfl rfl ?_
    refine y_aload 42 c195_41 rfl rfl rfl ?_
    refine y_getX 45 (m (276 + k.toNat) 6) c195_42 rfl (ff276_6 (by omega)) rfl ?_
    have tb4833 := hT.atp (276 + k.toNat) 6 ((-1)) 11 (ft276_6 (by omega))
    have tb4835 := hT.atp 169 6 0 200 rfl
    refine y_mI 48 [.ref 169, yI (m (276 + k.toNat) 6)] [] c195_45 rfl rfl rfl rfl rfl (ycanO km186 ko169) kg195 qOut.I hF (t186 hT (by omega)) (fun rq4834 mq4834 hTq4834 hFq4834 hq4834 => ?_)
    have hF4836 := hF.tr' hFq4834
    have tb4837 := hTq4834.atp 169 6 0 200 rfl
    exact y_mRI c195_48 (y_fit0 _) hTq4834 hF4836 (by omega)
  by_cases hk4838 : m (276 + k.toNat) 0 = 6
  · refine y_top 6 hk4838 ?_
    refine y_tsw 96 c195_4 (by decide) (by decide) rfl rfl ?_
    refine y_iconst 97 c195_96 rfl ?_
    have tb4839 := hT.atp 169 6 0 200 rfl
    exact y_mRI c195_97 (y_fit0 _) hT hF (by omega)
  by_cases hk4840 : m (276 + k.toNat) 0 = 7
  · refine y_top 7 hk4840 ?_
    refine y_tsw 49 c195_4 (by decide) (by decide) rfl rfl ?_
    refine y_aload 50 c195_49 rfl rfl rfl ?_
    refine y_aload 51 c195_50 rfl rfl rfl ?_
    refine y_getX 54 (m (276 + k.toNat) 7) c195_51 rfl (ff276_7 (by omega)) rfl ?_
    have tb4841 := hT.atp (276 + k.toNat) 7 ((-1)) 5 (ft276_7 (by omega))
    refine y_aload 55 c195_54 rfl rfl rfl ?_
    refine y_aload 56 c195_55 rfl rfl rfl ?_
    refine y_getX 59 (m (276 + k.toNat) 3) c195_56 rfl (ff276_3 (by omega)) rfl ?_
    have tb4842 := hT.atp (276 + k.toNat) 3 ((-1)) 47 (ft276_3 (by omega))
    refine y_iaT 60 ((-1)) 29 c195_59 rfl (fa252 (by omega)) (by omega) hT (fz252 (by omega)) (fun v4843 hv4843 gv4843 => ?_)
    have tb4845 := hT.atp 169 4 ((-1)) 1 rfl
    have tb4846 := hT.atp 169 6 0 200 rfl
    refine y_mI 63 [.ref 169, yI (m (276 + k.toNat) 7), yI v4843] [] c195_60 rfl rfl rfl rfl rfl (ycanO km194 ko169) kg195 qOut.I hF (t194_256 hT (by omega) (by omega) (by omega)) (fun rq4844 mq4844 hTq4844 hFq4844 hq4844 => ?_)
    obtain ⟨hq4844, hmq4844⟩ := hq4844
    obtain rfl := hmq4844.symm
    exact y_mRI c195_63 (y_fit0 _) hT hF (by omega)
  by_cases hk4847 : m (276 + k.toNat) 0 = 8
  · refine y_top 8 hk4847 ?_
    refine y_tsw 64 c195_4 (by decide) (by decide) rfl rfl ?_
    refine y_aload 65 c195_64 rfl rfl rfl ?_
    refine y_aload 66 c195_65 rfl rfl rfl ?_
    refine y_getX 69 (m (276 + k.toNat) 3) c195_66 rfl (ff276_3 (by omega)) rfl ?_
    have tb4848 := hT.atp (276 + k.toNat) 3 ((-1)) 47 (ft276_3 (by omega))
    refine y_iaT 70 ((-1)) 29 c195_69 rfl (fa252 (by omega)) (by omega) hT (fz252 (by omega)) (fun v4849 hv4849 gv4849 => ?_)
    have tb4850 := hT.atp 169 6 0 200 rfl
    exact y_mRI c195_70 (y_fit0 _) hT hF (by omega)
  by_cases hk4851 : m (276 + k.toNat) 0 = 9
  · refine y_top 9 hk4851 ?_
    refine y_tsw 71 c195_4 (by decide) (by decide) rfl rfl ?_
    refine y_aload 72 c195_71 rfl rfl rfl ?_
    refine y_getR 75 c195_72 rfl kf169_2 ?_
    refine y_aload 76 c195_75 rfl rfl rfl ?_
    refine y_aload 77 c195_76 rfl rfl rfl ?_
    refine y_aload 78 c195_77 rfl rfl rfl ?_
    refine y_getX 81 (m (276 + k.toNat) 3) c195_78 rfl (ff276_3 (by omega)) rfl ?_
    have tb4852 := hT.atp (276 + k.toNat) 3 ((-1)) 47 (ft276_3 (by omega))
    refine y_iaT 82 ((-1)) 29 c195_81 rfl (fa252 (by omega)) (by omega) hT (fz252 (by omega)) (fun v4853 hv4853 gv4853 => ?_)
    refine y_aload 83 c195_82 rfl rfl rfl ?_
    refine y_getX 86 (m (276 + k.toNat) 6) c195_83 rfl (ff276_6 (by omega)) rfl ?_
    have tb4854 := hT.atp (276 + k.toNat) 6 ((-1)) 11 (ft276_6 (by omega))
    have tb4856 := hT.atp 169 4 ((-1)) 1 rfl
    have tb4857 := hT.atp 169 6 0 200 rfl
    refine y_mI 89 [.ref 169, yI v4853, yI (m (276 + k.toNat) 6)] [.ref 220] c195_86 rfl rfl rfl rfl rfl (ycanO km192 ko169) kg195 qOut.I hF (t192_256 hT (by omega) (by omega) (by omega)) (fun rq4855 mq4855 hTq4855 hFq4855 hq4855 => ?_)
    obtain ⟨hq4855, hmq4855⟩ := hq4855
    obtain rfl := hmq4855.symm
    refine y_aaload 90 c195_89 rfl kr220 (by omega) ?_
    refine y_aload 91 c195_90 rfl rfl rfl ?_
    refine y_getX 94 (m (276 + k.toNat) 6) c195_91 rfl (ff276_6 (by omega)) rfl ?_
    refine y_iaT 95 ((-1)) 29 c195_94 rfl (fa221 (by omega)) (by omega) hT (fz221 (by omega)) (fun v4858 hv4858 gv4858 => ?_)
    exact y_mRI c195_95 (y_fit0 _) hT hF (by omega)
  refine y_tswd 96 c195_4 (by omega) (by omega) rfl ?_
  refine y_iconst 97 c195_96 rfl ?_
  have tb4859 := hT.atp 169 6 0 200 rfl
  exact y_mRI c195_97 (y_fit0 _) hT hF (by omega)
/-- what a body's run is, once b statements have begun -/
def BR256 (L : Nat) (xs : Nat → Int32) (D : Nat) (b : Int) : Prop := ∀ (nn : Nat) (m : yM) (f e x : Int) (dd : Nat), D ≤ dd → Ty gT m → m 169 4 = 0 → PS 256 m → b ≤ m 169 6 → 0 ≤ f ∧ f ≤ 40 → 0 ≤ e ∧ e ≤ m 256 16 → 0 ≤ x ∧ x ≤ 3 → YC (gZ L xs) dd 197 [.ref 169, yI f, yI e, yI x] m nn (qTI nn m (fun r m' => (r = 0 ∨ r = 1) ∧ m 169 6 ≤ m' 169 6))
set_option maxRecDepth 100000 in
theorem t190a_256 {L : Nat} {xs : Nat → Int32} {d nn : Nat} {m : yM} {k x : Int} (hT : Ty gT m) (hp : m 169 4 = 0) {b : Int} (hS : PS 256 m) (hkc : 0 ≤ k ∧ k < m 256 16) (hx : 0 ≤ x ∧ x ≤ 3) (hb : b ≤ m 169 6) (hB : BR256 L xs (d + 2) b) (h3 : 0 ≤ m (276 + k.toNat) 3) (h11 : m (276 + k.toNat) 11 ≤ m 256 16) : ∀ (km : Nat) (i : Int) (mi : yM), 201 - i = km → 0 ≤ i ∧ i ≤ 201 → Ty gT mi → Fr wMx m mi → m 169 6 ≤ mi 169 6 → YW (gZ L xs) 190 (d + 3) 13 [some (.ref 169), some (yI k), some (yI x), some (.ref (276 + k.toNat)), some (yI i)] [] mi nn (qTI nn m (fun r m' => (r = 0 ∨ r = 1) ∧ m 169 6 ≤ m' 169 6)) := by
  intro km
  induction km using Nat.strongRecOn with
  | ind km ih =>
    intro i mi hk hi hTi hFi h6
    have tb16 := hT.atp 256 16 0 40 rfl
    have tb10 := hT.atp 256 10 0 10 rfl
    have tb6 := hT.atp 169 6 0 200 rfl
    have hk40 : k ≤ 39 := by omega
    have hen2 : m (276 + k.toNat) 11 ≤ 40 := (hT.atp (276 + k.toNat) 11 0 40 (ft276_11 (by omega))).2
    refine y_iload 15 c190_13 rfl rfl ?_
    refine y_iconst 18 c190_15 rfl ?_
    refine y_icmp 63 21 c190_18 rfl rfl (yc_gt (by omega) (by omega)) (fun hb4860 => ?_) (fun hb4860 => ?_)
    · refine y_iconst 64 c190_63 rfl ?_
      have tb4861 := hTi.atp 169 6 0 200 rfl
      exact y_mRI c190_64 (y_fit1 (by omega)) hTi hFi (by omega)
    · refine y_aload 22 c190_21 rfl rfl rfl ?_
      refine y_getR 25 c190_22 rfl kf169_3 ?_
      refine y_iload 26 c190_25 rfl rfl ?_
      refine y_aaload 27 c190_26 rfl kr251 (by omega) ?_
      refine y_aload 28 c190_27 rfl rfl rfl ?_
      refine y_getX 31 (m (276 + k.toNat) 3) c190_28 rfl (ff276_3 (by omega)) (hFi (276 + k.toNat) 3 (wMx_h (by omega))) ?_
      have tb4862 := hT.atp (276 + k.toNat) 3 ((-1)) 47 (ft276_3 (by omega))
      refine y_iaT 32 ((-1)) 29 c190_31 rfl (fa252 (by omega)) (by omega) hTi (fz252 (by omega)) (fun v4863 hv4863 gv4863 => ?_)
      refine y_iconst 33 c190_32 rfl ?_
      refine y_icmp 63 36 c190_33 rfl rfl (yc_eq (by omega) (by omega)) (fun hb4864 => ?_) (fun hb4864 => ?_)
      · refine y_iconst 64 c190_63 rfl ?_
        have tb4865 := hTi.atp 169 6 0 200 rfl
        exact y_mRI c190_64 (y_fit1 (by omega)) hTi hFi (by omega)
      · refine y_aload 37 c190_36 rfl rfl rfl ?_
        refine y_iload 38 c190_37 rfl rfl ?_
        refine y_iconst 39 c190_38 rfl ?_
        refine y_iadd 40 c190_39 rfl ?_
        refine y_aload 41 c190_40 rfl rfl rfl ?_
        refine y_getX 44 (m (276 + k.toNat) 11) c190_41 rfl (ff276_11 (by omega)) (hFi (276 + k.toNat) 11 (wMx_h (by omega))) ?_
        have tb4866 := hT.atp (276 + k.toNat) 11 0 40 (ft276_11 (by omega))
        refine y_iload 45 c190_44 rfl rfl ?_
        have es4868 : mi 169 4 = m 169 4 := (hFi 169 4 rfl)
        have tb4869 := hT.atp 169 4 ((-1)) 1 rfl
        have tb4870 := hTi.atp 169 6 0 200 rfl
        have es4871 : mi 256 16 = m 256 16 := (hFi 256 16 rfl)
        have tb4872 := hT.atp 256 16 0 40 rfl
        have es4873 : mi 256 10 = m 256 10 := (hFi 256 10 rfl)
        have tb4874 := hT.atp 256 10 0 10 rfl
        refine y_mI 48 [.ref 169, yI (k + 1), yI (m (276 + k.toNat) 11), yI x] [] c190_45 rfl rfl rfl rfl rfl (ycanO km197 ko169) kg190 qOut.I hFi (hB _ _ _ _ _ _ (by omega) hTi (by omega) (hS.fr (by omega) (by omega) (fun k q _ => hFi _ _ (wMx_h (by omega)))) (by omega) (by omega) (by omega) (by omega)) (fun rq4867 mq4867 hTq4867 hFq4867 hq4867 => ?_)
        have hF4875 := hFi.tr' hFq4867
        refine y_if 53 51 c190_48 rfl rfl (yz_eq (by omega)) (fun hb4876 => ?_) (fun hb4876 => ?_)
        · refine y_aload 54 c190_53 rfl rfl rfl ?_
          have tb4878 := hTq4867.atp 169 6 0 200 rfl
          refine y_mU 57 [.ref 169] [] c190_54 rfl rfl rfl rfl rfl (ycanO km189 ko169) kg190 qOut.I hF4875 (t189 hTq4867) (fun mq4877 hTq4877 hFq4877 hq4877 => ?_)
          have hF4879 := hF4875.tr' hFq4877
          refine y_iinc 60 c190_57 rfl rfl rfl ?_
          refine y_goto 13 c190_60 rfl ?_
          exact ih (201 - (i + 1) : Int).toNat (by omega) (i + 1)  _ (by omega) (by omega) hTq4877 hF4879 (by have e : mq4877 169 6 = mq4877 169 6 := rfl; omega)
        · refine y_iconst 52 c190_51 rfl ?_
          have tb4880 := hTq4867.atp 169 6 0 200 rfl
          exact y_mRI c190_52 (y_fit1 (by omega)) hTq4867 hF4875 (by omega)
set_option maxRecDepth 100000 in
theorem t190_256 {L : Nat} {xs : Nat → Int32} {d nn : Nat} {m : yM} {k x : Int} (hT : Ty gT m) (hp : m 169 4 = 0) {b : Int} (hS : PS 256 m) (hkc : 0 ≤ k ∧ k < m 256 16) (hx : 0 ≤ x ∧ x ≤ 3) (hb : b ≤ m 169 6) (hB : BR256 L xs (d + 2) b) (h3 : 0 ≤ m (276 + k.toNat) 3) (h11 : m (276 + k.toNat) 11 ≤ m 256 16) : YC (gZ L xs) (d + 3) 190 [.ref 169, yI k, yI x] m nn (qTI nn m (fun r m' => (r = 0 ∨ r = 1) ∧ m 169 6 ≤ m' 169 6)) := by
  have tb16 := hT.atp 256 16 0 40 rfl
  have tb10 := hT.atp 256 10 0 10 rfl
  have tb6 := hT.atp 169 6 0 200 rfl
  refine YC.mkB [some (.ref 169), some (yI k), some (yI x), none, none] kn190 rfl rfl ?_
  have hF : Fr wMx m m := Fr.rf
  refine y_aload 1 c190_0 rfl rfl rfl ?_
  refine y_getS 4 (B := 256) c190_1 rfl kf169_4 (by first | rfl | (rw [show m 169 4 = 0 from by have e : m 169 4 = m 169 4 := rfl; omega]; rfl)) ?_
  refine y_getR 7 c190_4 rfl kf256_6 ?_
  refine y_iload 8 c190_7 rfl rfl ?_
  refine y_aaload 9 c190_8 rfl kr263 (by omega) ?_
  refine y_astore 10 c190_9 rfl rfl rfl ?_
  refine y_iconst 11 c190_10 rfl ?_
  refine y_istore 13 c190_11 rfl rfl ?_
  exact t190a_256 hT hp hS hkc hx hb hB h3 h11 201 0 m (by omega) (by omega) hT Fr.rf (by omega)
set_option maxRecDepth 100000 in
theorem t193_256 {L : Nat} {xs : Nat → Int32} {d nn : Nat} {m : yM} {k x : Int} (hT : Ty gT m) (hp : m 169 4 = 0) {b : Int} (hS : PS 256 m) (hkc : 0 ≤ k ∧ k < m 256 16) (hx : 0 ≤ x ∧ x ≤ 3) (hb : b ≤ m 169 6) (hB : BR256 L xs (d + 2) b) (h4 : m (276 + k.toNat) 0 = 4) : YC (gZ L xs) (d + 3) 193 [.ref 169, .ref (276 + k.toNat), yI x] m nn (qTU nn m (fun m' => m 169 6 ≤ m' 169 6)) := by
  have tb16 := hT.atp 256 16 0 40 rfl
  have tb10 := hT.atp 256 10 0 10 rfl
  have tb6 := hT.atp 169 6 0 200 rfl
  have hsv : SV 276 m k.toNat := (hS.1.1 k.toNat (by omega) (by omega)).1
  unfold SV at hsv
  obtain ⟨s1, s2, s3, s4, s5⟩ := hsv
  have hen : m (276 + k.toNat) 12 ≤ m 256 16 ∧ ((m (276 + k.toNat) 0 = 0 ∨ m (276 + k.toNat) 0 = 1) → m (276 + k.toNat) 11 ≤ m 256 16) := hS.2.1 k.toNat (by omega) (by omega)
  have hnl : (m (276 + k.toNat) 0 = 3 ∨ m (276 + k.toNat) 0 = 9) → m (276 + k.toNat) 6 ≤ 7 := hS.2.2.1 k.toNat (by omega) (by omega)
  have hM : MP 266 m := hS.2.2.2.1
  refine YC.mkB [some (.ref 169), some (.ref (276 + k.toNat)), some (yI x), none, none, none, none, none] kn193 rfl rfl ?_
  have hF : Fr wMx m m := Fr.rf
  refine y_aload 1 c193_0 rfl rfl rfl ?_
  refine y_getR 4 c193_1 rfl kf169_3 ?_
  refine y_iload 5 c193_4 rfl rfl ?_
  refine y_aaload 6 c193_5 rfl kr251 (by omega) ?_
  refine y_astore 7 c193_6 rfl rfl rfl ?_
  refine y_aload 8 c193_7 rfl rfl rfl ?_
  refine y_aload 9 c193_8 rfl rfl rfl ?_
  refine y_getX 12 (m (276 + k.toNat) 3) c193_9 rfl (ff276_3 (by omega)) rfl ?_
  have tb4881 := hT.atp (276 + k.toNat) 3 ((-1)) 47 (ft276_3 (by omega))
  refine y_iaT 13 ((-1)) 29 c193_12 rfl (fa252 (by omega)) (by omega) hT (fz252 (by omega)) (fun v4882 hv4882 gv4882 => ?_)
  refine y_istore 15 c193_13 rfl rfl ?_
  refine y_aload 16 c193_15 rfl rfl rfl ?_
  refine y_getS 19 (B := 256) c193_16 rfl kf169_4 (by first | rfl | (rw [show m 169 4 = 0 from by have e : m 169 4 = m 169 4 := rfl; omega]; rfl)) ?_
  refine y_aload 20 c193_19 rfl rfl rfl ?_
  refine y_iload 22 c193_20 rfl rfl ?_
  have tb4884 := hT.atp 169 4 ((-1)) 1 rfl
  have tb4885 := hT.atp 169 6 0 200 rfl
  refine y_mI 25 [.ref 169, yI v4882] [.ref 256] c193_22 rfl rfl rfl rfl rfl (ycanO km191 ko169) kg193 qOut.U hF (t191_256 hT (by omega) (by omega)) (fun rq4883 mq4883 hTq4883 hFq4883 hq4883 => ?_)
  obtain ⟨hq4883, hmq4883⟩ := hq4883
  obtain rfl := hmq4883.symm
  refine y_aload 26 c193_25 rfl rfl rfl ?_
  refine y_getX 29 (m (276 + k.toNat) 4) c193_26 rfl (ff276_4 (by omega)) rfl ?_
  have tb4886 := hT.atp (276 + k.toNat) 4 ((-2147483648)) 2147483647 (ft276_4 (by omega))
  refine y_aload 30 c193_29 rfl rfl rfl ?_
  refine y_getX 33 (m (276 + k.toNat) 8) c193_30 rfl (ff276_8 (by omega)) rfl ?_
  have tb4887 := hT.atp (276 + k.toNat) 8 0 2 (ft276_8 (by omega))
  have tb4889 := hT.atp 256 10 0 10 rfl
  refine y_callP 36 [.ref 256, yI rq4883, yI (m (276 + k.toNat) 4), yI (m (276 + k.toNat) 8)] [] c193_33 rfl rfl rfl rfl rfl (ycanO km72 ko256) (t72_256 hT (by omega) (by omega) (by omega)) (fun r4888 hr4888 => ?_)
  refine y_istore 38 c193_36 rfl rfl ?_
  refine y_iload 40 c193_38 rfl rfl ?_
  refine y_iconst 41 c193_40 rfl ?_
  refine y_icmp 52 44 c193_41 rfl rfl (yc_ne (by omega) (by omega)) (fun hb4890 => ?_) (fun hb4890 => ?_)
  · have hes : m (266 + r4888.toNat) 5 ≤ m 256 16 := hS.2.2.2.2.1 r4888.toNat (by omega)
    have hm3 := hr4888.2.2 (by omega)
    refine y_aload 53 c193_52 rfl rfl rfl ?_
    refine y_getS 56 (B := 256) c193_53 rfl kf169_4 (by first | rfl | (rw [show m 169 4 = 0 from by have e : m 169 4 = m 169 4 := rfl; omega]; rfl)) ?_
    refine y_getR 59 c193_56 rfl kf256_5 ?_
    refine y_iload 61 c193_59 rfl rfl ?_
    refine y_aaload 62 c193_61 rfl kr262 (by omega) ?_
    refine y_astore 64 c193_62 rfl rfl rfl ?_
    refine y_aload 65 c193_64 rfl rfl rfl ?_
    refine y_iload 66 c193_65 rfl rfl ?_
    refine y_iconst 67 c193_66 rfl ?_
    refine y_iadd 68 c193_67 rfl ?_
    refine y_mA 71 [.ref 169, yI (x + 1)] [] c193_68 rfl rfl rfl rfl rfl (ycanO km187 ko169) kg193 qOut.U hF (t187 hT (by omega)) (fun rq4891 mq4891 hTq4891 hFq4891 hq4891 => ?_)
    have hF4892 := hF.tr' hFq4891
    obtain ⟨rfl, hq4891⟩ := hq4891
    refine y_astore 73 c193_71 rfl rfl rfl ?_
    refine y_aload 74 c193_73 rfl rfl rfl ?_
    refine y_aload 76 c193_74 rfl rfl rfl ?_
    refine y_aload 78 c193_76 rfl rfl rfl ?_
    refine y_callP 81 [.ref (266 + r4888.toNat)] [.ref (252 + (x + 1).toNat), .ref 169] c193_78 rfl rfl rfl rfl rfl (ycanO km57 (fo266 (by omega))) (t57_256 hTq4891 (by omega)) (fun r4893 hr4893 => ?_)
    refine y_iload 83 c193_81 rfl rfl ?_
    have tb4895 := hTq4891.atp 169 6 0 200 rfl
    refine y_callUB 86 [.ref 169, .ref (252 + (x + 1).toNat), yI r4893, yI v4882] [] c193_83 rfl rfl rfl rfl rfl (ycanO km188 ko169) (t188 hTq4891 (by omega) (by omega) (by omega)) (fun mq4894 nq4894 hq4894 => ?_)
    obtain ⟨rfl, hTq4894, hFq4894, hq4894⟩ := hq4894
    have hF4896 := hF4892.tr hFq4894 (fun _ _ e => e)
    refine y_aload 87 c193_86 rfl rfl rfl ?_
    refine y_getX 90 (m (276 + k.toNat) 8) c193_87 rfl (ff276_8 (by omega)) ((hFq4894 (276 + k.toNat) 8 (wMx_h (by omega))).trans (hFq4891 (276 + k.toNat) 8 (wMx_h (by omega)))) ?_
    refine y_if 111 93 c193_90 rfl rfl (yz_le (by omega)) (fun hb4897 => ?_) (fun hb4897 => ?_)
    · refine y_aload 112 c193_111 rfl rfl rfl ?_
      refine y_getX 115 (m (276 + k.toNat) 8) c193_112 rfl (ff276_8 (by omega)) ((hFq4894 (276 + k.toNat) 8 (wMx_h (by omega))).trans (hFq4891 (276 + k.toNat) 8 (wMx_h (by omega)))) ?_
      refine y_iconst 116 c193_115 rfl ?_
      refine y_icmp 137 119 c193_116 rfl rfl (yc_le (by omega) (by omega)) (fun hb4898 => ?_) (fun hb4898 => ?_)
      · refine y_aload 138 c193_137 rfl rfl rfl ?_
        refine y_aload 140 c193_138 rfl rfl rfl ?_
        refine y_getX 143 (m (266 + r4888.toNat) 4) c193_140 rfl (ff266_4 (by omega)) ((hFq4894 (266 + r4888.toNat) 4 (wMx_h (by omega))).trans (hFq4891 (266 + r4888.toNat) 4 (wMx_h (by omega)))) ?_
        have tb4899 := hT.atp (266 + r4888.toNat) 4 0 40 (ft266_4 (by omega))
        refine y_aload 145 c193_143 rfl rfl rfl ?_
        refine y_getX 148 (m (266 + r4888.toNat) 5) c193_145 rfl (ff266_5 (by omega)) ((hFq4894 (266 + r4888.toNat) 5 (wMx_h (by omega))).trans (hFq4891 (266 + r4888.toNat) 5 (wMx_h (by omega)))) ?_
        have tb4900 := hT.atp (266 + r4888.toNat) 5 0 40 (ft266_5 (by omega))
        refine y_iload 149 c193_148 rfl rfl ?_
        refine y_iconst 150 c193_149 rfl ?_
        refine y_iadd 151 c193_150 rfl ?_
        have es4902 : mq4894 169 4 = m 169 4 := ((hFq4894 169 4 rfl).trans (hFq4891 169 4 rfl))
        have tb4903 := hTq4894.atp 169 6 0 200 rfl
        have es4904 : mq4894 256 16 = m 256 16 := ((hFq4894 256 16 rfl).trans (hFq4891 256 16 rfl))
        have tb4905 := hT.atp 256 16 0 40 rfl
        have es4906 : mq4894 256 10 = m 256 10 := ((hFq4894 256 10 rfl).trans (hFq4891 256 10 rfl))
        refine y_mI 154 [.ref 169, yI (m (266 + r4888.toNat) 4), yI (m (266 + r4888.toNat) 5), yI (x + 1)] [] c193_151 rfl rfl rfl rfl rfl (ycanO km197 ko169) kg193 qOut.U hF4896 (hB _ _ _ _ _ _ (by omega) hTq4894 (by omega) (hS.fr (by omega) (by omega) (fun k q _ => hF4896 _ _ (wMx_h (by omega)))) (by omega) (by omega) (by omega) (by omega)) (fun rq4901 mq4901 hTq4901 hFq4901 hq4901 => ?_)
        have hF4907 := hF4896.tr' hFq4901
        refine y_pop 155 c193_154 rfl rfl ?_
        refine y_aload 156 c193_155 rfl rfl rfl ?_
        refine y_getX 159 (m (276 + k.toNat) 2) c193_156 rfl (ff276_2 (by omega)) ((hFq4901 (276 + k.toNat) 2 (wMx_h (by omega))).trans ((hFq4894 (276 + k.toNat) 2 (wMx_h (by omega))).trans (hFq4891 (276 + k.toNat) 2 (wMx_h (by omega))))) ?_
        have tb4908 := hT.atp (276 + k.toNat) 2 ((-1)) 47 (ft276_2 (by omega))
        refine y_iconst 160 c193_159 rfl ?_
        refine y_icmp 180 163 c193_160 rfl rfl (yc_eq (by omega) (by omega)) (fun hb4909 => ?_) (fun hb4909 => ?_)
        · have tb4910 := hTq4901.atp 169 6 0 200 rfl
          exact y_mRU c193_180 hTq4901 hF4907 (by omega)
        · refine y_aload 164 c193_163 rfl rfl rfl ?_
          refine y_aload 165 c193_164 rfl rfl rfl ?_
          refine y_aload 166 c193_165 rfl rfl rfl ?_
          refine y_getX 169 (m (276 + k.toNat) 2) c193_166 rfl (ff276_2 (by omega)) ((hFq4901 (276 + k.toNat) 2 (wMx_h (by omega))).trans ((hFq4894 (276 + k.toNat) 2 (wMx_h (by omega))).trans (hFq4891 (276 + k.toNat) 2 (wMx_h (by omega))))) ?_
          refine y_aload 171 c193_169 rfl rfl rfl ?_
          refine y_aload 173 c193_171 rfl rfl rfl ?_
          refine y_getX 176 (m (266 + r4888.toNat) 2) c193_173 rfl (ff266_2 (by omega)) ((hFq4901 (266 + r4888.toNat) 2 (wMx_h (by omega))).trans ((hFq4894 (266 + r4888.toNat) 2 (wMx_h (by omega))).trans (hFq4891 (266 + r4888.toNat) 2 (wMx_h (by omega))))) ?_
          have tb4911 := hT.atp (266 + r4888.toNat) 2 0 46 (ft266_2 (by omega))
          refine y_iaT 177 ((-1)) 29 c193_176 rfl (fa252 (by omega)) (by omega) hTq4901 (fz252 (by omega)) (fun v4912 hv4912 gv4912 => ?_)
          have tb4914 := hTq4901.atp 169 6 0 200 rfl
          refine y_callUB 180 [.ref 169, .ref (252 + x.toNat), yI (m (276 + k.toNat) 2), yI v4912] [] c193_177 rfl rfl rfl rfl rfl (ycanO km188 ko169) (t188 hTq4901 (by omega) (by omega) (by omega)) (fun mq4913 nq4913 hq4913 => ?_)
          obtain ⟨rfl, hTq4913, hFq4913, hq4913⟩ := hq4913
          have hF4915 := hF4907.tr hFq4913 (fun _ _ e => e)
          have tb4916 := hTq4913.atp 169 6 0 200 rfl
          exact y_mRU c193_180 hTq4913 hF4915 (by omega)
      · exfalso; omega
    · refine y_aload 94 c193_93 rfl rfl rfl ?_
      refine y_aload 96 c193_94 rfl rfl rfl ?_
      refine y_aload 98 c193_96 rfl rfl rfl ?_
      refine y_iconst 99 c193_98 rfl ?_
      have es4918 : mq4894 (266 + r4888.toNat) 3 = m (266 + r4888.toNat) 3 := ((hFq4894 (266 + r4888.toNat) 3 (wMx_h (by omega))).trans (hFq4891 (266 + r4888.toNat) 3 (wMx_h (by omega))))
      have tb4919 := hT.atp (266 + r4888.toNat) 3 0 2 (ft266_3 (by omega))
      refine y_callP 102 [.ref (266 + r4888.toNat), yI 0] [.ref (252 + (x + 1).toNat), .ref 169] c193_99 rfl rfl rfl rfl rfl (ycanO km87 (fo266 (by omega))) (t87_256 hTq4894 (by omega) (by omega) (hM.fr (fun k hk => hF4896 _ _ (wMx_h (by omega))) (fun k hk => hF4896 _ _ (wMx_h (by omega))))) (fun r4917 hr4917 => ?_)
      refine y_aload 103 c193_102 rfl rfl rfl ?_
      refine y_aload 104 c193_103 rfl rfl rfl ?_
      refine y_getX 107 (m (276 + k.toNat) 9) c193_104 rfl (ff276_9 (by omega)) ((hFq4894 (276 + k.toNat) 9 (wMx_h (by omega))).trans (hFq4891 (276 + k.toNat) 9 (wMx_h (by omega)))) ?_
      have tb4920 := hT.atp (276 + k.toNat) 9 ((-1)) 47 (ft276_9 (by omega))
      refine y_iaT 108 ((-1)) 29 c193_107 rfl (fa252 (by omega)) (by omega) hTq4894 (fz252 (by omega)) (fun v4921 hv4921 gv4921 => ?_)
      have tb4923 := hTq4894.atp 169 6 0 200 rfl
      refine y_callUB 111 [.ref 169, .ref (252 + (x + 1).toNat), yI r4917, yI v4921] [] c193_108 rfl rfl rfl rfl rfl (ycanO km188 ko169) (t188 hTq4894 (by omega) (by omega) (by omega)) (fun mq4922 nq4922 hq4922 => ?_)
      obtain ⟨rfl, hTq4922, hFq4922, hq4922⟩ := hq4922
      have hF4924 := hF4896.tr hFq4922 (fun _ _ e => e)
      refine y_aload 112 c193_111 rfl rfl rfl ?_
      refine y_getX 115 (m (276 + k.toNat) 8) c193_112 rfl (ff276_8 (by omega)) ((hFq4922 (276 + k.toNat) 8 (wMx_h (by omega))).trans ((hFq4894 (276 + k.toNat) 8 (wMx_h (by omega))).trans (hFq4891 (276 + k.toNat) 8 (wMx_h (by omega))))) ?_
      refine y_iconst 116 c193_115 rfl ?_
      refine y_icmp 137 119 c193_116 rfl rfl (yc_le (by omega) (by omega)) (fun hb4925 => ?_) (fun hb4925 => ?_)
      · refine y_aload 138 c193_137 rfl rfl rfl ?_
        refine y_aload 140 c193_138 rfl rfl rfl ?_
        refine y_getX 143 (m (266 + r4888.toNat) 4) c193_140 rfl (ff266_4 (by omega)) ((hFq4922 (266 + r4888.toNat) 4 (wMx_h (by omega))).trans ((hFq4894 (266 + r4888.toNat) 4 (wMx_h (by omega))).trans (hFq4891 (266 + r4888.toNat) 4 (wMx_h (by omega))))) ?_
        have tb4926 := hT.atp (266 + r4888.toNat) 4 0 40 (ft266_4 (by omega))
        refine y_aload 145 c193_143 rfl rfl rfl ?_
        refine y_getX 148 (m (266 + r4888.toNat) 5) c193_145 rfl (ff266_5 (by omega)) ((hFq4922 (266 + r4888.toNat) 5 (wMx_h (by omega))).trans ((hFq4894 (266 + r4888.toNat) 5 (wMx_h (by omega))).trans (hFq4891 (266 + r4888.toNat) 5 (wMx_h (by omega))))) ?_
        have tb4927 := hT.atp (266 + r4888.toNat) 5 0 40 (ft266_5 (by omega))
        refine y_iload 149 c193_148 rfl rfl ?_
        refine y_iconst 150 c193_149 rfl ?_
        refine y_iadd 151 c193_150 rfl ?_
        have es4929 : mq4922 169 4 = m 169 4 := ((hFq4922 169 4 rfl).trans ((hFq4894 169 4 rfl).trans (hFq4891 169 4 rfl)))
        have tb4930 := hTq4922.atp 169 6 0 200 rfl
        have es4931 : mq4922 256 16 = m 256 16 := ((hFq4922 256 16 rfl).trans ((hFq4894 256 16 rfl).trans (hFq4891 256 16 rfl)))
        have tb4932 := hT.atp 256 16 0 40 rfl
        have es4933 : mq4922 256 10 = m 256 10 := ((hFq4922 256 10 rfl).trans ((hFq4894 256 10 rfl).trans (hFq4891 256 10 rfl)))
        refine y_mI 154 [.ref 169, yI (m (266 + r4888.toNat) 4), yI (m (266 + r4888.toNat) 5), yI (x + 1)] [] c193_151 rfl rfl rfl rfl rfl (ycanO km197 ko169) kg193 qOut.U hF4924 (hB _ _ _ _ _ _ (by omega) hTq4922 (by omega) (hS.fr (by omega) (by omega) (fun k q _ => hF4924 _ _ (wMx_h (by omega)))) (by omega) (by omega) (by omega) (by omega)) (fun rq4928 mq4928 hTq4928 hFq4928 hq4928 => ?_)
        have hF4934 := hF4924.tr' hFq4928
        refine y_pop 155 c193_154 rfl rfl ?_
        refine y_aload 156 c193_155 rfl rfl rfl ?_
        refine y_getX 159 (m (276 + k.toNat) 2) c193_156 rfl (ff276_2 (by omega)) ((hFq4928 (276 + k.toNat) 2 (wMx_h (by omega))).trans ((hFq4922 (276 + k.toNat) 2 (wMx_h (by omega))).trans ((hFq4894 (276 + k.toNat) 2 (wMx_h (by omega))).trans (hFq4891 (276 + k.toNat) 2 (wMx_h (by omega)))))) ?_
        have tb4935 := hT.atp (276 + k.toNat) 2 ((-1)) 47 (ft276_2 (by omega))
        refine y_iconst 160 c193_159 rfl ?_
        refine y_icmp 180 163 c193_160 rfl rfl (yc_eq (by omega) (by omega)) (fun hb4936 => ?_) (fun hb4936 => ?_)
        · have tb4937 := hTq4928.atp 169 6 0 200 rfl
          exact y_mRU c193_180 hTq4928 hF4934 (by omega)
        · refine y_aload 164 c193_163 rfl rfl rfl ?_
          refine y_aload 165 c193_164 rfl rfl rfl ?_
          refine y_aload 166 c193_165 rfl rfl rfl ?_
          refine y_getX 169 (m (276 + k.toNat) 2) c193_166 rfl (ff276_2 (by omega)) ((hFq4928 (276 + k.toNat) 2 (wMx_h (by omega))).trans ((hFq4922 (276 + k.toNat) 2 (wMx_h (by omega))).trans ((hFq4894 (276 + k.toNat) 2 (wMx_h (by omega))).trans (hFq4891 (276 + k.toNat) 2 (wMx_h (by omega)))))) ?_
          refine y_aload 171 c193_169 rfl rfl rfl ?_
          refine y_aload 173 c193_171 rfl rfl rfl ?_
          refine y_getX 176 (m (266 + r4888.toNat) 2) c193_173 rfl (ff266_2 (by omega)) ((hFq4928 (266 + r4888.toNat) 2 (wMx_h (by omega))).trans ((hFq4922 (266 + r4888.toNat) 2 (wMx_h (by omega))).trans ((hFq4894 (266 + r4888.toNat) 2 (wMx_h (by omega))).trans (hFq4891 (266 + r4888.toNat) 2 (wMx_h (by omega)))))) ?_
          have tb4938 := hT.atp (266 + r4888.toNat) 2 0 46 (ft266_2 (by omega))
          refine y_iaT 177 ((-1)) 29 c193_176 rfl (fa252 (by omega)) (by omega) hTq4928 (fz252 (by omega)) (fun v4939 hv4939 gv4939 => ?_)
          have tb4941 := hTq4928.atp 169 6 0 200 rfl
          refine y_callUB 180 [.ref 169, .ref (252 + x.toNat), yI (m (276 + k.toNat) 2), yI v4939] [] c193_177 rfl rfl rfl rfl rfl (ycanO km188 ko169) (t188 hTq4928 (by omega) (by omega) (by omega)) (fun mq4940 nq4940 hq4940 => ?_)
          obtain ⟨rfl, hTq4940, hFq4940, hq4940⟩ := hq4940
          have hF4942 := hF4934.tr hFq4940 (fun _ _ e => e)
          have tb4943 := hTq4940.atp 169 6 0 200 rfl
          exact y_mRU c193_180 hTq4940 hF4942 (by omega)
      · refine y_aload 120 c193_119 rfl rfl rfl ?_
        refine y_aload 122 c193_120 rfl rfl rfl ?_
        refine y_aload 124 c193_122 rfl rfl rfl ?_
        refine y_iconst 125 c193_124 rfl ?_
        have es4945 : mq4922 (266 + r4888.toNat) 3 = m (266 + r4888.toNat) 3 := ((hFq4922 (266 + r4888.toNat) 3 (wMx_h (by omega))).trans ((hFq4894 (266 + r4888.toNat) 3 (wMx_h (by omega))).trans (hFq4891 (266 + r4888.toNat) 3 (wMx_h (by omega)))))
        refine y_callP 128 [.ref (266 + r4888.toNat), yI 1] [.ref (252 + (x + 1).toNat), .ref 169] c193_125 rfl rfl rfl rfl rfl (ycanO km87 (fo266 (by omega))) (t87_256 hTq4922 (by omega) (by omega) (hM.fr (fun k hk => hF4924 _ _ (wMx_h (by omega))) (fun k hk => hF4924 _ _ (wMx_h (by omega))))) (fun r4944 hr4944 => ?_)
        refine y_aload 129 c193_128 rfl rfl rfl ?_
        refine y_aload 130 c193_129 rfl rfl rfl ?_
        refine y_getX 133 (m (276 + k.toNat) 10) c193_130 rfl (ff276_10 (by omega)) ((hFq4922 (276 + k.toNat) 10 (wMx_h (by omega))).trans ((hFq4894 (276 + k.toNat) 10 (wMx_h (by omega))).trans (hFq4891 (276 + k.toNat) 10 (wMx_h (by omega))))) ?_
        have tb4946 := hT.atp (276 + k.toNat) 10 ((-1)) 47 (ft276_10 (by omega))
        refine y_iaT 134 ((-1)) 29 c193_133 rfl (fa252 (by omega)) (by omega) hTq4922 (fz252 (by omega)) (fun v4947 hv4947 gv4947 => ?_)
        have tb4949 := hTq4922.atp 169 6 0 200 rfl
        refine y_callUB 137 [.ref 169, .ref (252 + (x + 1).toNat), yI r4944, yI v4947] [] c193_134 rfl rfl rfl rfl rfl (ycanO km188 ko169) (t188 hTq4922 (by omega) (by omega) (by omega)) (fun mq4948 nq4948 hq4948 => ?_)
        obtain ⟨rfl, hTq4948, hFq4948, hq4948⟩ := hq4948
        have hF4950 := hF4924.tr hFq4948 (fun _ _ e => e)
        refine y_aload 138 c193_137 rfl rfl rfl ?_
        refine y_aload 140 c193_138 rfl rfl rfl ?_
        refine y_getX 143 (m (266 + r4888.toNat) 4) c193_140 rfl (ff266_4 (by omega)) ((hFq4948 (266 + r4888.toNat) 4 (wMx_h (by omega))).trans ((hFq4922 (266 + r4888.toNat) 4 (wMx_h (by omega))).trans ((hFq4894 (266 + r4888.toNat) 4 (wMx_h (by omega))).trans (hFq4891 (266 + r4888.toNat) 4 (wMx_h (by omega)))))) ?_
        have tb4951 := hT.atp (266 + r4888.toNat) 4 0 40 (ft266_4 (by omega))
        refine y_aload 145 c193_143 rfl rfl rfl ?_
        refine y_getX 148 (m (266 + r4888.toNat) 5) c193_145 rfl (ff266_5 (by omega)) ((hFq4948 (266 + r4888.toNat) 5 (wMx_h (by omega))).trans ((hFq4922 (266 + r4888.toNat) 5 (wMx_h (by omega))).trans ((hFq4894 (266 + r4888.toNat) 5 (wMx_h (by omega))).trans (hFq4891 (266 + r4888.toNat) 5 (wMx_h (by omega)))))) ?_
        have tb4952 := hT.atp (266 + r4888.toNat) 5 0 40 (ft266_5 (by omega))
        refine y_iload 149 c193_148 rfl rfl ?_
        refine y_iconst 150 c193_149 rfl ?_
        refine y_iadd 151 c193_150 rfl ?_
        have es4954 : mq4948 169 4 = m 169 4 := ((hFq4948 169 4 rfl).trans ((hFq4922 169 4 rfl).trans ((hFq4894 169 4 rfl).trans (hFq4891 169 4 rfl))))
        have tb4955 := hTq4948.atp 169 6 0 200 rfl
        have es4956 : mq4948 256 16 = m 256 16 := ((hFq4948 256 16 rfl).trans ((hFq4922 256 16 rfl).trans ((hFq4894 256 16 rfl).trans (hFq4891 256 16 rfl))))
        have tb4957 := hT.atp 256 16 0 40 rfl
        have es4958 : mq4948 256 10 = m 256 10 := ((hFq4948 256 10 rfl).trans ((hFq4922 256 10 rfl).trans ((hFq4894 256 10 rfl).trans (hFq4891 256 10 rfl))))
        refine y_mI 154 [.ref 169, yI (m (266 + r4888.toNat) 4), yI (m (266 + r4888.toNat) 5), yI (x + 1)] [] c193_151 rfl rfl rfl rfl rfl (ycanO km197 ko169) kg193 qOut.U hF4950 (hB _ _ _ _ _ _ (by omega) hTq4948 (by omega) (hS.fr (by omega) (by omega) (fun k q _ => hF4950 _ _ (wMx_h (by omega)))) (by omega) (by omega) (by omega) (by omega)) (fun rq4953 mq4953 hTq4953 hFq4953 hq4953 => ?_)
        have hF4959 := hF4950.tr' hFq4953
        refine y_pop 155 c193_154 rfl rfl ?_
        refine y_aload 156 c193_155 rfl rfl rfl ?_
        refine y_getX 159 (m (276 + k.toNat) 2) c193_156 rfl (ff276_2 (by omega)) ((hFq4953 (276 + k.toNat) 2 (wMx_h (by omega))).trans ((hFq4948 (276 + k.toNat) 2 (wMx_h (by omega))).trans ((hFq4922 (276 + k.toNat) 2 (wMx_h (by omega))).trans ((hFq4894 (276 + k.toNat) 2 (wMx_h (by omega))).trans (hFq4891 (276 + k.toNat) 2 (wMx_h (by omega))))))) ?_
        have tb4960 := hT.atp (276 + k.toNat) 2 ((-1)) 47 (ft276_2 (by omega))
        refine y_iconst 160 c193_159 rfl ?_
        refine y_icmp 180 163 c193_160 rfl rfl (yc_eq (by omega) (by omega)) (fun hb4961 => ?_) (fun hb4961 => ?_)
        · have tb4962 := hTq4953.atp 169 6 0 200 rfl
          exact y_mRU c193_180 hTq4953 hF4959 (by omega)
        · refine y_aload 164 c193_163 rfl rfl rfl ?_
          refine y_aload 165 c193_164 rfl rfl rfl ?_
          refine y_aload 166 c193_165 rfl rfl rfl ?_
          refine y_getX 169 (m (276 + k.toNat) 2) c193_166 rfl (ff276_2 (by omega)) ((hFq4953 (276 + k.toNat) 2 (wMx_h (by omega))).trans ((hFq4948 (276 + k.toNat) 2 (wMx_h (by omega))).trans ((hFq4922 (276 + k.toNat) 2 (wMx_h (by omega))).trans ((hFq4894 (276 + k.toNat) 2 (wMx_h (by omega))).trans (hFq4891 (276 + k.toNat) 2 (wMx_h (by omega))))))) ?_
          refine y_aload 171 c193_169 rfl rfl rfl ?_
          refine y_aload 173 c193_171 rfl rfl rfl ?_
          refine y_getX 176 (m (266 + r4888.toNat) 2) c193_173 rfl (ff266_2 (by omega)) ((hFq4953 (266 + r4888.toNat) 2 (wMx_h (by omega))).trans ((hFq4948 (266 + r4888.toNat) 2 (wMx_h (by omega))).trans ((hFq4922 (266 + r4888.toNat) 2 (wMx_h (by omega))).trans ((hFq4894 (266 + r4888.toNat) 2 (wMx_h (by omega))).trans (hFq4891 (266 + r4888.toNat) 2 (wMx_h (by omega))))))) ?_
          have tb4963 := hT.atp (266 + r4888.toNat) 2 0 46 (ft266_2 (by omega))
          refine y_iaT 177 ((-1)) 29 c193_176 rfl (fa252 (by omega)) (by omega) hTq4953 (fz252 (by omega)) (fun v4964 hv4964 gv4964 => ?_)
          have tb4966 := hTq4953.atp 169 6 0 200 rfl
          refine y_callUB 180 [.ref 169, .ref (252 + x.toNat), yI (m (276 + k.toNat) 2), yI v4964] [] c193_177 rfl rfl rfl rfl rfl (ycanO km188 ko169) (t188 hTq4953 (by omega) (by omega) (by omega)) (fun mq4965 nq4965 hq4965 => ?_)
          obtain ⟨rfl, hTq4965, hFq4965, hq4965⟩ := hq4965
          have hF4967 := hF4959.tr hFq4965 (fun _ _ e => e)
          have tb4968 := hTq4965.atp 169 6 0 200 rfl
          exact y_mRU c193_180 hTq4965 hF4967 (by omega)
  · exact y_mThr c193_44 rfl hT hF (by decide) qOut.U
set_option maxRecDepth 100000 in
theorem t196_256 {L : Nat} {xs : Nat → Int32} {d nn : Nat} {m : yM} {k x : Int} (hT : Ty gT m) (hp : m 169 4 = 0) {b : Int} (hS : PS 256 m) (hkc : 0 ≤ k ∧ k < m 256 16) (hx : 0 ≤ x ∧ x ≤ 3) (hb : b ≤ m 169 6) (hB : BR256 L xs (d + 2) (b + 1)) : YC (gZ L xs) (d + 4) 196 [.ref 169, yI k, yI x] m nn (qTI nn m (fun r m' => (r = 0 ∨ r = 1) ∧ m 169 6 ≤ m' 169 6)) := by
  have tb16 := hT.atp 256 16 0 40 rfl
  have tb10 := hT.atp 256 10 0 10 rfl
  have tb6 := hT.atp 169 6 0 200 rfl
  have hsv : SV 276 m k.toNat := (hS.1.1 k.toNat (by omega) (by omega)).1
  unfold SV at hsv
  obtain ⟨s1, s2, s3, s4, s5⟩ := hsv
  have hen : m (276 + k.toNat) 12 ≤ m 256 16 ∧ ((m (276 + k.toNat) 0 = 0 ∨ m (276 + k.toNat) 0 = 1) → m (276 + k.toNat) 11 ≤ m 256 16) := hS.2.1 k.toNat (by omega) (by omega)
  have hnl : (m (276 + k.toNat) 0 = 3 ∨ m (276 + k.toNat) 0 = 9) → m (276 + k.toNat) 6 ≤ 7 := hS.2.2.1 k.toNat (by omega) (by omega)
  refine YC.mkB [some (.ref 169), some (yI k), some (yI x), none, none] kn196 rfl rfl ?_
  have hF : Fr wMx m m := Fr.rf
  refine y_aload 1 c196_0 rfl rfl rfl ?_
  have tb4970 := hT.atp 169 6 0 200 rfl
  refine y_mU 4 [.ref 169] [] c196_1 rfl rfl rfl rfl rfl (ycanO km189 ko169) kg196 qOut.I hF (t189 hT) (fun mq4969 hTq4969 hFq4969 hq4969 => ?_)
  have hF4971 := hF.tr' hFq4969
  refine y_aload 5 c196_4 rfl rfl rfl ?_
  refine y_getS 8 (B := 256) c196_5 rfl kf169_4 (by first | rfl | (rw [show mq4969 169 4 = 0 from by have e : mq4969 169 4 = m 169 4 := (hFq4969 169 4 rfl); omega]; rfl)) ?_
  refine y_getR 11 c196_8 rfl kf256_6 ?_
  refine y_iload 12 c196_11 rfl rfl ?_
  refine y_aaload 13 c196_12 rfl kr263 (by omega) ?_
  refine y_astore 14 c196_13 rfl rfl rfl ?_
  refine y_aload 15 c196_14 rfl rfl rfl ?_
  refine y_getR 18 c196_15 rfl kf169_3 ?_
  refine y_iload 19 c196_18 rfl rfl ?_
  refine y_aaload 20 c196_19 rfl kr251 (by omega) ?_
  refine y_astore 22 c196_20 rfl rfl rfl ?_
  refine y_aload 23 c196_22 rfl rfl rfl ?_
  refine y_getX 26 (m (276 + k.toNat) 0) c196_23 rfl (ff276_0 (by omega)) (hFq4969 (276 + k.toNat) 0 (wMx_h (by omega))) ?_
  have tb4972 := hT.atp (276 + k.toNat) 0 0 9 (ft276_0 (by omega))
  by_cases hk4973 : m (276 + k.toNat) 0 = 0
  · refine y_top 0 hk4973 ?_
    refine y_tsw 60 c196_26 (by decide) (by decide) rfl rfl ?_
    refine y_aload 62 c196_60 rfl rfl rfl ?_
    refine y_aload 63 c196_62 rfl rfl rfl ?_
    refine y_getX 66 (m (276 + k.toNat) 3) c196_63 rfl (ff276_3 (by omega)) (hFq4969 (276 + k.toNat) 3 (wMx_h (by omega))) ?_
    have tb4974 := hT.atp (276 + k.toNat) 3 ((-1)) 47 (ft276_3 (by omega))
    refine y_iaT 67 ((-1)) 29 c196_66 rfl (fa252 (by omega)) (by omega) hTq4969 (fz252 (by omega)) (fun v4975 hv4975 gv4975 => ?_)
    refine y_iconst 68 c196_67 rfl ?_
    refine y_icmp 86 71 c196_68 rfl rfl (yc_eq (by omega) (by omega)) (fun hb4976 => ?_) (fun hb4976 => ?_)
    · refine y_aload 87 c196_86 rfl rfl rfl ?_
      refine y_aload 88 c196_87 rfl rfl rfl ?_
      refine y_getX 91 (m (276 + k.toNat) 11) c196_88 rfl (ff276_11 (by omega)) (hFq4969 (276 + k.toNat) 11 (wMx_h (by omega))) ?_
      have tb4977 := hT.atp (276 + k.toNat) 11 0 40 (ft276_11 (by omega))
      refine y_aload 92 c196_91 rfl rfl rfl ?_
      refine y_getX 95 (m (276 + k.toNat) 12) c196_92 rfl (ff276_12 (by omega)) (hFq4969 (276 + k.toNat) 12 (wMx_h (by omega))) ?_
      have tb4978 := hT.atp (276 + k.toNat) 12 0 40 (ft276_12 (by omega))
      refine y_iload 96 c196_95 rfl rfl ?_
      have es4980 : mq4969 169 4 = m 169 4 := (hFq4969 169 4 rfl)
      have tb4981 := hT.atp 169 4 ((-1)) 1 rfl
      have tb4982 := hTq4969.atp 169 6 0 200 rfl
      have es4983 : mq4969 256 16 = m 256 16 := (hFq4969 256 16 rfl)
      have tb4984 := hT.atp 256 16 0 40 rfl
      have es4985 : mq4969 256 10 = m 256 10 := (hFq4969 256 10 rfl)
      have tb4986 := hT.atp 256 10 0 10 rfl
      refine y_mI 99 [.ref 169, yI (m (276 + k.toNat) 11), yI (m (276 + k.toNat) 12), yI x] [] c196_96 rfl rfl rfl rfl rfl (ycanO km197 ko169) kg196 qOut.I hF4971 (hB _ _ _ _ _ _ (by omega) hTq4969 (by omega) (hS.fr (by omega) (by omega) (fun k q _ => hF4971 _ _ (wMx_h (by omega)))) (by omega) (by omega) (by omega) (by omega)) (fun rq4979 mq4979 hTq4979 hFq4979 hq4979 => ?_)
      have hF4987 := hF4971.tr' hFq4979
      have tb4988 := hTq4979.atp 169 6 0 200 rfl
      exact y_mRI c196_99 (y_fit1 (by omega)) hTq4979 hF4987 (by omega)
    · refine y_aload 72 c196_71 rfl rfl rfl ?_
      refine y_iload 73 c196_72 rfl rfl ?_
      refine y_iconst 74 c196_73 rfl ?_
      refine y_iadd 75 c196_74 rfl ?_
      refine y_aload 76 c196_75 rfl rfl rfl ?_
      refine y_getX 79 (m (276 + k.toNat) 11) c196_76 rfl (ff276_11 (by omega)) (hFq4969 (276 + k.toNat) 11 (wMx_h (by omega))) ?_
      have tb4989 := hT.atp (276 + k.toNat) 11 0 40 (ft276_11 (by omega))
      refine y_iload 80 c196_79 rfl rfl ?_
      have es4991 : mq4969 169 4 = m 169 4 := (hFq4969 169 4 rfl)
      have tb4992 := hT.atp 169 4 ((-1)) 1 rfl
      have tb4993 := hTq4969.atp 169 6 0 200 rfl
      have es4994 : mq4969 256 16 = m 256 16 := (hFq4969 256 16 rfl)
      have tb4995 := hT.atp 256 16 0 40 rfl
      have es4996 : mq4969 256 10 = m 256 10 := (hFq4969 256 10 rfl)
      have tb4997 := hT.atp 256 10 0 10 rfl
      refine y_mI 83 [.ref 169, yI (k + 1), yI (m (276 + k.toNat) 11), yI x] [] c196_80 rfl rfl rfl rfl rfl (ycanO km197 ko169) kg196 qOut.I hF4971 (hB _ _ _ _ _ _ (by omega) hTq4969 (by omega) (hS.fr (by omega) (by omega) (fun k q _ => hF4971 _ _ (wMx_h (by omega)))) (by omega) (by omega) (by omega) (by omega)) (fun rq4990 mq4990 hTq4990 hFq4990 hq4990 => ?_)
      have hF4998 := hF4971.tr' hFq4990
      refine y_goto 99 c196_83 rfl ?_
      have tb4999 := hTq4990.atp 169 6 0 200 rfl
      exact y_mRI c196_99 (y_fit1 (by omega)) hTq4990 hF4998 (by omega)
  by_cases hk5000 : m (276 + k.toNat) 0 = 1
  · refine y_top 1 hk5000 ?_
    refine y_tsw 100 c196_26 (by decide) (by decide) rfl rfl ?_
    refine y_aload 101 c196_100 rfl rfl rfl ?_
    refine y_iload 102 c196_101 rfl rfl ?_
    refine y_iload 103 c196_102 rfl rfl ?_
    have es5002 : mq4969 169 4 = m 169 4 := (hFq4969 169 4 rfl)
    have tb5003 := hT.atp 169 4 ((-1)) 1 rfl
    have tb5004 := hTq4969.atp 169 6 0 200 rfl
    have es5005 : mq4969 256 16 = m 256 16 := (hFq4969 256 16 rfl)
    have tb5006 := hT.atp 256 16 0 40 rfl
    have es5007 : mq4969 256 10 = m 256 10 := (hFq4969 256 10 rfl)
    have tb5008 := hT.atp 256 10 0 10 rfl
    have es5009 : mq4969 (276 + k.toNat) 3 = m (276 + k.toNat) 3 := (hFq4969 (276 + k.toNat) 3 (wMx_h (by omega)))
    have tb5010 := hT.atp (276 + k.toNat) 3 ((-1)) 47 (ft276_3 (by omega))
    have es5011 : mq4969 (276 + k.toNat) 11 = m (276 + k.toNat) 11 := (hFq4969 (276 + k.toNat) 11 (wMx_h (by omega)))
    have tb5012 := hT.atp (276 + k.toNat) 11 0 40 (ft276_11 (by omega))
    refine y_mI 106 [.ref 169, yI k, yI x] [] c196_103 rfl rfl rfl rfl rfl (ycanO km190 ko169) kg196 qOut.I hF4971 (t190_256 (k := k) (b := b + 1) hTq4969 (by omega) (hS.fr (by omega) (by omega) (fun k q _ => hF4971 _ _ (wMx_h (by omega)))) (by omega) (by omega) (by omega) hB (by omega) (by omega)) (fun rq5001 mq5001 hTq5001 hFq5001 hq5001 => ?_)
    have hF5013 := hF4971.tr' hFq5001
    have tb5014 := hTq5001.atp 169 6 0 200 rfl
    exact y_mRI c196_106 (y_fit1 (by omega)) hTq5001 hF5013 (by omega)
  by_cases hk5015 : m (276 + k.toNat) 0 = 2
  · refine y_top 2 hk5015 ?_
    refine y_tsw 107 c196_26 (by decide) (by decide) rfl rfl ?_
    refine y_aload 108 c196_107 rfl rfl rfl ?_
    refine y_aload 110 c196_108 rfl rfl rfl ?_
    refine y_aload 111 c196_110 rfl rfl rfl ?_
    refine y_getX 114 (m (276 + k.toNat) 2) c196_111 rfl (ff276_2 (by omega)) (hFq4969 (276 + k.toNat) 2 (wMx_h (by omega))) ?_
    have tb5016 := hT.atp (276 + k.toNat) 2 ((-1)) 47 (ft276_2 (by omega))
    refine y_aload 116 c196_114 rfl rfl rfl ?_
    refine y_aload 117 c196_116 rfl rfl rfl ?_
    refine y_getX 120 (m (276 + k.toNat) 3) c196_117 rfl (ff276_3 (by omega)) (hFq4969 (276 + k.toNat) 3 (wMx_h (by omega))) ?_
    have tb5017 := hT.atp (276 + k.toNat) 3 ((-1)) 47 (ft276_3 (by omega))
    refine y_iaT 121 ((-1)) 29 c196_120 rfl (fa252 (by omega)) (by omega) hTq4969 (fz252 (by omega)) (fun v5018 hv5018 gv5018 => ?_)
    have tb5020 := hTq4969.atp 169 6 0 200 rfl
    refine y_callUB 124 [.ref 169, .ref (252 + x.toNat), yI (m (276 + k.toNat) 2), yI v5018] [] c196_121 rfl rfl rfl rfl rfl (ycanO km188 ko169) (t188 hTq4969 (by omega) (by omega) (by omega)) (fun mq5019 nq5019 hq5019 => ?_)
    obtain ⟨rfl, hTq5019, hFq5019, hq5019⟩ := hq5019
    have hF5021 := hF4971.tr hFq5019 (fun _ _ e => e)
    refine y_iconst 125 c196_124 rfl ?_
    have tb5022 := hTq5019.atp 169 6 0 200 rfl
    exact y_mRI c196_125 (y_fit1 (by omega)) hTq5019 hF5021 (by omega)
  by_cases hk5023 : m (276 + k.toNat) 0 = 3
  · refine y_top 3 hk5023 ?_
    refine y_tsw 126 c196_26 (by decide) (by decide) rfl rfl ?_
    refine y_aload 127 c196_126 rfl rfl rfl ?_
    refine y_getR 130 c196_127 rfl kf169_2 ?_
    refine y_aload 131 c196_130 rfl rfl rfl ?_
    refine y_aload 133 c196_131 rfl rfl rfl ?_
    refine y_aload 134 c196_133 rfl rfl rfl ?_
    refine y_getX 137 (m (276 + k.toNat) 2) c196_134 rfl (ff276_2 (by omega)) (hFq4969 (276 + k.toNat) 2 (wMx_h (by omega))) ?_
    have tb5024 := hT.atp (276 + k.toNat) 2 ((-1)) 47 (ft276_2 (by omega))
    refine y_iaT 138 ((-1)) 29 c196_137 rfl (fa252 (by omega)) (by omega) hTq4969 (fz252 (by omega)) (fun v5025 hv5025 gv5025 => ?_)
    refine y_aload 139 c196_138 rfl rfl rfl ?_
    refine y_getX 142 (m (276 + k.toNat) 6) c196_139 rfl (ff276_6 (by omega)) (hFq4969 (276 + k.toNat) 6 (wMx_h (by omega))) ?_
    have tb5026 := hT.atp (276 + k.toNat) 6 ((-1)) 11 (ft276_6 (by omega))
    have es5028 : mq4969 169 4 = m 169 4 := (hFq4969 169 4 rfl)
    have tb5029 := hT.atp 169 4 ((-1)) 1 rfl
    have tb5030 := hTq4969.atp 169 6 0 200 rfl
    refine y_mI 145 [.ref 169, yI v5025, yI (m (276 + k.toNat) 6)] [.ref 220] c196_142 rfl rfl rfl rfl rfl (ycanO km192 ko169) kg196 qOut.I hF4971 (t192_256 hTq4969 (by omega) (by omega) (by omega)) (fun rq5027 mq5027 hTq5027 hFq5027 hq5027 => ?_)
    obtain ⟨hq5027, hmq5027⟩ := hq5027
    obtain rfl := hmq5027.symm
    refine y_aaload 146 c196_145 rfl kr220 (by omega) ?_
    refine y_aload 147 c196_146 rfl rfl rfl ?_
    refine y_getX 150 (m (276 + k.toNat) 6) c196_147 rfl (ff276_6 (by omega)) (hFq4969 (276 + k.toNat) 6 (wMx_h (by omega))) ?_
    refine y_aload 152 c196_150 rfl rfl rfl ?_
    refine y_aload 153 c196_152 rfl rfl rfl ?_
    refine y_getX 156 (m (276 + k.toNat) 3) c196_153 rfl (ff276_3 (by omega)) (hFq4969 (276 + k.toNat) 3 (wMx_h (by omega))) ?_
    have tb5031 := hT.atp (276 + k.toNat) 3 ((-1)) 47 (ft276_3 (by omega))
    refine y_iaT 157 ((-1)) 29 c196_156 rfl (fa252 (by omega)) (by omega) hTq4969 (fz252 (by omega)) (fun v5032 hv5032 gv5032 => ?_)
    refine y_iastore 158 c196_157 rfl (fa221 (by omega)) (by omega) (y_nar0 _) ?_
    have hT5033 := hTq4969.up (221 + rq5027.toNat) ((m (276 + k.toNat) 6).toNat) v5032 ((-1)) 29 (fz221 (by omega)) (by omega)
    have hF5034 := hF4971.up (221 + rq5027.toNat) ((m (276 + k.toNat) 6).toNat) v5032 (wMx_r (by omega))
    refine y_iconst 159 c196_158 rfl ?_
    have es5035 : (yup mq4969 (221 + rq5027.toNat) ((m (276 + k.toNat) 6).toNat) v5032) 169 6 = mq4969 169 6 := (yup_na (by omega))
    exact y_mRI c196_159 (y_fit1 (by omega)) hT5033 hF5034 (by omega)
  by_cases hk5036 : m (276 + k.toNat) 0 = 4
  · refine y_top 4 hk5036 ?_
    refine y_tsw 160 c196_26 (by decide) (by decide) rfl rfl ?_
    refine y_aload 161 c196_160 rfl rfl rfl ?_
    refine y_aload 162 c196_161 rfl rfl rfl ?_
    refine y_iload 163 c196_162 rfl rfl ?_
    have es5038 : mq4969 169 4 = m 169 4 := (hFq4969 169 4 rfl)
    have tb5039 := hT.atp 169 4 ((-1)) 1 rfl
    have tb5040 := hTq4969.atp 169 6 0 200 rfl
    have es5041 : mq4969 256 16 = m 256 16 := (hFq4969 256 16 rfl)
    have tb5042 := hT.atp 256 16 0 40 rfl
    have es5043 : mq4969 256 10 = m 256 10 := (hFq4969 256 10 rfl)
    have tb5044 := hT.atp 256 10 0 10 rfl
    have es5045 : mq4969 (276 + k.toNat) 0 = m (276 + k.toNat) 0 := (hFq4969 (276 + k.toNat) 0 (wMx_h (by omega)))
    refine y_mU 166 [.ref 169, .ref (276 + k.toNat), yI x] [] c196_163 rfl rfl rfl rfl rfl (ycanO km193 ko169) kg196 qOut.I hF4971 (t193_256 (k := k) (b := b + 1) hTq4969 (by omega) (hS.fr (by omega) (by omega) (fun k q _ => hF4971 _ _ (wMx_h (by omega)))) (by omega) (by omega) (by omega) hB (by omega)) (fun mq5037 hTq5037 hFq5037 hq5037 => ?_)
    have hF5046 := hF4971.tr' hFq5037
    refine y_iconst 167 c196_166 rfl ?_
    have tb5047 := hTq5037.atp 169 6 0 200 rfl
    exact y_mRI c196_167 (y_fit1 (by omega)) hTq5037 hF5046 (by omega)
  refine y_tswd 168 c196_26 (by omega) (by omega) rfl ?_
  refine y_aload 169 c196_168 rfl rfl rfl ?_
  refine y_aload 171 c196_169 rfl rfl rfl ?_
  refine y_aload 172 c196_171 rfl rfl rfl ?_
  refine y_getX 175 (m (276 + k.toNat) 2) c196_172 rfl (ff276_2 (by omega)) (hFq4969 (276 + k.toNat) 2 (wMx_h (by omega))) ?_
  have tb5048 := hT.atp (276 + k.toNat) 2 ((-1)) 47 (ft276_2 (by omega))
  refine y_aload 176 c196_175 rfl rfl rfl ?_
  refine y_aload 177 c196_176 rfl rfl rfl ?_
  refine y_aload 179 c196_177 rfl rfl rfl ?_
  have es5050 : mq4969 169 4 = m 169 4 := (hFq4969 169 4 rfl)
  have tb5051 := hT.atp 169 4 ((-1)) 1 rfl
  have tb5052 := hTq4969.atp 169 6 0 200 rfl
  have es5053 : mq4969 256 16 = m 256 16 := (hFq4969 256 16 rfl)
  have tb5054 := hT.atp 256 16 0 40 rfl
  have es5055 : mq4969 256 10 = m 256 10 := (hFq4969 256 10 rfl)
  have tb5056 := hT.atp 256 10 0 10 rfl
  have es5057 : mq4969 (276 + k.toNat) 0 = m (276 + k.toNat) 0 := (hFq4969 (276 + k.toNat) 0 (wMx_h (by omega)))
  have es5058 : mq4969 (276 + k.toNat) 3 = m (276 + k.toNat) 3 := (hFq4969 (276 + k.toNat) 3 (wMx_h (by omega)))
  have tb5059 := hT.atp (276 + k.toNat) 3 ((-1)) 47 (ft276_3 (by omega))
  have es5060 : mq4969 (276 + k.toNat) 6 = m (276 + k.toNat) 6 := (hFq4969 (276 + k.toNat) 6 (wMx_h (by omega)))
  have tb5061 := hT.atp (276 + k.toNat) 6 ((-1)) 11 (ft276_6 (by omega))
  refine y_mI 182 [.ref 169, .ref (276 + k.toNat), .ref (252 + x.toNat)] [yI (m (276 + k.toNat) 2), .ref (252 + x.toNat), .ref 169] c196_179 rfl rfl rfl rfl rfl (ycanO km195 ko169) kg196 qOut.I hF4971 (t195_256 (k := k) hTq4969 (by omega) (by omega) (by omega) (by omega) (by omega) (by omega)) (fun rq5049 mq5049 hTq5049 hFq5049 hq5049 => ?_)
  have hF5062 := hF4971.tr' hFq5049
  have tb5064 := hTq5049.atp 169 6 0 200 rfl
  refine y_callUB 185 [.ref 169, .ref (252 + x.toNat), yI (m (276 + k.toNat) 2), yI rq5049] [] c196_182 rfl rfl rfl rfl rfl (ycanO km188 ko169) (t188 hTq5049 (by omega) (by omega) (by omega)) (fun mq5063 nq5063 hq5063 => ?_)
  obtain ⟨rfl, hTq5063, hFq5063, hq5063⟩ := hq5063
  have hF5065 := hF5062.tr hFq5063 (fun _ _ e => e)
  refine y_iconst 186 c196_185 rfl ?_
  have tb5066 := hTq5063.atp 169 6 0 200 rfl
  exact y_mRI c196_186 (y_fit1 (by omega)) hTq5063 hF5065 (by omega)
set_option maxRecDepth 100000 in
theorem t197a_256 {L : Nat} {xs : Nat → Int32} {d nn : Nat} {m : yM} {f e x b : Int} (hT : Ty gT m) (hp : m 169 4 = 0) (hS : PS 256 m) (hb : b ≤ m 169 6) (he : 0 ≤ e ∧ e ≤ m 256 16) (hx : 0 ≤ x ∧ x ≤ 3) (hB : BR256 L xs (d + 2) (b + 1)) : ∀ (km : Nat) (p : Int) (i : Int) (mi : yM), 40 - i = km → 0 ≤ p ∧ p ≤ 40 → 0 ≤ i ∧ i ≤ 40 → Ty gT mi → Fr wMx m mi → m 169 6 ≤ mi 169 6 → YW (gZ L xs) 197 (d + 5) 6 [some (.ref 169), some (yI f), some (yI e), some (yI x), some (yI p), some (yI i)] [] mi nn (qTI nn m (fun r m' => (r = 0 ∨ r = 1) ∧ m 169 6 ≤ m' 169 6)) := by
  intro km
  induction km using Nat.strongRecOn with
  | ind km ih =>
    intro p i mi hk hpp hi hTi hFi h6
    have tb16 := hT.atp 256 16 0 40 rfl
    have tb10 := hT.atp 256 10 0 10 rfl
    have tb6 := hT.atp 169 6 0 200 rfl
    refine y_iload 8 c197_6 rfl rfl ?_
    refine y_iconst 10 c197_8 rfl ?_
    refine y_icmp 52 13 c197_10 rfl rfl (yc_ge (by omega) (by omega)) (fun hb5067 => ?_) (fun hb5067 => ?_)
    · refine y_iconst 53 c197_52 rfl ?_
      have tb5068 := hTi.atp 169 6 0 200 rfl
      exact y_mRI c197_53 (y_fit1 (by omega)) hTi hFi (by omega)
    · refine y_iload 15 c197_13 rfl rfl ?_
      refine y_iload 16 c197_15 rfl rfl ?_
      refine y_icmp 52 19 c197_16 rfl rfl (yc_ge (by omega) (by omega)) (fun hb5069 => ?_) (fun hb5069 => ?_)
      · refine y_iconst 53 c197_52 rfl ?_
        have tb5070 := hTi.atp 169 6 0 200 rfl
        exact y_mRI c197_53 (y_fit1 (by omega)) hTi hFi (by omega)
      · refine y_aload 20 c197_19 rfl rfl rfl ?_
        refine y_iload 22 c197_20 rfl rfl ?_
        refine y_iload 23 c197_22 rfl rfl ?_
        have es5072 : mi 169 4 = m 169 4 := (hFi 169 4 rfl)
        have tb5073 := hT.atp 169 4 ((-1)) 1 rfl
        have tb5074 := hTi.atp 169 6 0 200 rfl
        have es5075 : mi 256 16 = m 256 16 := (hFi 256 16 rfl)
        have tb5076 := hT.atp 256 16 0 40 rfl
        have es5077 : mi 256 10 = m 256 10 := (hFi 256 10 rfl)
        have tb5078 := hT.atp 256 10 0 10 rfl
        refine y_mI 26 [.ref 169, yI p, yI x] [] c197_23 rfl rfl rfl rfl rfl (ycanO km196 ko169) kg197 qOut.I hFi (t196_256 (b := b) hTi (by omega) (hS.fr (by omega) (by omega) (fun k q _ => hFi _ _ (wMx_h (by omega)))) (by omega) (by omega) (by omega) hB) (fun rq5071 mq5071 hTq5071 hFq5071 hq5071 => ?_)
        have hF5079 := hFi.tr' hFq5071
        refine y_if 31 29 c197_26 rfl rfl (yz_eq (by omega)) (fun hb5080 => ?_) (fun hb5080 => ?_)
        · refine y_aload 32 c197_31 rfl rfl rfl ?_
          refine y_getS 35 (B := 256) c197_32 rfl kf169_4 (by first | rfl | (rw [show mq5071 169 4 = 0 from by have e : mq5071 169 4 = m 169 4 := ((hFq5071 169 4 rfl).trans (hFi 169 4 rfl)); omega]; rfl)) ?_
          refine y_getR 38 c197_35 rfl kf256_6 ?_
          refine y_iload 40 c197_38 rfl rfl ?_
          refine y_aaload 41 c197_40 rfl kr263 (by omega) ?_
          refine y_getX 44 (m (276 + p.toNat) 12) c197_41 rfl (ff276_12 (by omega)) ((hFq5071 (276 + p.toNat) 12 (wMx_h (by omega))).trans (hFi (276 + p.toNat) 12 (wMx_h (by omega)))) ?_
          have tb5081 := hT.atp (276 + p.toNat) 12 0 40 (ft276_12 (by omega))
          refine y_istore 46 c197_44 rfl rfl ?_
          refine y_iinc 49 c197_46 rfl rfl rfl ?_
          refine y_goto 6 c197_49 rfl ?_
          exact ih (40 - (i + 1) : Int).toNat (by omega) (m (276 + p.toNat) 12) (i + 1)  _ (by omega) (by omega) (by omega) hTq5071 hF5079 (by have e : mq5071 169 6 = mq5071 169 6 := rfl; omega)
        · refine y_iconst 30 c197_29 rfl ?_
          have tb5082 := hTq5071.atp 169 6 0 200 rfl
          exact y_mRI c197_30 (y_fit1 (by omega)) hTq5071 hF5079 (by omega)
set_option maxRecDepth 100000 in
theorem t197_256 {L : Nat} {xs : Nat → Int32} {d nn : Nat} {m : yM} {f e x b : Int} (hT : Ty gT m) (hp : m 169 4 = 0) (hS : PS 256 m) (hb : b ≤ m 169 6) (he : 0 ≤ e ∧ e ≤ m 256 16) (hx : 0 ≤ x ∧ x ≤ 3) (hB : BR256 L xs (d + 2) (b + 1)) (hf : 0 ≤ f ∧ f ≤ 40) : YC (gZ L xs) (d + 5) 197 [.ref 169, yI f, yI e, yI x] m nn (qTI nn m (fun r m' => (r = 0 ∨ r = 1) ∧ m 169 6 ≤ m' 169 6)) := by
  have tb16 := hT.atp 256 16 0 40 rfl
  have tb10 := hT.atp 256 10 0 10 rfl
  have tb6 := hT.atp 169 6 0 200 rfl
  refine YC.mkB [some (.ref 169), some (yI f), some (yI e), some (yI x), none, none] kn197 rfl rfl ?_
  have hF : Fr wMx m m := Fr.rf
  refine y_iload 1 c197_0 rfl rfl ?_
  refine y_istore 3 c197_1 rfl rfl ?_
  refine y_iconst 4 c197_3 rfl ?_
  refine y_istore 6 c197_4 rfl rfl ?_
  exact t197a_256 hT hp hS hb he hx hB 40 f 0 m (by omega) hf (by omega) hT Fr.rf (by omega)
theorem tBR_256 {L : Nat} {xs : Nat → Int32} {d : Nat} : ∀ (n : Nat) (b : Int), 201 - b = n → BR256 L xs (3 * n + d + 2) b := by
  intro n
  induction n with
  | zero => intro b hb nn m f e x dd hd hT hp hS h6 hf he hx; exfalso; have := hT.atp 169 6 0 200 rfl; omega
  | succ n ih =>
    intro b hb nn m f e x dd hd hT hp hS h6 hf he hx
    obtain ⟨d', rfl⟩ : ∃ d', dd = d' + 5 := ⟨dd - 5, by omega⟩
    have h1 : BR256 L xs (d' + 2) (b + 1) := fun nn m f e x dd hd => ih (b + 1) (by omega) nn m f e x dd (by omega)
    exact t197_256 hT hp hS h6 he hx h1 hf
