section
/-! CONTRACTS: the machine. Printed by wip/whole/gen93.py -/
set_option maxRecDepth 100000 in
theorem t191_256 {L : Nat} {xs : Nat → Int32} {d nn : Nat} {m : yM} {q : Int} (hT : Ty gT m) (hp : m 169 4 = 0) (hq : -1 ≤ q ∧ q ≤ 29) : YC (gZ L xs) d 191 [.ref 169, yI q] m nn (qTI nn m (fun r m' => (0 ≤ r ∧ r ≤ 5 ∧ q ≠ -1) ∧ m' = m)) := by
  refine YC.mkB [some (.ref 169), some (yI q)] kn191 rfl rfl ?_
  have hF : Fr wMx m m := Fr.rf
  refine y_iload 1 c191_0 rfl rfl ?_
  refine y_iconst 2 c191_1 rfl ?_
  refine y_icmp 13 5 c191_2 rfl rfl (yc_ne (by omega) (by omega)) (fun hb4817 => ?_) (fun hb4817 => ?_)
  · refine y_aload 14 c191_13 rfl rfl rfl ?_
    refine y_getS 17 (B := 256) c191_14 rfl kf169_4 (by first | rfl | (rw [show m 169 4 = 0 from by have e : m 169 4 = m 169 4 := rfl; omega]; rfl)) ?_
    refine y_getR 20 c191_17 rfl kf256_7 ?_
    refine y_aload 21 c191_20 rfl rfl rfl ?_
    refine y_getR 24 c191_21 rfl kf169_1 ?_
    refine y_iload 25 c191_24 rfl rfl ?_
    refine y_iaT 26 0 11 c191_25 rfl ka219 (by omega) hT rfl (fun v4818 hv4818 gv4818 => ?_)
    refine y_iaT 27 0 5 c191_26 rfl ka264 (by omega) hT rfl (fun v4819 hv4819 gv4819 => ?_)
    exact y_mRI c191_27 (y_fit0 _) hT hF (⟨by omega, rfl⟩)
  · exact y_mThr c191_5 rfl hT hF (by decide) qOut.I
set_option maxRecDepth 100000 in
theorem t192_256 {L : Nat} {xs : Nat → Int32} {d nn : Nat} {m : yM} {q f : Int} (hT : Ty gT m) (hp : m 169 4 = 0) (hq : -1 ≤ q ∧ q ≤ 29) (hf : -1 ≤ f ∧ f ≤ 11) : YC (gZ L xs) (d + 1) 192 [.ref 169, yI q, yI f] m nn (qTI nn m (fun r m' => (r = q ∧ q ≠ -1 ∧ f ≠ -1) ∧ m' = m)) := by
  refine YC.mkB [some (.ref 169), some (yI q), some (yI f)] kn192 rfl rfl ?_
  have hF : Fr wMx m m := Fr.rf
  refine y_aload 1 c192_0 rfl rfl rfl ?_
  refine y_getS 4 (B := 256) c192_1 rfl kf169_4 (by first | rfl | (rw [show m 169 4 = 0 from by have e : m 169 4 = m 169 4 := rfl; omega]; rfl)) ?_
  refine y_aload 5 c192_4 rfl rfl rfl ?_
  refine y_iload 6 c192_5 rfl rfl ?_
  have tb4821 := hT.atp 169 4 ((-1)) 1 rfl
  have tb4822 := hT.atp 169 6 0 200 rfl
  refine y_mI 9 [.ref 169, yI q] [.ref 256] c192_6 rfl rfl rfl rfl rfl (ycanO km191 ko169) kg192 qOut.I hF (t191_256 hT (by omega) (by omega)) (fun rq4820 mq4820 hTq4820 hFq4820 hq4820 => ?_)
  obtain ⟨hq4820, hmq4820⟩ := hq4820
  obtain rfl := hmq4820.symm
  refine y_iload 10 c192_9 rfl rfl ?_
  refine y_callP 13 [.ref 256, yI rq4820, yI f] [] c192_10 rfl rfl rfl rfl rfl (ycanO km47 ko256) (t47_256 hT (by omega) (by omega)) (fun r4823 hr4823 => ?_)
  refine y_if 24 16 c192_13 rfl rfl (yz_ne (by omega)) (fun hb4824 => ?_) (fun hb4824 => ?_)
  · refine y_iload 25 c192_24 rfl rfl ?_
    exact y_mRI c192_25 (y_fit0 _) hT hF (⟨by omega, rfl⟩)
  · exact y_mThr c192_16 rfl hT hF (by decide) qOut.I
set_option maxRecDepth 100000 in
theorem t194_256 {L : Nat} {xs : Nat → Int32} {d nn : Nat} {m : yM} {t q : Int} (hT : Ty gT m) (hp : m 169 4 = 0) (ht : -1 ≤ t ∧ t ≤ 5) (hq : -1 ≤ q ∧ q ≤ 29) : YC (gZ L xs) (d + 1) 194 [.ref 169, yI t, yI q] m nn (qTI nn m (fun r m' => (r = q) ∧ m' = m)) := by
  refine YC.mkB [some (.ref 169), some (yI t), some (yI q)] kn194 rfl rfl ?_
  have hF : Fr wMx m m := Fr.rf
  refine y_iload 1 c194_0 rfl rfl ?_
  refine y_iconst 2 c194_1 rfl ?_
  refine y_icmp 29 5 c194_2 rfl rfl (yc_eq (by omega) (by omega)) (fun hb4825 => ?_) (fun hb4825 => ?_)
  · refine y_iload 30 c194_29 rfl rfl ?_
    exact y_mRI c194_30 (y_fit0 _) hT hF (⟨by omega, rfl⟩)
  · refine y_aload 6 c194_5 rfl rfl rfl ?_
    refine y_getS 9 (B := 256) c194_6 rfl kf169_4 (by first | rfl | (rw [show m 169 4 = 0 from by have e : m 169 4 = m 169 4 := rfl; omega]; rfl)) ?_
    refine y_aload 10 c194_9 rfl rfl rfl ?_
    refine y_iload 11 c194_10 rfl rfl ?_
    have tb4827 := hT.atp 169 4 ((-1)) 1 rfl
    have tb4828 := hT.atp 169 6 0 200 rfl
    refine y_mI 14 [.ref 169, yI q] [.ref 256] c194_11 rfl rfl rfl rfl rfl (ycanO km191 ko169) kg194 qOut.I hF (t191_256 hT (by omega) (by omega)) (fun rq4826 mq4826 hTq4826 hFq4826 hq4826 => ?_)
    obtain ⟨hq4826, hmq4826⟩ := hq4826
    obtain rfl := hmq4826.symm
    refine y_iload 15 c194_14 rfl rfl ?_
    refine y_callP 18 [.ref 256, yI rq4826, yI t] [] c194_15 rfl rfl rfl rfl rfl (ycanO km81 ko256) (t81_256 hT (by omega) (by omega)) (fun r4829 hr4829 => ?_)
    refine y_if 29 21 c194_18 rfl rfl (yz_ne (by omega)) (fun hb4830 => ?_) (fun hb4830 => ?_)
    · refine y_iload 30 c194_29 rfl rfl ?_
      exact y_mRI c194_30 (y_fit0 _) hT hF (⟨by omega, rfl⟩)
    · exact y_mThr c194_21 rfl hT hF (by decide) qOut.I
set_option maxRecDepth 100000 in
theorem t195_256 {L : Nat} {xs : Nat → Int32} {d nn : Nat} {m : yM} {k x : Int} (hT : Ty gT m) (hp : m 169 4 = 0) (hk : 0 ≤ k ∧ k ≤ 39) (hx : 0 ≤ x ∧ x ≤ 3) (h5 : m (276 + k.toNat) 0 = 5 → 0 ≤ m (276 + k.toNat) 6) (h3 : (m (276 + k.toNat) 0 = 7 ∨ m (276 + k.toNat) 0 = 8 ∨ m (276 + k.toNat) 0 = 9) → 0 ≤ m (276 + k.toNat) 3) (h9 : m (276 + k.toNat) 0 = 9 → m (276 + k.toNat) 6 ≤ 7) : YC (gZ L xs) (d + 2) 195 [.ref 169, .ref (276 + k.toNat), .ref (252 + x.toNat)] m nn (qTI nn m (fun r m' => -1 ≤ r ∧ r ≤ 29 ∧ m' 169 6 = m 169 6)) := by
  refine YC.mkB [some (.ref 169), some (.ref (276 + k.toNat)), some (.ref (252 + x.toNat))] kn195 rfl rfl ?_
  have hF : Fr wMx m m := Fr.rf
  refine y_aload 1 c195_0 rfl rfl rfl ?_
  refine y_getX 4 (m (276 + k.toNat) 0) c195_1 rfl (ff276_0 (by omega)) rfl ?_
  have tb4831 := hT.atp (276 + k.toNat) 0 0 9 (ft276_0 (by omega))
  by_cases hk4832 : m (276 + k.toNat) 0 = 5
  · refine y_top 5 hk4832 ?_
    refine y_tsw 40 c195_4 (by decide) (by decide) rfl rfl ?_
    refine y_aload 41 c195_40 rfl rfl rfl ?_
    refine y_aload 42 c195_41 rfl rfl rfl ?_
    refine y_getX 45 (m (276 + k.toNat) 6) c195_42 rfl (ff276_6 (by omega)) rfl ?_
    have tb4833 := hT.atp (276 + k.toNat) 6 ((-1)) 11 (ft276_6 (by omega))
    have tb4835 := hT.atp 169 6 0 200 rfl
    refine y_mI 48 [.ref 169, yI (m (276 + k.toNat) 6)] [] c195_45 rfl rfl rfl rfl rfl (ycanO km186 ko169) kg195 qOut.I hF (t186 hT (by omega)) (fun rq4834 mq4834 hTq4834 hFq4834 hq4834 => ?_)
    have hF4836 := hF.tr' hFq4834
    have tb4837 := hTq4834.atp 169 6 0 200 rfl
    exact y_mRI c195_48 (y_fit0 _) hTq4834 hF4836 (by omega)
  by_cases hk4838 : m (276 + k.toNat) 0 = 6
  · refine y_top 6 hk4838 ?_
    refine y_tsw 96 c195_4 (by decide) (by decide) rfl rfl ?_
    refine y_iconst 97 c195_96 rfl ?_
    have tb4839 := hT.atp 169 6 0 200 rfl
    exact y_mRI c195_97 (y_fit0 _) hT hF (by omega)
  by_cases hk4840 : m (276 + k.toNat) 0 = 7
  · refine y_top 7 hk4840 ?_
    refine y_tsw 49 c195_4 (by decide) (by decide) rfl rfl ?_
    refine y_aload 50 c195_49 rfl rfl rfl ?_
    refine y_aload 51 c195_50 rfl rfl rfl ?_
    refine y_getX 54 (m (276 + k.toNat) 7) c195_51 rfl (ff276_7 (by omega)) rfl ?_
    have tb4841 := hT.atp (276 + k.toNat) 7 ((-1)) 5 (ft276_7 (by omega))
    refine y_aload 55 c195_54 rfl rfl rfl ?_
    refine y_aload 56 c195_55 rfl rfl rfl ?_
    refine y_getX 59 (m (276 + k.toNat) 3) c195_56 rfl (ff276_3 (by omega)) rfl ?_
    have tb4842 := hT.atp (276 + k.toNat) 3 ((-1)) 47 (ft276_3 (by omega))
    refine y_iaT 60 ((-1)) 29 c195_59 rfl (fa252 (by omega)) (by omega) hT (fz252 (by omega)) (fun v4843 hv4843 gv4843 => ?_)
    have tb4845 := hT.atp 169 4 ((-1)) 1 rfl
    have tb4846 := hT.atp 169 6 0 200 rfl
    refine y_mI 63 [.ref 169, yI (m (276 + k.toNat) 7), yI v4843] [] c195_60 rfl rfl rfl rfl rfl (ycanO km194 ko169) kg195 qOut.I hF (t194_256 hT (by omega) (by omega) (by omega)) (fun rq4844 mq4844 hTq4844 hFq4844 hq4844 => ?_)
    obtain ⟨hq4844, hmq4844⟩ := hq4844
    obtain rfl := hmq4844.symm
    exact y_mRI c195_63 (y_fit0 _) hT hF (by omega)
  by_cases hk4847 : m (276 + k.toNat) 0 = 8
  · refine y_top 8 hk4847 ?_
    refine y_tsw 64 c195_4 (by decide) (by decide) rfl rfl ?_
    refine y_aload 65 c195_64 rfl rfl rfl ?_
    refine y_aload 66 c195_65 rfl rfl rfl ?_
    refine y_getX 69 (m (276 + k.toNat) 3) c195_66 rfl (ff276_3 (by omega)) rfl ?_
    have tb4848 := hT.atp (276 + k.toNat) 3 ((-1)) 47 (ft276_3 (by omega))
    refine y_iaT 70 ((-1)) 29 c195_69 rfl (fa252 (by omega)) (by omega) hT (fz252 (by omega)) (fun v4849 hv4849 gv4849 => ?_)
    have tb4850 := hT.atp 169 6 0 200 rfl
    exact y_mRI c195_70 (y_fit0 _) hT hF (by omega)
  by_cases hk4851 : m (276 + k.toNat) 0 = 9
  · refine y_top 9 hk4851 ?_
    refine y_tsw 71 c195_4 (by decide) (by decide) rfl rfl ?_
    refine y_aload 72 c195_71 rfl rfl rfl ?_
    refine y_getR 75 c195_72 rfl kf169_2 ?_
    refine y_aload 76 c195_75 rfl rfl rfl ?_
    refine y_aload 77 c195_76 rfl rfl rfl ?_
    refine y_aload 78 c195_77 rfl rfl rfl ?_
    refine y_getX 81 (m (276 + k.toNat) 3) c195_78 rfl (ff276_3 (by omega)) rfl ?_
    have tb4852 := hT.atp (276 + k.toNat) 3 ((-1)) 47 (ft276_3 (by omega))
    refine y_iaT 82 ((-1)) 29 c195_81 rfl (fa252 (by omega)) (by omega) hT (fz252 (by omega)) (fun v4853 hv4853 gv4853 => ?_)
    refine y_aload 83 c195_82 rfl rfl rfl ?_
    refine y_getX 86 (m (276 + k.toNat) 6) c195_83 rfl (ff276_6 (by omega)) rfl ?_
    have tb4854 := hT.atp (276 + k.toNat) 6 ((-1)) 11 (ft276_6 (by omega))
    have tb4856 := hT.atp 169 4 ((-1)) 1 rfl
    have tb4857 := hT.atp 169 6 0 200 rfl
    refine y_mI 89 [.ref 169, yI v4853, yI (m (276 + k.toNat) 6)] [.ref 220] c195_86 rfl rfl rfl rfl rfl (ycanO km192 ko169) kg195 qOut.I hF (t192_256 hT (by omega) (by omega) (by omega)) (fun rq4855 mq4855 hTq4855 hFq4855 hq4855 => ?_)
    obtain ⟨hq4855, hmq4855⟩ := hq4855
    obtain rfl := hmq4855.symm
    refine y_aaload 90 c195_89 rfl kr220 (by omega) ?_
    refine y_aload 91 c195_90 rfl rfl rfl ?_
    refine y_getX 94 (m (276 + k.toNat) 6) c195_91 rfl (ff276_6 (by omega)) rfl ?_
    refine y_iaT 95 ((-1)) 29 c195_94 rfl (fa221 (by omega)) (by omega) hT (fz221 (by omega)) (fun v4858 hv4858 gv4858 => ?_)
    exact y_mRI c195_95 (y_fit0 _) hT hF (by omega)
  refine y_tswd 96 c195_4 (by omega) (by omega) rfl ?_
  refine y_iconst 97 c195_96 rfl ?_
  have tb4859 := hT.atp 169 6 0 200 rfl
  exact y_mRI c195_97 (y_fit0 _) hT hF (by omega)
/-- what a body's run is, once b statements have begun -/
def BR256 (L : Nat) (xs : Nat → Int32) (D : Nat) (b : Int) : Prop := ∀ (nn : Nat) (m : yM) (f e x : Int) (dd : Nat), D ≤ dd → Ty gT m → m 169 4 = 0 → PS 256 m → b ≤ m 169 6 → 0 ≤ f ∧ f ≤ 40 → 0 ≤ e ∧ e ≤ m 256 16 → 0 ≤ x ∧ x ≤ 3 → YC (gZ L xs) dd 197 [.ref 169, yI f, yI e, yI x] m nn (qTI nn m (fun r m' => (r = 0 ∨ r = 1) ∧ m 169 6 ≤ m' 169 6))
set_option maxRecDepth 100000 in
theorem t190a_256 {L : Nat} {xs : Nat → Int32} {d nn : Nat} {m : yM} {k x : Int} (hT : Ty gT m) (hp : m 169 4 = 0) {b : Int} (hS : PS 256 m) (hkc : 0 ≤ k ∧ k < m 256 16) (hx : 0 ≤ x ∧ x ≤ 3) (hb : b ≤ m 169 6) (hB : BR256 L xs (d + 2) b) (h3 : 0 ≤ m (276 + k.toNat) 3) (h11 : m (276 + k.toNat) 11 ≤ m 256 16) : ∀ (km : Nat) (i : Int) (mi : yM), 201 - i = km → 0 ≤ i ∧ i ≤ 201 → Ty gT mi → Fr wMx m mi → m 169 6 ≤ mi 169 6 → YW (gZ L xs) 190 (d + 3) 13 [some (.ref 169), some (yI k), some (yI x), some (.ref (276 + k.toNat)), some (yI i)] [] mi nn (qTI nn m (fun r m' => (r = 0 ∨ r = 1) ∧ m 169 6 ≤ m' 169 6)) := by
  intro km
  induction km using Nat.strongRecOn with
  | ind km ih =>
    intro i mi hk hi hTi hFi h6
    have tb16 := hT.atp 256 16 0 40 rfl
    have tb10 := hT.atp 256 10 0 10 rfl
    have tb6 := hT.atp 169 6 0 200 rfl
    have hk40 : k ≤ 39 := by omega
    have hen2 : m (276 + k.toNat) 11 ≤ 40 := (hT.atp (276 + k.toNat) 11 0 40 (ft276_11 (by omega))).2
    refine y_iload 15 c190_13 rfl rfl ?_
    refine y_iconst 18 c190_15 rfl ?_
    refine y_icmp 63 21 c190_18 rfl rfl (yc_gt (by omega) (by omega)) (fun hb4860 => ?_) (fun hb4860 => ?_)
    · refine y_iconst 64 c190_63 rfl ?_
      have tb4861 := hTi.atp 169 6 0 200 rfl
      exact y_mRI c190_64 (y_fit1 (by omega)) hTi hFi (by omega)
    · refine y_aload 22 c190_21 rfl rfl rfl ?_
      refine y_getR 25 c190_22 rfl kf169_3 ?_
      refine y_iload 26 c190_25 rfl rfl ?_
      refine y_aaload 27 c190_26 rfl kr251 (by omega) ?_
      refine y_aload 28 c190_27 rfl rfl rfl ?_
      refine y_getX 31 (m (276 + k.toNat) 3) c190_28 rfl (ff276_3 (by omega)) (hFi (276 + k.toNat) 3 (wMx_h (by omega))) ?_
      have tb4862 := hT.atp (276 + k.toNat) 3 ((-1)) 47 (ft276_3 (by omega))
      refine y_iaT 32 ((-1)) 29 c190_31 rfl (fa252 (by omega)) (by omega) hTi (fz252 (by omega)) (fun v4863 hv4863 gv4863 => ?_)
      refine y_iconst 33 c190_32 rfl ?_
      refine y_icmp 63 36 c190_33 rfl rfl (yc_eq (by omega) (by omega)) (fun hb4864 => ?_) (fun hb4864 => ?_)
      · refine y_iconst 64 c190_63 rfl ?_
        have tb4865 := hTi.atp 169 6 0 200 rfl
        exact y_mRI c190_64 (y_fit1 (by omega)) hTi hFi (by omega)
      · refine y_aload 37 c190_36 rfl rfl rfl ?_
        refine y_iload 38 c190_37 rfl rfl ?_
        refine y_iconst 39 c190_38 rfl ?_
        refine y_iadd 40 c190_39 rfl ?_
        refine y_aload 41 c190_40 rfl rfl rfl ?_
        refine y_getX 44 (m (276 + k.toNat) 11) c190_41 rfl (ff276_11 (by omega)) (hFi (276 + k.toNat) 11 (wMx_h (by omega))) ?_
        have tb4866 := hT.atp (276 + k.toNat) 11 0 40 (ft276_11 (by omega))
        refine y_iload 45 c190_44 rfl rfl ?_
        have es4868 : mi 169 4 = m 169 4 := (hFi 169 4 rfl)
        have tb4869 := hT.atp 169 4 ((-1)) 1 rfl
        have tb4870 := hTi.atp 169 6 0 200 rfl
        have es4871 : mi 256 16 = m 256 16 := (hFi 256 16 rfl)
        have tb4872 := hT.atp 256 16 0 40 rfl
        have es4873 : mi 256 10 = m 256 10 := (hFi 256 10 rfl)
        have tb4874 := hT.atp 256 10 0 10 rfl
        refine y_mI 48 [.ref 169, yI (k + 1), yI (m (276 + k.toNat) 11), yI x] [] c190_45 rfl rfl rfl rfl rfl (ycanO km197 ko169) kg190 qOut.I hFi (hB _ _ _ _ _ _ (by omega) hTi (by omega) (hS.fr (by omega) (by omega) (fun k q _ => hFi _ _ (wMx_h (by omega)))) (by omega) (by omega) (by omega) (by omega)) (fun rq4867 mq4867 hTq4867 hFq4867 hq4867 => ?_)
        have hF4875 := hFi.tr' hFq4867
        refine y_if 53 51 c190_48 rfl rfl (yz_eq (by omega)) (fun hb4876 => ?_) (fun hb4876 => ?_)
        · refine y_aload 54 c190_53 rfl rfl rfl ?_
          have tb4878 := hTq4867.atp 169 6 0 200 rfl
          refine y_mU 57 [.ref 169] [] c190_54 rfl rfl rfl rfl rfl (ycanO km189 ko169) kg190 qOut.I hF4875 (t189 hTq4867) (fun mq4877 hTq4877 hFq4877 hq4877 => ?_)
          have hF4879 := hF4875.tr' hFq4877
          refine y_iinc 60 c190_57 rfl rfl rfl ?_
          refine y_goto 13 c190_60 rfl ?_
          exact ih (201 - (i + 1) : Int).toNat (by omega) (i + 1)  _ (by omega) (by omega) hTq4877 hF4879 (by have e : mq4877 169 6 = mq4877 169 6 := rfl; omega)
        · refine y_iconst 52 c190_51 rfl ?_
          have tb4880 := hTq4867.atp 169 6 0 200 rfl
          exact y_mRI c190_52 (y_fit1 (by omega)) hTq4867 hF4875 (by omega)
set_option maxRecDepth 100000 in
theorem t190_256 {L : Nat} {xs : Nat → Int32} {d nn : Nat} {m : yM} {k x : Int} (hT : Ty gT m) (hp : m 169 4 = 0) {b : Int} (hS : PS 256 m) (hkc : 0 ≤ k ∧ k < m 256 16) (hx : 0 ≤ x ∧ x ≤ 3) (hb : b ≤ m 169 6) (hB : BR256 L xs (d + 2) b) (h3 : 0 ≤ m (276 + k.toNat) 3) (h11 : m (276 + k.toNat) 11 ≤ m 256 16) : YC (gZ L xs) (d + 3) 190 [.ref 169, yI k, yI x] m nn (qTI nn m (fun r m' => (r = 0 ∨ r = 1) ∧ m 169 6 ≤ m' 169 6)) := by
  have tb16 := hT.atp 256 16 0 40 rfl
  have tb10 := hT.atp 256 10 0 10 rfl
  have tb6 := hT.atp 169 6 0 200 rfl
  refine YC.mkB [some (.ref 169), some (yI k), some (yI x), none, none] kn190 rfl rfl ?_
  have hF : Fr wMx m m := Fr.rf
  refine y_aload 1 c190_0 rfl rfl rfl ?_
  refine y_getS 4 (B := 256) c190_1 rfl kf169_4 (by first | rfl | (rw [show m 169 4 = 0 from by have e : m 169 4 = m 169 4 := rfl; omega]; rfl)) ?_
  refine y_getR 7 c190_4 rfl kf256_6 ?_
  refine y_iload 8 c190_7 rfl rfl ?_
  refine y_aaload 9 c190_8 rfl kr263 (by omega) ?_
  refine y_astore 10 c190_9 rfl rfl rfl ?_
  refine y_iconst 11 c190_10 rfl ?_
  refine y_istore 13 c190_11 rfl rfl ?_
  exact t190a_256 hT hp hS hkc hx hb hB h3 h11 201 0 m (by omega) (by omega) hT Fr.rf (by omega)
set_option maxRecDepth 100000 in
theorem t193_256 {L : Nat} {xs : Nat → Int32} {d nn : Nat} {m : yM} {k x : Int} (hT : Ty gT m) (hp : m 169 4 = 0) {b : Int} (hS : PS 256 m) (hkc : 0 ≤ k ∧ k < m 256 16) (hx : 0 ≤ x ∧ x ≤ 3) (hb : b ≤ m 169 6) (hB : BR256 L xs (d + 2) b) (h4 : m (276 + k.toNat) 0 = 4) : YC (gZ L xs) (d + 3) 193 [.ref 169, .ref (276 + k.toNat), yI x] m nn (qTU nn m (fun m' => m 169 6 ≤ m' 169 6)) := by
  have tb16 := hT.atp 256 16 0 40 rfl
  have tb10 := hT.atp 256 10 0 10 rfl
  have tb6 := hT.atp 169 6 0 200 rfl
  have hsv : SV 276 m k.toNat := (hS.1.1 k.toNat (by omega) (by omega)).1
  unfold SV at hsv
  obtain ⟨s1, s2, s3, s4, s5⟩ := hsv
  have hen : m (276 + k.toNat) 12 ≤ m 256 16 ∧ ((m (276 + k.toNat) 0 = 0 ∨ m (276 + k.toNat) 0 = 1) → m (276 + k.toNat) 11 ≤ m 256 16) := hS.2.1 k.toNat (by omega) (by omega)
  have hnl : (m (276 + k.toNat) 0 = 3 ∨ m (276 + k.toNat) 0 = 9) → m (276 + k.toNat) 6 ≤ 7 := hS.2.2.1 k.toNat (by omega) (by omega)
  have hM : MP 266 m := hS.2.2.2.1
  refine YC.mkB [some (.ref 169), some (.ref (276 + k.toNat)), some (yI x), none, none, none, none, none] kn193 rfl rfl ?_
  have hF : Fr wMx m m := Fr.rf
  refine y_aload 1 c193_0 rfl rfl rfl ?_
  refine y_getR 4 c193_1 rfl kf169_3 ?_
  refine y_iload 5 c193_4 rfl rfl ?_
  refine y_aaload 6 c193_5 rfl kr251 (by omega) ?_
  refine y_astore 7 c193_6 rfl rfl rfl ?_
  refine y_aload 8 c193_7 rfl rfl rfl ?_
  refine y_aload 9 c193_8 rfl rfl rfl ?_
  refine y_getX 12 (m (276 + k.toNat) 3) c193_9 rfl (ff276_3 (by omega)) rfl ?_
  have tb4881 := hT.atp (276 + k.toNat) 3 ((-1)) 47 (ft276_3 (by omega))
  refine y_iaT 13 ((-1)) 29 c193_12 rfl (fa252 (by omega)) (by omega) hT (fz252 (by omega)) (fun v4882 hv4882 gv4882 => ?_)
  refine y_istore 15 c193_13 rfl rfl ?_
  refine y_aload 16 c193_15 rfl rfl rfl ?_
  refine y_getS 19 (B := 256) c193_16 rfl kf169_4 (by first | rfl | (rw [show m 169 4 = 0 from by have e : m 169 4 = m 169 4 := rfl; omega]; rfl)) ?_
  refine y_aload 20 c193_19 rfl rfl rfl ?_
  refine y_iload 22 c193_20 rfl rfl ?_
  have tb4884 := hT.atp 169 4 ((-1)) 1 rfl
  have tb4885 := hT.atp 169 6 0 200 rfl
  refine y_mI 25 [.ref 169, yI v4882] [.ref 256] c193_22 rfl rfl rfl rfl rfl (ycanO km191 ko169) kg193 qOut.U hF (t191_256 hT (by omega) (by omega)) (fun rq4883 mq4883 hTq4883 hFq4883 hq4883 => ?_)
  obtain ⟨hq4883, hmq4883⟩ := hq4883
  obtain rfl := hmq4883.symm
  refine y_aload 26 c193_25 rfl rfl rfl ?_
  refine y_getX 29 (m (276 + k.toNat) 4) c193_26 rfl (ff276_4 (by omega)) rfl ?_
  have tb4886 := hT.atp (276 + k.toNat) 4 ((-2147483648)) 2147483647 (ft276_4 (by omega))
  refine y_aload 30 c193_29 rfl rfl rfl ?_
  refine y_getX 33 (m (276 + k.toNat) 8) c193_30 rfl (ff276_8 (by omega)) rfl ?_
  have tb4887 := hT.atp (276 + k.toNat) 8 0 2 (ft276_8 (by omega))
  have tb4889 := hT.atp 256 10 0 10 rfl
  refine y_callP 36 [.ref 256, yI rq4883, yI (m (276 + k.toNat) 4), yI (m (276 + k.toNat) 8)] [] c193_33 rfl rfl rfl rfl rfl (ycanO km72 ko256) (t72_256 hT (by omega) (by omega) (by omega)) (fun r4888 hr4888 => ?_)
  refine y_istore 38 c193_36 rfl rfl ?_
  refine y_iload 40 c193_38 rfl rfl ?_
  refine y_iconst 41 c193_40 rfl ?_
  refine y_icmp 52 44 c193_41 rfl rfl (yc_ne (by omega) (by omega)) (fun hb4890 => ?_) (fun hb4890 => ?_)
  · have hes : m (266 + r4888.toNat) 5 ≤ m 256 16 := hS.2.2.2.2.1 r4888.toNat (by omega)
    have hm3 := hr4888.2.2 (by omega)
    refine y_aload 53 c193_52 rfl rfl rfl ?_
    refine y_getS 56 (B := 256) c193_53 rfl kf169_4 (by first | rfl | (rw [show m 169 4 = 0 from by have e : m 169 4 = m 169 4 := rfl; omega]; rfl)) ?_
    refine y_getR 59 c193_56 rfl kf256_5 ?_
    refine y_iload 61 c193_59 rfl rfl ?_
    refine y_aaload 62 c193_61 rfl kr262 (by omega) ?_
    refine y_astore 64 c193_62 rfl rfl rfl ?_
    refine y_aload 65 c193_64 rfl rfl rfl ?_
    refine y_iload 66 c193_65 rfl rfl ?_
    refine y_iconst 67 c193_66 rfl ?_
    refine y_iadd 68 c193_67 rfl ?_
    refine y_mA 71 [.ref 169, yI (x + 1)] [] c193_68 rfl rfl rfl rfl rfl (ycanO km187 ko169) kg193 qOut.U hF (t187 hT (by omega)) (fun rq4891 mq4891 hTq4891 hFq4891 hq4891 => ?_)
    have hF4892 := hF.tr' hFq4891
    obtain ⟨rfl, hq4891⟩ := hq4891
    refine y_astore 73 c193_71 rfl rfl rfl ?_
    refine y_aload 74 c193_73 rfl rfl rfl ?_
    refine y_aload 76 c193_74 rfl rfl rfl ?_
    refine y_aload 78 c193_76 rfl rfl rfl ?_
    refine y_callP 81 [.ref (266 + r4888.toNat)] [.ref (252 + (x + 1).toNat), .ref 169] c193_78 rfl rfl rfl rfl rfl (ycanO km57 (fo266 (by omega))) (t57_256 hTq4891 (by omega)) (fun r4893 hr4893 => ?_)
    refine y_iload 83 c193_81 rfl rfl ?_
    have tb4895 := hTq4891.atp 169 6 0 200 rfl
    refine y_callUB 86 [.ref 169, .ref (252 + (x + 1).toNat), yI r4893, yI v4882] [] c193_83 rfl rfl rfl rfl rfl (ycanO km188 ko169) (t188 hTq4891 (by omega) (by omega) (by omega)) (fun mq4894 nq4894 hq4894 => ?_)
    obtain ⟨rfl, hTq4894, hFq4894, hq4894⟩ := hq4894
    have hF4896 := hF4892.tr hFq4894 (fun _ _ e => e)
    refine y_aload 87 c193_86 rfl rfl rfl ?_
    refine y_getX 90 (m (276 + k.toNat) 8) c193_87 rfl (ff276_8 (by omega)) ((hFq4894 (276 + k.toNat) 8 (wMx_h (by omega))).trans (hFq4891 (276 + k.toNat) 8 (wMx_h (by omega)))) ?_
    refine y_if 111 93 c193_90 rfl rfl (yz_le (by omega)) (fun hb4897 => ?_) (fun hb4897 => ?_)
    · refine y_aload 112 c193_111 rfl rfl rfl ?_
      refine y_getX 115 (m (276 + k.toNat) 8) c193_112 rfl (ff276_8 (by omega)) ((hFq4894 (276 + k.toNat) 8 (wMx_h (by omega))).trans (hFq4891 (276 + k.toNat) 8 (wMx_h (by omega)))) ?_
      refine y_iconst 116 c193_115 rfl ?_
      refine y_icmp 137 119 c193_116 rfl rfl (yc_le (by omega) (by omega)) (fun hb4898 => ?_) (fun hb4898 => ?_)
      · refine y_aload 138 c193_137 rfl rfl rfl ?_
        refine y_aload 140 c193_138 rfl rfl rfl ?_
        refine y_getX 143 (m (266 + r4888.toNat) 4) c193_140 rfl (ff266_4 (by omega)) ((hFq4894 (266 + r4888.toNat) 4 (wMx_h (by omega))).trans (hFq4891 (266 + r4888.toNat) 4 (wMx_h (by omega)))) ?_
        have tb4899 := hT.atp (266 + r4888.toNat) 4 0 40 (ft266_4 (by omega))
        refine y_aload 145 c193_143 rfl rfl rfl ?_
        refine y_getX 148 (m (266 + r4888.toNat) 5) c193_145 rfl (ff266_5 (by omega)) ((hFq4894 (266 + r4888.toNat) 5 (wMx_h (by omega))).trans (hFq4891 (266 + r4888.toNat) 5 (wMx_h (by omega)))) ?_
        have tb4900 := hT.atp (266 + r4888.toNat) 5 0 40 (ft266_5 (by omega))
        refine y_iload 149 c193_148 rfl rfl ?_
        refine y_iconst 150 c193_149 rfl ?_
        refine y_iadd 151 c193_150 rfl ?_
        have es4902 : mq4894 169 4 = m 169 4 := ((hFq4894 169 4 rfl).trans (hFq4891 169 4 rfl))
        have tb4903 := hTq4894.atp 169 6 0 200 rfl
        have es4904 : mq4894 256 16 = m 256 16 := ((hFq4894 256 16 rfl).trans (hFq4891 256 16 rfl))
        have tb4905 := hT.atp 256 16 0 40 rfl
        have es4906 : mq4894 256 10 = m 256 10 := ((hFq4894 256 10 rfl).trans (hFq4891 256 10 rfl))
        refine y_mI 154 [.ref 169, yI (m (266 + r4888.toNat) 4), yI (m (266 + r4888.toNat) 5), yI (x + 1)] [] c193_151 rfl rfl rfl rfl rfl (ycanO km197 ko169) kg193 qOut.U hF4896 (hB _ _ _ _ _ _ (by omega) hTq4894 (by omega) (hS.fr (by omega) (by omega) (fun k q _ => hF4896 _ _ (wMx_h (by omega)))) (by omega) (by omega) (by omega) (by omega)) (fun rq4901 mq4901 hTq4901 hFq4901 hq4901 => ?_)
        have hF4907 := hF4896.tr' hFq4901
        refine y_pop 155 c193_154 rfl rfl ?_
        refine y_aload 156 c193_155 rfl rfl rfl ?_
        refine y_getX 159 (m (276 + k.toNat) 2) c193_156 rfl (ff276_2 (by omega)) ((hFq4901 (276 + k.toNat) 2 (wMx_h (by omega))).trans ((hFq4894 (276 + k.toNat) 2 (wMx_h (by omega))).trans (hFq4891 (276 + k.toNat) 2 (wMx_h (by omega))))) ?_
        have tb4908 := hT.atp (276 + k.toNat) 2 ((-1)) 47 (ft276_2 (by omega))
        refine y_iconst 160 c193_159 rfl ?_
        refine y_icmp 180 163 c193_160 rfl rfl (yc_eq (by omega) (by omega)) (fun hb4909 => ?_) (fun hb4909 => ?_)
        · have tb4910 := hTq4901.atp 169 6 0 200 rfl
          exact y_mRU c193_180 hTq4901 hF4907 (by omega)
        · refine y_aload 164 c193_163 rfl rfl rfl ?_
          refine y_aload 165 c193_164 rfl rfl rfl ?_
          refine y_aload 166 c193_165 rfl rfl rfl ?_
          refine y_getX 169 (m (276 + k.toNat) 2) c193_166 rfl (ff276_2 (by omega)) ((hFq4901 (276 + k.toNat) 2 (wMx_h (by omega))).trans ((hFq4894 (276 + k.toNat) 2 (wMx_h (by omega))).trans (hFq4891 (276 + k.toNat) 2 (wMx_h (by omega))))) ?_
          refine y_aload 171 c193_169 rfl rfl rfl ?_
          refine y_aload 173 c193_171 rfl rfl rfl ?_
          refine y_getX 176 (m (266 + r4888.toNat) 2) c193_173 rfl (ff266_2 (by omega)) ((hFq4901 (266 + r4888.toNat) 2 (wMx_h (by omega))).trans ((hFq4894 (266 + r4888.toNat) 2 (wMx_h (by omega))).trans (hFq4891 (266 + r4888.toNat) 2 (wMx_h (by omega))))) ?_
          have tb4911 := hT.atp (266 + r4888.toNat) 2 0 46 (ft266_2 (by omega))
          refine y_iaT 177 ((-1)) 29 c193_176 rfl (fa252 (by omega)) (by omega) hTq4901 (fz252 (by omega)) (fun v4912 hv4912 gv4912 => ?_)
          have tb4914 := hTq4901.atp 169 6 0 200 rfl
          refine y_callUB 180 [.ref 169, .ref (252 + x.toNat), yI (m (276 + k.toNat) 2), yI v4912] [] c193_177 rfl rfl rfl rfl rfl (ycanO km188 ko169) (t188 hTq4901 (by omega) (by omega) (by omega)) (fun mq4913 nq4913 hq4913 => ?_)
          obtain ⟨rfl, hTq4913, hFq4913, hq4913⟩ := hq4913
          have hF4915 := hF4907.tr hFq4913 (fun _ _ e => e)
          have tb4916 := hTq4913.atp 169 6 0 200 rfl
          exact y_mRU c193_180 hTq4913 hF4915 (by omega)
      · exfalso; omega
    · refine y_aload 94 c193_93 rfl rfl rfl ?_
      refine y_aload 96 c193_94 rfl rfl rfl ?_
      refine y_aload 98 c193_96 rfl rfl rfl ?_
      refine y_iconst 99 c193_98 rfl ?_
      have es4918 : mq4894 (266 + r4888.toNat) 3 = m (266 + r4888.toNat) 3 := ((hFq4894 (266 + r4888.toNat) 3 (wMx_h (by omega))).trans (hFq4891 (266 + r4888.toNat) 3 (wMx_h (by omega))))
      have tb4919 := hT.atp (266 + r4888.toNat) 3 0 2 (ft266_3 (by omega))
      refine y_callP 102 [.ref (266 + r4888.toNat), yI 0] [.ref (252 + (x + 1).toNat), .ref 169] c193_99 rfl rfl rfl rfl rfl (ycanO km87 (fo266 (by omega))) (t87_256 hTq4894 (by omega) (by omega) (hM.fr (fun k hk => hF4896 _ _ (wMx_h (by omega))) (fun k hk => hF4896 _ _ (wMx_h (by omega))))) (fun r4917 hr4917 => ?_)
      refine y_aload 103 c193_102 rfl rfl rfl ?_
      refine y_aload 104 c193_103 rfl rfl rfl ?_
      refine y_getX 107 (m (276 + k.toNat) 9) c193_104 rfl (ff276_9 (by omega)) ((hFq4894 (276 + k.toNat) 9 (wMx_h (by omega))).trans (hFq4891 (276 + k.toNat) 9 (wMx_h (by omega)))) ?_
      have tb4920 := hT.atp (276 + k.toNat) 9 ((-1)) 47 (ft276_9 (by omega))
      refine y_iaT 108 ((-1)) 29 c193_107 rfl (fa252 (by omega)) (by omega) hTq4894 (fz252 (by omega)) (fun v4921 hv4921 gv4921 => ?_)
      have tb4923 := hTq4894.atp 169 6 0 200 rfl
      refine y_callUB 111 [.ref 169, .ref (252 + (x + 1).toNat), yI r4917, yI v4921] [] c193_108 rfl rfl rfl rfl rfl (ycanO km188 ko169) (t188 hTq4894 (by omega) (by omega) (by omega)) (fun mq4922 nq4922 hq4922 => ?_)
      obtain ⟨rfl, hTq4922, hFq4922, hq4922⟩ := hq4922
      have hF4924 := hF4896.tr hFq4922 (fun _ _ e => e)
      refine y_aload 112 c193_111 rfl rfl rfl ?_
      refine y_getX 115 (m (276 + k.toNat) 8) c193_112 rfl (ff276_8 (by omega)) ((hFq4922 (276 + k.toNat) 8 (wMx_h (by omega))).trans ((hFq4894 (276 + k.toNat) 8 (wMx_h (by omega))).trans (hFq4891 (276 + k.toNat) 8 (wMx_h (by omega))))) ?_
      refine y_iconst 116 c193_115 rfl ?_
      refine y_icmp 137 119 c193_116 rfl rfl (yc_le (by omega) (by omega)) (fun hb4925 => ?_) (fun hb4925 => ?_)
      · refine y_aload 138 c193_137 rfl rfl rfl ?_
        refine y_aload 140 c193_138 rfl rfl rfl ?_
        refine y_getX 143 (m (266 + r4888.toNat) 4) c193_140 rfl (ff266_4 (by omega)) ((hFq4922 (266 + r4888.toNat) 4 (wMx_h (by omega))).trans ((hFq4894 (266 + r4888.toNat) 4 (wMx_h (by omega))).trans (hFq4891 (266 + r4888.toNat) 4 (wMx_h (by omega))))) ?_
        have tb4926 := hT.atp (266 + r4888.toNat) 4 0 40 (ft266_4 (by omega))
        refine y_aload 145 c193_143 rfl rfl rfl ?_
        refine y_getX 148 (m (266 + r4888.toNat) 5) c193_145 rfl (ff266_5 (by omega)) ((hFq4922 (266 + r4888.toNat) 5 (wMx_h (by omega))).trans ((hFq4894 (266 + r4888.toNat) 5 (wMx_h (by omega))).trans (hFq4891 (266 + r4888.toNat) 5 (wMx_h (by omega))))) ?_
        have tb4927 := hT.atp (266 + r4888.toNat) 5 0 40 (ft266_5 (by omega))
        refine y_iload 149 c193_148 rfl rfl ?_
        refine y_iconst 150 c193_149 rfl ?_
        refine y_iadd 151 c193_150 rfl ?_
        have es4929 : mq4922 169 4 = m 169 4 := ((hFq4922 169 4 rfl).trans ((hFq4894 169 4 rfl).trans (hFq4891 169 4 rfl)))
        have tb4930 := hTq4922.atp 169 6 0 200 rfl
        have es4931 : mq4922 256 16 = m 256 16 := ((hFq4922 256 16 rfl).trans ((hFq4894 256 16 rfl).trans (hFq4891 256 16 rfl)))
        have tb4932 := hT.atp 256 16 0 40 rfl
        have es4933 : mq4922 256 10 = m 256 10 := ((hFq4922 256 10 rfl).trans ((hFq4894 256 10 rfl).trans (hFq4891 256 10 rfl)))
        refine y_mI 154 [.ref 169, yI (m (266 + r4888.toNat) 4), yI (m (266 + r4888.toNat) 5), yI (x + 1)] [] c193_151 rfl rfl rfl rfl rfl (ycanO km197 ko169) kg193 qOut.U hF4924 (hB _ _ _ _ _ _ (by omega) hTq4922 (by omega) (hS.fr (by omega) (by omega) (fun k q _ => hF4924 _ _ (wMx_h (by omega)))) (by omega) (by omega) (by omega) (by omega)) (fun rq4928 mq4928 hTq4928 hFq4928 hq4928 => ?_)
        have hF4934 := hF4924.tr' hFq4928
        refine y_pop 155 c193_154 rfl rfl ?_
        refine y_aload 156 c193_155 rfl rfl rfl ?_
        refine y_getX 159 (m (276 + k.toNat) 2) c193_156 rfl (ff276_2 (by omega)) ((hFq4928 (276 + k.toNat) 2 (wMx_h (by omega))).trans ((hFq4922 (276 + k.toNat) 2 (wMx_h (by omega))).trans ((hFq4894 (276 + k.toNat) 2 (wMx_h (by omega))).trans (hFq4891 (276 + k.toNat) 2 (wMx_h (by omega)))))) ?_
        have tb4935 := hT.atp (276 + k.toNat) 2 ((-1)) 47 (ft276_2 (by omega))
        refine y_iconst 160 c193_159 rfl ?_
        refine y_icmp 180 163 c193_160 rfl rfl (yc_eq (by omega) (by omega)) (fun hb4936 => ?_) (fun hb4936 => ?_)
        · have tb4937 := hTq4928.atp 169 6 0 200 rfl
          exact y_mRU c193_180 hTq4928 hF4934 (by omega)
        · refine y_aload 164 c193_163 rfl rfl rfl ?_
          refine y_aload 165 c193_164 rfl rfl rfl ?_
          refine y_aload 166 c193_165 rfl rfl rfl ?_
          refine y_getX 169 (m (276 + k.toNat) 2) c193_166 rfl (ff276_2 (by omega)) ((hFq4928 (276 + k.toNat) 2 (wMx_h (by omega))).trans ((hFq4922 (276 + k.toNat) 2 (wMx_h (by omega))).trans ((hFq4894 (276 + k.toNat) 2 (wMx_h (by omega))).trans (hFq4891 (276 + k.toNat) 2 (wMx_h (by omega)))))) ?_
          refine y_aload 171 c193_169 rfl rfl rfl ?_
          refine y_aload 173 c193_171 rfl rfl rfl ?_
          refine y_getX 176 (m (266 + r4888.toNat) 2) c193_173 rfl (ff266_2 (by omega)) ((hFq4928 (266 + r4888.toNat) 2 (wMx_h (by omega))).trans ((hFq4922 (266 + r4888.toNat) 2 (wMx_h (by omega))).trans ((hFq4894 (266 + r4888.toNat) 2 (wMx_h (by omega))).trans (hFq4891 (266 + r4888.toNat) 2 (wMx_h (by omega)))))) ?_
          have tb4938 := hT.atp (266 + r4888.toNat) 2 0 46 (ft266_2 (by omega))
          refine y_iaT 177 ((-1)) 29 c193_176 rfl (fa252 (by omega)) (by omega) hTq4928 (fz252 (by omega)) (fun v4939 hv4939 gv4939 => ?_)
          have tb4941 := hTq4928.atp 169 6 0 200 rfl
          refine y_callUB 180 [.ref 169, .ref (252 + x.toNat), yI (m (276 + k.toNat) 2), yI v4939] [] c193_177 rfl rfl rfl rfl rfl (ycanO km188 ko169) (t188 hTq4928 (by omega) (by omega) (by omega)) (fun mq4940 nq4940 hq4940 => ?_)
          obtain ⟨rfl, hTq4940, hFq4940, hq4940⟩ := hq4940
          have hF4942 := hF4934.tr hFq4940 (fun _ _ e => e)
          have tb4943 := hTq4940.atp 169 6 0 200 rfl
          exact y_mRU c193_180 hTq4940 hF4942 (by omega)
      · refine y_aload 120 c193_119 rfl rfl rfl ?_
        refine y_aload 122 c193_120 rfl rfl rfl ?_
        refine y_aload 124 c193_122 rfl rfl rfl ?_
        refine y_iconst 125 c193_124 rfl ?_
        have es4945 : mq4922 (266 + r4888.toNat) 3 = m (266 + r4888.toNat) 3 := ((hFq4922 (266 + r4888.toNat) 3 (wMx_h (by omega))).trans ((hFq4894 (266 + r4888.toNat) 3 (wMx_h (by omega))).trans (hFq4891 (266 + r4888.toNat) 3 (wMx_h (by omega)))))
        refine y_callP 128 [.ref (266 + r4888.toNat), yI 1] [.ref (252 + (x + 1).toNat), .ref 169] c193_125 rfl rfl rfl rfl rfl (ycanO km87 (fo266 (by omega))) (t87_256 hTq4922 (by omega) (by omega) (hM.fr (fun k hk => hF4924 _ _ (wMx_h (by omega))) (fun k hk => hF4924 _ _ (wMx_h (by omega))))) (fun r4944 hr4944 => ?_)
        refine y_aload 129 c193_128 rfl rfl rfl ?_
        refine y_aload 130 c193_129 rfl rfl rfl ?_
        refine y_getX 133 (m (276 + k.toNat) 10) c193_130 rfl (ff276_10 (by omega)) ((hFq4922 (276 + k.toNat) 10 (wMx_h (by omega))).trans ((hFq4894 (276 + k.toNat) 10 (wMx_h (by omega))).trans (hFq4891 (276 + k.toNat) 10 (wMx_h (by omega))))) ?_
        have tb4946 := hT.atp (276 + k.toNat) 10 ((-1)) 47 (ft276_10 (by omega))
        refine y_iaT 134 ((-1)) 29 c193_133 rfl (fa252 (by omega)) (by omega) hTq4922 (fz252 (by omega)) (fun v4947 hv4947 gv4947 => ?_)
        have tb4949 := hTq4922.atp 169 6 0 200 rfl
        refine y_callUB 137 [.ref 169, .ref (252 + (x + 1).toNat), yI r4944, yI v4947] [] c193_134 rfl rfl rfl rfl rfl (ycanO km188 ko169) (t188 hTq4922 (by omega) (by omega) (by omega)) (fun mq4948 nq4948 hq4948 => ?_)
        obtain ⟨rfl, hTq4948, hFq4948, hq4948⟩ := hq4948
        have hF4950 := hF4924.tr hFq4948 (fun _ _ e => e)
        refine y_aload 138 c193_137 rfl rfl rfl ?_
        refine y_aload 140 c193_138 rfl rfl rfl ?_
        refine y_getX 143 (m (266 + r4888.toNat) 4) c193_140 rfl (ff266_4 (by omega)) ((hFq4948 (266 + r4888.toNat) 4 (wMx_h (by omega))).trans ((hFq4922 (266 + r4888.toNat) 4 (wMx_h (by omega))).trans ((hFq4894 (266 + r4888.toNat) 4 (wMx_h (by omega))).trans (hFq4891 (266 + r4888.toNat) 4 (wMx_h (by omega)))))) ?_
        have tb4951 := hT.atp (266 + r4888.toNat) 4 0 40 (ft266_4 (by omega))
        refine y_aload 145 c193_143 rfl rfl rfl ?_
        refine y_getX 148 (m (266 + r4888.toNat) 5) c193_145 rfl (ff266_5 (by omega)) ((hFq4948 (266 + r4888.toNat) 5 (wMx_h (by omega))).trans ((hFq4922 (266 + r4888.toNat) 5 (wMx_h (by omega))).trans ((hFq4894 (266 + r4888.toNat) 5 (wMx_h (by omega))).trans (hFq4891 (266 + r4888.toNat) 5 (wMx_h (by omega)))))) ?_
        have tb4952 := hT.atp (266 + r4888.toNat) 5 0 40 (ft266_5 (by omega))
        refine y_iload 149 c193_148 rfl rfl ?_
        refine y_iconst 150 c193_149 rfl ?_
        refine y_iadd 151 c193_150 rfl ?_
        have es4954 : mq4948 169 4 = m 169 4 := ((hFq4948 169 4 rfl).trans ((hFq4922 169 4 rfl).trans ((hFq4894 169 4 rfl).trans (hFq4891 169 4 rfl))))
        have tb4955 := hTq4948.atp 169 6 0 200 rfl
        have es4956 : mq4948 256 16 = m 256 16 := ((hFq4948 256 16 rfl).trans ((hFq4922 256 16 rfl).trans ((hFq4894 256 16 rfl).trans (hFq4891 256 16 rfl))))
        have tb4957 := hT.atp 256 16 0 40 rfl
        have es4958 : mq4948 256 10 = m 256 10 := ((hFq4948 256 10 rfl).trans ((hFq4922 256 10 rfl).trans ((hFq4894 256 10 rfl).trans (hFq4891 256 10 rfl))))
        refine y_mI 154 [.ref 169, yI (m (266 + r4888.toNat) 4), yI (m (266 + r4888.toNat) 5), yI (x + 1)] [] c193_151 rfl rfl rfl rfl rfl (ycanO km197 ko169) kg193 qOut.U hF4950 (hB _ _ _ _ _ _ (by omega) hTq4948 (by omega) (hS.fr (by omega) (by omega) (fun k q _ => hF4950 _ _ (wMx_h (by omega)))) (by omega) (by omega) (by omega) (by omega)) (fun rq4953 mq4953 hTq4953 hFq4953 hq4953 => ?_)
        have hF4959 := hF4950.tr' hFq4953
        refine y_pop 155 c193_154 rfl rfl ?_
        refine y_aload 156 c193_155 rfl rfl rfl ?_
        refine y_getX 159 (m (276 + k.toNat) 2) c193_156 rfl (ff276_2 (by omega)) ((hFq4953 (276 + k.toNat) 2 (wMx_h (by omega))).trans ((hFq4948 (276 + k.toNat) 2 (wMx_h (by omega))).trans ((hFq4922 (276 + k.toNat) 2 (wMx_h (by omega))).trans ((hFq4894 (276 + k.toNat) 2 (wMx_h (by omega))).trans (hFq4891 (276 + k.toNat) 2 (wMx_h (by omega))))))) ?_
        have tb4960 := hT.atp (276 + k.toNat) 2 ((-1)) 47 (ft276_2 (by omega))
        refine y_iconst 160 c193_159 rfl ?_
        refine y_icmp 180 163 c193_160 rfl rfl (yc_eq (by omega) (by omega)) (fun hb4961 => ?_) (fun hb4961 => ?_)
        · have tb4962 := hTq4953.atp 169 6 0 200 rfl
          exact y_mRU c193_180 hTq4953 hF4959 (by omega)
        · refine y_aload 164 c193_163 rfl rfl rfl ?_
          refine y_aload 165 c193_164 rfl rfl rfl ?_
          refine y_aload 166 c193_165 rfl rfl rfl ?_
          refine y_getX 169 (m (276 + k.toNat) 2) c193_166 rfl (ff276_2 (by omega)) ((hFq4953 (276 + k.toNat) 2 (wMx_h (by omega))).trans ((hFq4948 (276 + k.toNat) 2 (wMx_h (by omega))).trans ((hFq4922 (276 + k.toNat) 2 (wMx_h (by omega))).trans ((hFq4894 (276 + k.toNat) 2 (wMx_h (by omega))).trans (hFq4891 (276 + k.toNat) 2 (wMx_h (by omega))))))) ?_
          refine y_aload 171 c193_169 rfl rfl rfl ?_
          refine y_aload 173 c193_171 rfl rfl rfl ?_
          refine y_getX 176 (m (266 + r4888.toNat) 2) c193_173 rfl (ff266_2 (by omega)) ((hFq4953 (266 + r4888.toNat) 2 (wMx_h (by omega))).trans ((hFq4948 (266 + r4888.toNat) 2 (wMx_h (by omega))).trans ((hFq4922 (266 + r4888.toNat) 2 (wMx_h (by omega))).trans ((hFq4894 (266 + r4888.toNat) 2 (wMx_h (by omega))).trans (hFq4891 (266 + r4888.toNat) 2 (wMx_h (by omega))))))) ?_
          have tb4963 := hT.atp (266 + r4888.toNat) 2 0 46 (ft266_2 (by omega))
          refine y_iaT 177 ((-1)) 29 c193_176 rfl (fa252 (by omega)) (by omega) hTq4953 (fz252 (by omega)) (fun v4964 hv4964 gv4964 => ?_)
          have tb4966 := hTq4953.atp 169 6 0 200 rfl
          refine y_callUB 180 [.ref 169, .ref (252 + x.toNat), yI (m (276 + k.toNat) 2), yI v4964] [] c193_177 rfl rfl rfl rfl rfl (ycanO km188 ko169) (t188 hTq4953 (by omega) (by omega) (by omega)) (fun mq4965 nq4965 hq4965 => ?_)
          obtain ⟨rfl, hTq4965, hFq4965, hq4965⟩ := hq4965
          have hF4967 := hF4959.tr hFq4965 (fun _ _ e => e)
          have tb4968 := hTq4965.atp 169 6 0 200 rfl
          exact y_mRU c193_180 hTq4965 hF4967 (by omega)
  · exact y_mThr c193_44 rfl hT hF (by decide) qOut.U
set_option maxRecDepth 100000 in
theorem t196_256 {L : Nat} {xs : Nat → Int32} {d nn : Nat} {m : yM} {k x : Int} (hT : Ty gT m) (hp : m 169 4 = 0) {b : Int} (hS : PS 256 m) (hkc : 0 ≤ k ∧ k < m 256 16) (hx : 0 ≤ x ∧ x ≤ 3) (hb : b ≤ m 169 6) (hB : BR256 L xs (d + 2) (b + 1)) : YC (gZ L xs) (d + 4) 196 [.ref 169, yI k, yI x] m nn (qTI nn m (fun r m' => (r = 0 ∨ r = 1) ∧ m 169 6 ≤ m' 169 6)) := by
  have tb16 := hT.atp 256 16 0 40 rfl
  have tb10 := hT.atp 256 10 0 10 rfl
  have tb6 := hT.atp 169 6 0 200 rfl
  have hsv : SV 276 m k.toNat := (hS.1.1 k.toNat (by omega) (by omega)).1
  unfold SV at hsv
  obtain ⟨s1, s2, s3, s4, s5⟩ := hsv
  have hen : m (276 + k.toNat) 12 ≤ m 256 16 ∧ ((m (276 + k.toNat) 0 = 0 ∨ m (276 + k.toNat) 0 = 1) → m (276 + k.toNat) 11 ≤ m 256 16) := hS.2.1 k.toNat (by omega) (by omega)
  have hnl : (m (276 + k.toNat) 0 = 3 ∨ m (276 + k.toNat) 0 = 9) → m (276 + k.toNat) 6 ≤ 7 := hS.2.2.1 k.toNat (by omega) (by omega)
  refine YC.mkB [some (.ref 169), some (yI k), some (yI x), none, none] kn196 rfl rfl ?_
  have hF : Fr wMx m m := Fr.rf
  refine y_aload 1 c196_0 rfl rfl rfl ?_
  have tb4970 := hT.atp 169 6 0 200 rfl
  refine y_mU 4 [.ref 169] [] c196_1 rfl rfl rfl rfl rfl (ycanO km189 ko169) kg196 qOut.I hF (t189 hT) (fun mq4969 hTq4969 hFq4969 hq4969 => ?_)
  have hF4971 := hF.tr' hFq4969
  refine y_aload 5 c196_4 rfl rfl rfl ?_
  refine y_getS 8 (B := 256) c196_5 rfl kf169_4 (by first | rfl | (rw [show mq4969 169 4 = 0 from by have e : mq4969 169 4 = m 169 4 := (hFq4969 169 4 rfl); omega]; rfl)) ?_
  refine y_getR 11 c196_8 rfl kf256_6 ?_
  refine y_iload 12 c196_11 rfl rfl ?_
  refine y_aaload 13 c196_12 rfl kr263 (by omega) ?_
  refine y_astore 14 c196_13 rfl rfl rfl ?_
  refine y_aload 15 c196_14 rfl rfl rfl ?_
  refine y_getR 18 c196_15 rfl kf169_3 ?_
  refine y_iload 19 c196_18 rfl rfl ?_
  refine y_aaload 20 c196_19 rfl kr251 (by omega) ?_
  refine y_astore 22 c196_20 rfl rfl rfl ?_
  refine y_aload 23 c196_22 rfl rfl rfl ?_
  refine y_getX 26 (m (276 + k.toNat) 0) c196_23 rfl (ff276_0 (by omega)) (hFq4969 (276 + k.toNat) 0 (wMx_h (by omega))) ?_
  have tb4972 := hT.atp (276 + k.toNat) 0 0 9 (ft276_0 (by omega))
  by_cases hk4973 : m (276 + k.toNat) 0 = 0
  · refine y_top 0 hk4973 ?_
    refine y_tsw 60 c196_26 (by decide) (by decide) rfl rfl ?_
    refine y_aload 62 c196_60 rfl rfl rfl ?_
    refine y_aload 63 c196_62 rfl rfl rfl ?_
    refine y_getX 66 (m (276 + k.toNat) 3) c196_63 rfl (ff276_3 (by omega)) (hFq4969 (276 + k.toNat) 3 (wMx_h (by omega))) ?_
    have tb4974 := hT.atp (276 + k.toNat) 3 ((-1)) 47 (ft276_3 (by omega))
    refine y_iaT 67 ((-1)) 29 c196_66 rfl (fa252 (by omega)) (by omega) hTq4969 (fz252 (by omega)) (fun v4975 hv4975 gv4975 => ?_)
    refine y_iconst 68 c196_67 rfl ?_
    refine y_icmp 86 71 c196_68 rfl rfl (yc_eq (by omega) (by omega)) (fun hb4976 => ?_) (fun hb4976 => ?_)
    · refine y_aload 87 c196_86 rfl rfl rfl ?_
      refine y_aload 88 c196_87 rfl rfl rfl ?_
      refine y_getX 91 (m (276 + k.toNat) 11) c196_88 rfl (ff276_11 (by omega)) (hFq4969 (276 + k.toNat) 11 (wMx_h (by omega))) ?_
      have tb4977 := hT.atp (276 + k.toNat) 11 0 40 (ft276_11 (by omega))
      refine y_aload 92 c196_91 rfl rfl rfl ?_
      refine y_getX 95 (m (276 + k.toNat) 12) c196_92 rfl (ff276_12 (by omega)) (hFq4969 (276 + k.toNat) 12 (wMx_h (by omega))) ?_
      have tb4978 := hT.atp (276 + k.toNat) 12 0 40 (ft276_12 (by omega))
      refine y_iload 96 c196_95 rfl rfl ?_
      have es4980 : mq4969 169 4 = m 169 4 := (hFq4969 169 4 rfl)
      have tb4981 := hT.atp 169 4 ((-1)) 1 rfl
      have tb4982 := hTq4969.atp 169 6 0 200 rfl
      have es4983 : mq4969 256 16 = m 256 16 := (hFq4969 256 16 rfl)
      have tb4984 := hT.atp 256 16 0 40 rfl
      have es4985 : mq4969 256 10 = m 256 10 := (hFq4969 256 10 rfl)
      have tb4986 := hT.atp 256 10 0 10 rfl
      refine y_mI 99 [.ref 169, yI (m (276 + k.toNat) 11), yI (m (276 + k.toNat) 12), yI x] [] c196_96 rfl rfl rfl rfl rfl (ycanO km197 ko169) kg196 qOut.I hF4971 (hB _ _ _ _ _ _ (by omega) hTq4969 (by omega) (hS.fr (by omega) (by omega) (fun k q _ => hF4971 _ _ (wMx_h (by omega)))) (by omega) (by omega) (by omega) (by omega)) (fun rq4979 mq4979 hTq4979 hFq4979 hq4979 => ?_)
      have hF4987 := hF4971.tr' hFq4979
      have tb4988 := hTq4979.atp 169 6 0 200 rfl
      exact y_mRI c196_99 (y_fit1 (by omega)) hTq4979 hF4987 (by omega)
    · refine y_aload 72 c196_71 rfl rfl rfl ?_
      refine y_iload 73 c196_72 rfl rfl ?_
      refine y_iconst 74 c196_73 rfl ?_
      refine y_iadd 75 c196_74 rfl ?_
      refine y_aload 76 c196_75 rfl rfl rfl ?_
      refine y_getX 79 (m (276 + k.toNat) 11) c196_76 rfl (ff276_11 (by omega)) (hFq4969 (276 + k.toNat) 11 (wMx_h (by omega))) ?_
      have tb4989 := hT.atp (276 + k.toNat) 11 0 40 (ft276_11 (by omega))
      refine y_iload 80 c196_79 rfl rfl ?_
      have es4991 : mq4969 169 4 = m 169 4 := (hFq4969 169 4 rfl)
      have tb4992 := hT.atp 169 4 ((-1)) 1 rfl
      have tb4993 := hTq4969.atp 169 6 0 200 rfl
      have es4994 : mq4969 256 16 = m 256 16 := (hFq4969 256 16 rfl)
      have tb4995 := hT.atp 256 16 0 40 rfl
      have es4996 : mq4969 256 10 = m 256 10 := (hFq4969 256 10 rfl)
      have tb4997 := hT.atp 256 10 0 10 rfl
      refine y_mI 83 [.ref 169, yI (k + 1), yI (m (276 + k.toNat) 11), yI x] [] c196_80 rfl rfl rfl rfl rfl (ycanO km197 ko169) kg196 qOut.I hF4971 (hB _ _ _ _ _ _ (by omega) hTq4969 (by omega) (hS.fr (by omega) (by omega) (fun k q _ => hF4971 _ _ (wMx_h (by omega)))) (by omega) (by omega) (by omega) (by omega)) (fun rq4990 mq4990 hTq4990 hFq4990 hq4990 => ?_)
      have hF4998 := hF4971.tr' hFq4990
      refine y_goto 99 c196_83 rfl ?_
      have tb4999 := hTq4990.atp 169 6 0 200 rfl
      exact y_mRI c196_99 (y_fit1 (by omega)) hTq4990 hF4998 (by omega)
  by_cases hk5000 : m (276 + k.toNat) 0 = 1
  · refine y_top 1 hk5000 ?_
    refine y_tsw 100 c196_26 (by decide) (by decide) rfl rfl ?_
    refine y_aload 101 c196_100 rfl rfl rfl ?_
    refine y_iload 102 c196_101 rfl rfl ?_
    refine y_iload 103 c196_102 rfl rfl ?_
    have es5002 : mq4969 169 4 = m 169 4 := (hFq4969 169 4 rfl)
    have tb5003 := hT.atp 169 4 ((-1)) 1 rfl
    have tb5004 := hTq4969.atp 169 6 0 200 rfl
    have es5005 : mq4969 256 16 = m 256 16 := (hFq4969 256 16 rfl)
    have tb5006 := hT.atp 256 16 0 40 rfl
    have es5007 : mq4969 256 10 = m 256 10 := (hFq4969 256 10 rfl)
    have tb5008 := hT.atp 256 10 0 10 rfl
    have es5009 : mq4969 (276 + k.toNat) 3 = m (276 + k.toNat) 3 := (hFq4969 (276 + k.toNat) 3 (wMx_h (by omega)))
    have tb5010 := hT.atp (276 + k.toNat) 3 ((-1)) 47 (ft276_3 (by omega))
    have es5011 : mq4969 (276 + k.toNat) 11 = m (276 + k.toNat) 11 := (hFq4969 (276 + k.toNat) 11 (wMx_h (by omega)))
    have tb5012 := hT.atp (276 + k.toNat) 11 0 40 (ft276_11 (by omega))
    refine y_mI 106 [.ref 169, yI k, yI x] [] c196_103 rfl rfl rfl rfl rfl (ycanO km190 ko169) kg196 qOut.I hF4971 (t190_256 (k := k) (b := b + 1) hTq4969 (by omega) (hS.fr (by omega) (by omega) (fun k q _ => hF4971 _ _ (wMx_h (by omega)))) (by omega) (by omega) (by omega) hB (by omega) (by omega)) (fun rq5001 mq5001 hTq5001 hFq5001 hq5001 => ?_)
    have hF5013 := hF4971.tr' hFq5001
    have tb5014 := hTq5001.atp 169 6 0 200 rfl
    exact y_mRI c196_106 (y_fit1 (by omega)) hTq5001 hF5013 (by omega)
  by_cases hk5015 : m (276 + k.toNat) 0 = 2
  · refine y_top 2 hk5015 ?_
    refine y_tsw 107 c196_26 (by decide) (by decide) rfl rfl ?_
    refine y_aload 108 c196_107 rfl rfl rfl ?_
    refine y_aload 110 c196_108 rfl rfl rfl ?_
    refine y_aload 111 c196_110 rfl rfl rfl ?_
    refine y_getX 114 (m (276 + k.toNat) 2) c196_111 rfl (ff276_2 (by omega)) (hFq4969 (276 + k.toNat) 2 (wMx_h (by omega))) ?_
    have tb5016 := hT.atp (276 + k.toNat) 2 ((-1)) 47 (ft276_2 (by omega))
    refine y_aload 116 c196_114 rfl rfl rfl ?_
    refine y_aload 117 c196_116 rfl rfl rfl ?_
    refine y_getX 120 (m (276 + k.toNat) 3) c196_117 rfl (ff276_3 (by omega)) (hFq4969 (276 + k.toNat) 3 (wMx_h (by omega))) ?_
    have tb5017 := hT.atp (276 + k.toNat) 3 ((-1)) 47 (ft276_3 (by omega))
    refine y_iaT 121 ((-1)) 29 c196_120 rfl (fa252 (by omega)) (by omega) hTq4969 (fz252 (by omega)) (fun v5018 hv5018 gv5018 => ?_)
    have tb5020 := hTq4969.atp 169 6 0 200 rfl
    refine y_callUB 124 [.ref 169, .ref (252 + x.toNat), yI (m (276 + k.toNat) 2), yI v5018] [] c196_121 rfl rfl rfl rfl rfl (ycanO km188 ko169) (t188 hTq4969 (by omega) (by omega) (by omega)) (fun mq5019 nq5019 hq5019 => ?_)
    obtain ⟨rfl, hTq5019, hFq5019, hq5019⟩ := hq5019
    have hF5021 := hF4971.tr hFq5019 (fun _ _ e => e)
    refine y_iconst 125 c196_124 rfl ?_
    have tb5022 := hTq5019.atp 169 6 0 200 rfl
    exact y_mRI c196_125 (y_fit1 (by omega)) hTq5019 hF5021 (by omega)
  by_cases hk5023 : m (276 + k.toNat) 0 = 3
  · refine y_top 3 hk5023 ?_
    refine y_tsw 126 c196_26 (by decide) (by decide) rfl rfl ?_
    refine y_aload 127 c196_126 rfl rfl rfl ?_
    refine y_getR 130 c196_127 rfl kf169_2 ?_
    refine y_aload 131 c196_130 rfl rfl rfl ?_
    refine y_aload 133 c196_131 rfl rfl rfl ?_
    refine y_aload 134 c196_133 rfl rfl rfl ?_
    refine y_getX 137 (m (276 + k.toNat) 2) c196_134 rfl (ff276_2 (by omega)) (hFq4969 (276 + k.toNat) 2 (wMx_h (by omega))) ?_
    have tb5024 := hT.atp (276 + k.toNat) 2 ((-1)) 47 (ft276_2 (by omega))
    refine y_iaT 138 ((-1)) 29 c196_137 rfl (fa252 (by omega)) (by omega) hTq4969 (fz252 (by omega)) (fun v5025 hv5025 gv5025 => ?_)
    refine y_aload 139 c196_138 rfl rfl rfl ?_
    refine y_getX 142 (m (276 + k.toNat) 6) c196_139 rfl (ff276_6 (by omega)) (hFq4969 (276 + k.toNat) 6 (wMx_h (by omega))) ?_
    have tb5026 := hT.atp (276 + k.toNat) 6 ((-1)) 11 (ft276_6 (by omega))
    have es5028 : mq4969 169 4 = m 169 4 := (hFq4969 169 4 rfl)
    have tb5029 := hT.atp 169 4 ((-1)) 1 rfl
    have tb5030 := hTq4969.atp 169 6 0 200 rfl
    refine y_mI 145 [.ref 169, yI v5025, yI (m (276 + k.toNat) 6)] [.ref 220] c196_142 rfl rfl rfl rfl rfl (ycanO km192 ko169) kg196 qOut.I hF4971 (t192_256 hTq4969 (by omega) (by omega) (by omega)) (fun rq5027 mq5027 hTq5027 hFq5027 hq5027 => ?_)
    obtain ⟨hq5027, hmq5027⟩ := hq5027
    obtain rfl := hmq5027.symm
    refine y_aaload 146 c196_145 rfl kr220 (by omega) ?_
    refine y_aload 147 c196_146 rfl rfl rfl ?_
    refine y_getX 150 (m (276 + k.toNat) 6) c196_147 rfl (ff276_6 (by omega)) (hFq4969 (276 + k.toNat) 6 (wMx_h (by omega))) ?_
    refine y_aload 152 c196_150 rfl rfl rfl ?_
    refine y_aload 153 c196_152 rfl rfl rfl ?_
    refine y_getX 156 (m (276 + k.toNat) 3) c196_153 rfl (ff276_3 (by omega)) (hFq4969 (276 + k.toNat) 3 (wMx_h (by omega))) ?_
    have tb5031 := hT.atp (276 + k.toNat) 3 ((-1)) 47 (ft276_3 (by omega))
    refine y_iaT 157 ((-1)) 29 c196_156 rfl (fa252 (by omega)) (by omega) hTq4969 (fz252 (by omega)) (fun v5032 hv5032 gv5032 => ?_)
    refine y_iastore 158 c196_157 rfl (fa221 (by omega)) (by omega) (y_nar0 _) ?_
    have hT5033 := hTq4969.up (221 + rq5027.toNat) ((m (276 + k.toNat) 6).toNat) v5032 ((-1)) 29 (fz221 (by omega)) (by omega)
    have hF5034 := hF4971.up (221 + rq5027.toNat) ((m (276 + k.toNat) 6).toNat) v5032 (wMx_r (by omega))
    refine y_iconst 159 c196_158 rfl ?_
    have es5035 : (yup mq4969 (221 + rq5027.toNat) ((m (276 + k.toNat) 6).toNat) v5032) 169 6 = mq4969 169 6 := (yup_na (by omega))
    exact y_mRI c196_159 (y_fit1 (by omega)) hT5033 hF5034 (by omega)
  by_cases hk5036 : m (276 + k.toNat) 0 = 4
  · refine y_top 4 hk5036 ?_
    refine y_tsw 160 c196_26 (by decide) (by decide) rfl rfl ?_
    refine y_aload 161 c196_160 rfl rfl rfl ?_
    refine y_aload 162 c196_161 rfl rfl rfl ?_
    refine y_iload 163 c196_162 rfl rfl ?_
    have es5038 : mq4969 169 4 = m 169 4 := (hFq4969 169 4 rfl)
    have tb5039 := hT.atp 169 4 ((-1)) 1 rfl
    have tb5040 := hTq4969.atp 169 6 0 200 rfl
    have es5041 : mq4969 256 16 = m 256 16 := (hFq4969 256 16 rfl)
    have tb5042 := hT.atp 256 16 0 40 rfl
    have es5043 : mq4969 256 10 = m 256 10 := (hFq4969 256 10 rfl)
    have tb5044 := hT.atp 256 10 0 10 rfl
    have es5045 : mq4969 (276 + k.toNat) 0 = m (276 + k.toNat) 0 := (hFq4969 (276 + k.toNat) 0 (wMx_h (by omega)))
    refine y_mU 166 [.ref 169, .ref (276 + k.toNat), yI x] [] c196_163 rfl rfl rfl rfl rfl (ycanO km193 ko169) kg196 qOut.I hF4971 (t193_256 (k := k) (b := b + 1) hTq4969 (by omega) (hS.fr (by omega) (by omega) (fun k q _ => hF4971 _ _ (wMx_h (by omega)))) (by omega) (by omega) (by omega) hB (by omega)) (fun mq5037 hTq5037 hFq5037 hq5037 => ?_)
    have hF5046 := hF4971.tr' hFq5037
    refine y_iconst 167 c196_166 rfl ?_
    have tb5047 := hTq5037.atp 169 6 0 200 rfl
    exact y_mRI c196_167 (y_fit1 (by omega)) hTq5037 hF5046 (by omega)
  refine y_tswd 168 c196_26 (by omega) (by omega) rfl ?_
  refine y_aload 169 c196_168 rfl rfl rfl ?_
  refine y_aload 171 c196_169 rfl rfl rfl ?_
  refine y_aload 172 c196_171 rfl rfl rfl ?_
  refine y_getX 175 (m (276 + k.toNat) 2) c196_172 rfl (ff276_2 (by omega)) (hFq4969 (276 + k.toNat) 2 (wMx_h (by omega))) ?_
  have tb5048 := hT.atp (276 + k.toNat) 2 ((-1)) 47 (ft276_2 (by omega))
  refine y_aload 176 c196_175 rfl rfl rfl ?_
  refine y_aload 177 c196_176 rfl rfl rfl ?_
  refine y_aload 179 c196_177 rfl rfl rfl ?_
  have es5050 : mq4969 169 4 = m 169 4 := (hFq4969 169 4 rfl)
  have tb5051 := hT.atp 169 4 ((-1)) 1 rfl
  have tb5052 := hTq4969.atp 169 6 0 200 rfl
  have es5053 : mq4969 256 16 = m 256 16 := (hFq4969 256 16 rfl)
  have tb5054 := hT.atp 256 16 0 40 rfl
  have es5055 : mq4969 256 10 = m 256 10 := (hFq4969 256 10 rfl)
  have tb5056 := hT.atp 256 10 0 10 rfl
  have es5057 : mq4969 (276 + k.toNat) 0 = m (276 + k.toNat) 0 := (hFq4969 (276 + k.toNat) 0 (wMx_h (by omega)))
  have es5058 : mq4969 (276 + k.toNat) 3 = m (276 + k.toNat) 3 := (hFq4969 (276 + k.toNat) 3 (wMx_h (by omega)))
  have tb5059 := hT.atp (276 + k.toNat) 3 ((-1)) 47 (ft276_3 (by omega))
  have es5060 : mq4969 (276 + k.toNat) 6 = m (276 + k.toNat) 6 := (hFq4969 (276 + k.toNat) 6 (wMx_h (by omega)))
  have tb5061 := hT.atp (276 + k.toNat) 6 ((-1)) 11 (ft276_6 (by omega))
  refine y_mI 182 [.ref 169, .ref (276 + k.toNat), .ref (252 + x.toNat)] [yI (m (276 + k.toNat) 2), .ref (252 + x.toNat), .ref 169] c196_179 rfl rfl rfl rfl rfl (ycanO km195 ko169) kg196 qOut.I hF4971 (t195_256 (k := k) hTq4969 (by omega) (by omega) (by omega) (by omega) (by omega) (by omega)) (fun rq5049 mq5049 hTq5049 hFq5049 hq5049 => ?_)
  have hF5062 := hF4971.tr' hFq5049
  have tb5064 := hTq5049.atp 169 6 0 200 rfl
  refine y_callUB 185 [.ref 169, .ref (252 + x.toNat), yI (m (276 + k.toNat) 2), yI rq5049] [] c196_182 rfl rfl rfl rfl rfl (ycanO km188 ko169) (t188 hTq5049 (by omega) (by omega) (by omega)) (fun mq5063 nq5063 hq5063 => ?_)
  obtain ⟨rfl, hTq5063, hFq5063, hq5063⟩ := hq5063
  have hF5065 := hF5062.tr hFq5063 (fun _ _ e => e)
  refine y_iconst 186 c196_185 rfl ?_
  have tb5066 := hTq5063.atp 169 6 0 200 rfl
  exact y_mRI c196_186 (y_fit1 (by omega)) hTq5063 hF5065 (by omega)
set_option maxRecDepth 100000 in
theorem t197a_256 {L : Nat} {xs : Nat → Int32} {d nn : Nat} {m : yM} {f e x b : Int} (hT : Ty gT m) (hp : m 169 4 = 0) (hS : PS 256 m) (hb : b ≤ m 169 6) (he : 0 ≤ e ∧ e ≤ m 256 16) (hx : 0 ≤ x ∧ x ≤ 3) (hB : BR256 L xs (d + 2) (b + 1)) : ∀ (km : Nat) (p : Int) (i : Int) (mi : yM), 40 - i = km → 0 ≤ p ∧ p ≤ 40 → 0 ≤ i ∧ i ≤ 40 → Ty gT mi → Fr wMx m mi → m 169 6 ≤ mi 169 6 → YW (gZ L xs) 197 (d + 5) 6 [some (.ref 169), some (yI f), some (yI e), some (yI x), some (yI p), some (yI i)] [] mi nn (qTI nn m (fun r m' => (r = 0 ∨ r = 1) ∧ m 169 6 ≤ m' 169 6)) := by
  intro km
  induction km using Nat.strongRecOn with
  | ind km ih =>
    intro p i mi hk hpp hi hTi hFi h6
    have tb16 := hT.atp 256 16 0 40 rfl
    have tb10 := hT.atp 256 10 0 10 rfl
    have tb6 := hT.atp 169 6 0 200 rfl
    refine y_iload 8 c197_6 rfl rfl ?_
    refine y_iconst 10 c197_8 rfl ?_
    refine y_icmp 52 13 c197_10 rfl rfl (yc_ge (by omega) (by omega)) (fun hb5067 => ?_) (fun hb5067 => ?_)
    · refine y_iconst 53 c197_52 rfl ?_
      have tb5068 := hTi.atp 169 6 0 200 rfl
      exact y_mRI c197_53 (y_fit1 (by omega)) hTi hFi (by omega)
    · refine y_iload 15 c197_13 rfl rfl ?_
      refine y_iload 16 c197_15 rfl rfl ?_
      refine y_icmp 52 19 c197_16 rfl rfl (yc_ge (by omega) (by omega)) (fun hb5069 => ?_) (fun hb5069 => ?_)
      · refine y_iconst 53 c197_52 rfl ?_
        have tb5070 := hTi.atp 169 6 0 200 rfl
        exact y_mRI c197_53 (y_fit1 (by omega)) hTi hFi (by omega)
      · refine y_aload 20 c197_19 rfl rfl rfl ?_
        refine y_iload 22 c197_20 rfl rfl ?_
        refine y_iload 23 c197_22 rfl rfl ?_
        have es5072 : mi 169 4 = m 169 4 := (hFi 169 4 rfl)
        have tb5073 := hT.atp 169 4 ((-1)) 1 rfl
        have tb5074 := hTi.atp 169 6 0 200 rfl
        have es5075 : mi 256 16 = m 256 16 := (hFi 256 16 rfl)
        have tb5076 := hT.atp 256 16 0 40 rfl
        have es5077 : mi 256 10 = m 256 10 := (hFi 256 10 rfl)
        have tb5078 := hT.atp 256 10 0 10 rfl
        refine y_mI 26 [.ref 169, yI p, yI x] [] c197_23 rfl rfl rfl rfl rfl (ycanO km196 ko169) kg197 qOut.I hFi (t196_256 (b := b) hTi (by omega) (hS.fr (by omega) (by omega) (fun k q _ => hFi _ _ (wMx_h (by omega)))) (by omega) (by omega) (by omega) hB) (fun rq5071 mq5071 hTq5071 hFq5071 hq5071 => ?_)
        have hF5079 := hFi.tr' hFq5071
        refine y_if 31 29 c197_26 rfl rfl (yz_eq (by omega)) (fun hb5080 => ?_) (fun hb5080 => ?_)
        · refine y_aload 32 c197_31 rfl rfl rfl ?_
          refine y_getS 35 (B := 256) c197_32 rfl kf169_4 (by first | rfl | (rw [show mq5071 169 4 = 0 from by have e : mq5071 169 4 = m 169 4 := ((hFq5071 169 4 rfl).trans (hFi 169 4 rfl)); omega]; rfl)) ?_
          refine y_getR 38 c197_35 rfl kf256_6 ?_
          refine y_iload 40 c197_38 rfl rfl ?_
          refine y_aaload 41 c197_40 rfl kr263 (by omega) ?_
          refine y_getX 44 (m (276 + p.toNat) 12) c197_41 rfl (ff276_12 (by omega)) ((hFq5071 (276 + p.toNat) 12 (wMx_h (by omega))).trans (hFi (276 + p.toNat) 12 (wMx_h (by omega)))) ?_
          have tb5081 := hT.atp (276 + p.toNat) 12 0 40 (ft276_12 (by omega))
          refine y_istore 46 c197_44 rfl rfl ?_
          refine y_iinc 49 c197_46 rfl rfl rfl ?_
          refine y_goto 6 c197_49 rfl ?_
          exact ih (40 - (i + 1) : Int).toNat (by omega) (m (276 + p.toNat) 12) (i + 1)  _ (by omega) (by omega) (by omega) hTq5071 hF5079 (by have e : mq5071 169 6 = mq5071 169 6 := rfl; omega)
        · refine y_iconst 30 c197_29 rfl ?_
          have tb5082 := hTq5071.atp 169 6 0 200 rfl
          exact y_mRI c197_30 (y_fit1 (by omega)) hTq5071 hF5079 (by omega)
set_option maxRecDepth 100000 in
theorem t197_256 {L : Nat} {xs : Nat → Int32} {d nn : Nat} {m : yM} {f e x b : Int} (hT : Ty gT m) (hp : m 169 4 = 0) (hS : PS 256 m) (hb : b ≤ m 169 6) (he : 0 ≤ e ∧ e ≤ m 256 16) (hx : 0 ≤ x ∧ x ≤ 3) (hB : BR256 L xs (d + 2) (b + 1)) (hf : 0 ≤ f ∧ f ≤ 40) : YC (gZ L xs) (d + 5) 197 [.ref 169, yI f, yI e, yI x] m nn (qTI nn m (fun r m' => (r = 0 ∨ r = 1) ∧ m 169 6 ≤ m' 169 6)) := by
  have tb16 := hT.atp 256 16 0 40 rfl
  have tb10 := hT.atp 256 10 0 10 rfl
  have tb6 := hT.atp 169 6 0 200 rfl
  refine YC.mkB [some (.ref 169), some (yI f), some (yI e), some (yI x), none, none] kn197 rfl rfl ?_
  have hF : Fr wMx m m := Fr.rf
  refine y_iload 1 c197_0 rfl rfl ?_
  refine y_istore 3 c197_1 rfl rfl ?_
  refine y_iconst 4 c197_3 rfl ?_
  refine y_istore 6 c197_4 rfl rfl ?_
  exact t197a_256 hT hp hS hb he hx hB 40 f 0 m (by omega) hf (by omega) hT Fr.rf (by omega)
theorem tBR_256 {L : Nat} {xs : Nat → Int32} {d : Nat} : ∀ (n : Nat) (b : Int), 201 - b = n → BR256 L xs (3 * n + d + 2) b := by
  intro n
  induction n with
  | zero => intro b hb nn m f e x dd hd hT hp hS h6 hf he hx; exfalso; have := hT.atp 169 6 0 200 rfl; omega
  | succ n ih =>
    intro b hb nn m f e x dd hd hT hp hS h6 hf he hx
    obtain ⟨d', rfl⟩ : ∃ d', dd = d' + 5 := ⟨dd - 5, by omega⟩
    have h1 : BR256 L xs (d' + 2) (b + 1) := fun nn m f e x dd hd => ih (b + 1) (by omega) nn m f e x dd (by omega)
    exact t197_256 hT hp hS h6 he hx h1 hf
end
section
/-! CONTRACTS: the machine. Printed by wip/whole/gen93.py -/
set_option maxRecDepth 100000 in
theorem t191_316 {L : Nat} {xs : Nat → Int32} {d nn : Nat} {m : yM} {q : Int} (hT : Ty gT m) (hp : m 169 4 = 1) (hq : -1 ≤ q ∧ q ≤ 29) : YC (gZ L xs) d 191 [.ref 169, yI q] m nn (qTI nn m (fun r m' => (0 ≤ r ∧ r ≤ 5 ∧ q ≠ -1) ∧ m' = m)) := by
  refine YC.mkB [some (.ref 169), some (yI q)] kn191 rfl rfl ?_
  have hF : Fr wMx m m := Fr.rf
  refine y_iload 1 c191_0 rfl rfl ?_
  refine y_iconst 2 c191_1 rfl ?_
  refine y_icmp 13 5 c191_2 rfl rfl (yc_ne (by omega) (by omega)) (fun hb5083 => ?_) (fun hb5083 => ?_)
  · refine y_aload 14 c191_13 rfl rfl rfl ?_
    refine y_getS 17 (B := 316) c191_14 rfl kf169_4 (by first | rfl | (rw [show m 169 4 = 1 from by have e : m 169 4 = m 169 4 := rfl; omega]; rfl)) ?_
    refine y_getR 20 c191_17 rfl kf316_7 ?_
    refine y_aload 21 c191_20 rfl rfl rfl ?_
    refine y_getR 24 c191_21 rfl kf169_1 ?_
    refine y_iload 25 c191_24 rfl rfl ?_
    refine y_iaT 26 0 11 c191_25 rfl ka219 (by omega) hT rfl (fun v5084 hv5084 gv5084 => ?_)
    refine y_iaT 27 0 5 c191_26 rfl ka324 (by omega) hT rfl (fun v5085 hv5085 gv5085 => ?_)
    exact y_mRI c191_27 (y_fit0 _) hT hF (⟨by omega, rfl⟩)
  · exact y_mThr c191_5 rfl hT hF (by decide) qOut.I
set_option maxRecDepth 100000 in
theorem t192_316 {L : Nat} {xs : Nat → Int32} {d nn : Nat} {m : yM} {q f : Int} (hT : Ty gT m) (hp : m 169 4 = 1) (hq : -1 ≤ q ∧ q ≤ 29) (hf : -1 ≤ f ∧ f ≤ 11) : YC (gZ L xs) (d + 1) 192 [.ref 169, yI q, yI f] m nn (qTI nn m (fun r m' => (r = q ∧ q ≠ -1 ∧ f ≠ -1) ∧ m' = m)) := by
  refine YC.mkB [some (.ref 169), some (yI q), some (yI f)] kn192 rfl rfl ?_
  have hF : Fr wMx m m := Fr.rf
  refine y_aload 1 c192_0 rfl rfl rfl ?_
  refine y_getS 4 (B := 316) c192_1 rfl kf169_4 (by first | rfl | (rw [show m 169 4 = 1 from by have e : m 169 4 = m 169 4 := rfl; omega]; rfl)) ?_
  refine y_aload 5 c192_4 rfl rfl rfl ?_
  refine y_iload 6 c192_5 rfl rfl ?_
  have tb5087 := hT.atp 169 4 ((-1)) 1 rfl
  have tb5088 := hT.atp 169 6 0 200 rfl
  refine y_mI 9 [.ref 169, yI q] [.ref 316] c192_6 rfl rfl rfl rfl rfl (ycanO km191 ko169) kg192 qOut.I hF (t191_316 hT (by omega) (by omega)) (fun rq5086 mq5086 hTq5086 hFq5086 hq5086 => ?_)
  obtain ⟨hq5086, hmq5086⟩ := hq5086
  obtain rfl := hmq5086.symm
  refine y_iload 10 c192_9 rfl rfl ?_
  refine y_callP 13 [.ref 316, yI rq5086, yI f] [] c192_10 rfl rfl rfl rfl rfl (ycanO km47 ko316) (t47_316 hT (by omega) (by omega)) (fun r5089 hr5089 => ?_)
  refine y_if 24 16 c192_13 rfl rfl (yz_ne (by omega)) (fun hb5090 => ?_) (fun hb5090 => ?_)
  · refine y_iload 25 c192_24 rfl rfl ?_
    exact y_mRI c192_25 (y_fit0 _) hT hF (⟨by omega, rfl⟩)
  · exact y_mThr c192_16 rfl hT hF (by decide) qOut.I
set_option maxRecDepth 100000 in
theorem t194_316 {L : Nat} {xs : Nat → Int32} {d nn : Nat} {m : yM} {t q : Int} (hT : Ty gT m) (hp : m 169 4 = 1) (ht : -1 ≤ t ∧ t ≤ 5) (hq : -1 ≤ q ∧ q ≤ 29) : YC (gZ L xs) (d + 1) 194 [.ref 169, yI t, yI q] m nn (qTI nn m (fun r m' => (r = q) ∧ m' = m)) := by
  refine YC.mkB [some (.ref 169), some (yI t), some (yI q)] kn194 rfl rfl ?_
  have hF : Fr wMx m m := Fr.rf
  refine y_iload 1 c194_0 rfl rfl ?_
  refine y_iconst 2 c194_1 rfl ?_
  refine y_icmp 29 5 c194_2 rfl rfl (yc_eq (by omega) (by omega)) (fun hb5091 => ?_) (fun hb5091 => ?_)
  · refine y_iload 30 c194_29 rfl rfl ?_
    exact y_mRI c194_30 (y_fit0 _) hT hF (⟨by omega, rfl⟩)
  · refine y_aload 6 c194_5 rfl rfl rfl ?_
    refine y_getS 9 (B := 316) c194_6 rfl kf169_4 (by first | rfl | (rw [show m 169 4 = 1 from by have e : m 169 4 = m 169 4 := rfl; omega]; rfl)) ?_
    refine y_aload 10 c194_9 rfl rfl rfl ?_
    refine y_iload 11 c194_10 rfl rfl ?_
    have tb5093 := hT.atp 169 4 ((-1)) 1 rfl
    have tb5094 := hT.atp 169 6 0 200 rfl
    refine y_mI 14 [.ref 169, yI q] [.ref 316] c194_11 rfl rfl rfl rfl rfl (ycanO km191 ko169) kg194 qOut.I hF (t191_316 hT (by omega) (by omega)) (fun rq5092 mq5092 hTq5092 hFq5092 hq5092 => ?_)
    obtain ⟨hq5092, hmq5092⟩ := hq5092
    obtain rfl := hmq5092.symm
    refine y_iload 15 c194_14 rfl rfl ?_
    refine y_callP 18 [.ref 316, yI rq5092, yI t] [] c194_15 rfl rfl rfl rfl rfl (ycanO km81 ko316) (t81_316 hT (by omega) (by omega)) (fun r5095 hr5095 => ?_)
    refine y_if 29 21 c194_18 rfl rfl (yz_ne (by omega)) (fun hb5096 => ?_) (fun hb5096 => ?_)
    · refine y_iload 30 c194_29 rfl rfl ?_
      exact y_mRI c194_30 (y_fit0 _) hT hF (⟨by omega, rfl⟩)
    · exact y_mThr c194_21 rfl hT hF (by decide) qOut.I
set_option maxRecDepth 100000 in
theorem t195_316 {L : Nat} {xs : Nat → Int32} {d nn : Nat} {m : yM} {k x : Int} (hT : Ty gT m) (hp : m 169 4 = 1) (hk : 0 ≤ k ∧ k ≤ 39) (hx : 0 ≤ x ∧ x ≤ 3) (h5 : m (336 + k.toNat) 0 = 5 → 0 ≤ m (336 + k.toNat) 6) (h3 : (m (336 + k.toNat) 0 = 7 ∨ m (336 + k.toNat) 0 = 8 ∨ m (336 + k.toNat) 0 = 9) → 0 ≤ m (336 + k.toNat) 3) (h9 : m (336 + k.toNat) 0 = 9 → m (336 + k.toNat) 6 ≤ 7) : YC (gZ L xs) (d + 2) 195 [.ref 169, .ref (336 + k.toNat), .ref (252 + x.toNat)] m nn (qTI nn m (fun r m' => -1 ≤ r ∧ r ≤ 29 ∧ m' 169 6 = m 169 6)) := by
  refine YC.mkB [some (.ref 169), some (.ref (336 + k.toNat)), some (.ref (252 + x.toNat))] kn195 rfl rfl ?_
  have hF : Fr wMx m m := Fr.rf
  refine y_aload 1 c195_0 rfl rfl rfl ?_
  refine y_getX 4 (m (336 + k.toNat) 0) c195_1 rfl (ff336_0 (by omega)) rfl ?_
  have tb5097 := hT.atp (336 + k.toNat) 0 0 9 (ft336_0 (by omega))
  by_cases hk5098 : m (336 + k.toNat) 0 = 5
  · refine y_top 5 hk5098 ?_
    refine y_tsw 40 c195_4 (by decide) (by decide) rfl rfl ?_
    refine y_aload 41 c195_40 rfl rfl rfl ?_
    refine y_aload 42 c195_41 rfl rfl rfl ?_
    refine y_getX 45 (m (336 + k.toNat) 6) c195_42 rfl (ff336_6 (by omega)) rfl ?_
    have tb5099 := hT.atp (336 + k.toNat) 6 ((-1)) 11 (ft336_6 (by omega))
    have tb5101 := hT.atp 169 6 0 200 rfl
    refine y_mI 48 [.ref 169, yI (m (336 + k.toNat) 6)] [] c195_45 rfl rfl rfl rfl rfl (ycanO km186 ko169) kg195 qOut.I hF (t186 hT (by omega)) (fun rq5100 mq5100 hTq5100 hFq5100 hq5100 => ?_)
    have hF5102 := hF.tr' hFq5100
    have tb5103 := hTq5100.atp 169 6 0 200 rfl
    exact y_mRI c195_48 (y_fit0 _) hTq5100 hF5102 (by omega)
  by_cases hk5104 : m (336 + k.toNat) 0 = 6
  · refine y_top 6 hk5104 ?_
    refine y_tsw 96 c195_4 (by decide) (by decide) rfl rfl ?_
    refine y_iconst 97 c195_96 rfl ?_
    have tb5105 := hT.atp 169 6 0 200 rfl
    exact y_mRI c195_97 (y_fit0 _) hT hF (by omega)
  by_cases hk5106 : m (336 + k.toNat) 0 = 7
  · refine y_top 7 hk5106 ?_
    refine y_tsw 49 c195_4 (by decide) (by decide) rfl rfl ?_
    refine y_aload 50 c195_49 rfl rfl rfl ?_
    refine y_aload 51 c195_50 rfl rfl rfl ?_
    refine y_getX 54 (m (336 + k.toNat) 7) c195_51 rfl (ff336_7 (by omega)) rfl ?_
    have tb5107 := hT.atp (336 + k.toNat) 7 ((-1)) 5 (ft336_7 (by omega))
    refine y_aload 55 c195_54 rfl rfl rfl ?_
    refine y_aload 56 c195_55 rfl rfl rfl ?_
    refine y_getX 59 (m (336 + k.toNat) 3) c195_56 rfl (ff336_3 (by omega)) rfl ?_
    have tb5108 := hT.atp (336 + k.toNat) 3 ((-1)) 47 (ft336_3 (by omega))
    refine y_iaT 60 ((-1)) 29 c195_59 rfl (fa252 (by omega)) (by omega) hT (fz252 (by omega)) (fun v5109 hv5109 gv5109 => ?_)
    have tb5111 := hT.atp 169 4 ((-1)) 1 rfl
    have tb5112 := hT.atp 169 6 0 200 rfl
    refine y_mI 63 [.ref 169, yI (m (336 + k.toNat) 7), yI v5109] [] c195_60 rfl rfl rfl rfl rfl (ycanO km194 ko169) kg195 qOut.I hF (t194_316 hT (by omega) (by omega) (by omega)) (fun rq5110 mq5110 hTq5110 hFq5110 hq5110 => ?_)
    obtain ⟨hq5110, hmq5110⟩ := hq5110
    obtain rfl := hmq5110.symm
    exact y_mRI c195_63 (y_fit0 _) hT hF (by omega)
  by_cases hk5113 : m (336 + k.toNat) 0 = 8
  · refine y_top 8 hk5113 ?_
    refine y_tsw 64 c195_4 (by decide) (by decide) rfl rfl ?_
    refine y_aload 65 c195_64 rfl rfl rfl ?_
    refine y_aload 66 c195_65 rfl rfl rfl ?_
    refine y_getX 69 (m (336 + k.toNat) 3) c195_66 rfl (ff336_3 (by omega)) rfl ?_
    have tb5114 := hT.atp (336 + k.toNat) 3 ((-1)) 47 (ft336_3 (by omega))
    refine y_iaT 70 ((-1)) 29 c195_69 rfl (fa252 (by omega)) (by omega) hT (fz252 (by omega)) (fun v5115 hv5115 gv5115 => ?_)
    have tb5116 := hT.atp 169 6 0 200 rfl
    exact y_mRI c195_70 (y_fit0 _) hT hF (by omega)
  by_cases hk5117 : m (336 + k.toNat) 0 = 9
  · refine y_top 9 hk5117 ?_
    refine y_tsw 71 c195_4 (by decide) (by decide) rfl rfl ?_
    refine y_aload 72 c195_71 rfl rfl rfl ?_
    refine y_getR 75 c195_72 rfl kf169_2 ?_
    refine y_aload 76 c195_75 rfl rfl rfl ?_
    refine y_aload 77 c195_76 rfl rfl rfl ?_
    refine y_aload 78 c195_77 rfl rfl rfl ?_
    refine y_getX 81 (m (336 + k.toNat) 3) c195_78 rfl (ff336_3 (by omega)) rfl ?_
    have tb5118 := hT.atp (336 + k.toNat) 3 ((-1)) 47 (ft336_3 (by omega))
    refine y_iaT 82 ((-1)) 29 c195_81 rfl (fa252 (by omega)) (by omega) hT (fz252 (by omega)) (fun v5119 hv5119 gv5119 => ?_)
    refine y_aload 83 c195_82 rfl rfl rfl ?_
    refine y_getX 86 (m (336 + k.toNat) 6) c195_83 rfl (ff336_6 (by omega)) rfl ?_
    have tb5120 := hT.atp (336 + k.toNat) 6 ((-1)) 11 (ft336_6 (by omega))
    have tb5122 := hT.atp 169 4 ((-1)) 1 rfl
    have tb5123 := hT.atp 169 6 0 200 rfl
    refine y_mI 89 [.ref 169, yI v5119, yI (m (336 + k.toNat) 6)] [.ref 220] c195_86 rfl rfl rfl rfl rfl (ycanO km192 ko169) kg195 qOut.I hF (t192_316 hT (by omega) (by omega) (by omega)) (fun rq5121 mq5121 hTq5121 hFq5121 hq5121 => ?_)
    obtain ⟨hq5121, hmq5121⟩ := hq5121
    obtain rfl := hmq5121.symm
    refine y_aaload 90 c195_89 rfl kr220 (by omega) ?_
    refine y_aload 91 c195_90 rfl rfl rfl ?_
    refine y_getX 94 (m (336 + k.toNat) 6) c195_91 rfl (ff336_6 (by omega)) rfl ?_
    refine y_iaT 95 ((-1)) 29 c195_94 rfl (fa221 (by omega)) (by omega) hT (fz221 (by omega)) (fun v5124 hv5124 gv5124 => ?_)
    exact y_mRI c195_95 (y_fit0 _) hT hF (by omega)
  refine y_tswd 96 c195_4 (by omega) (by omega) rfl ?_
  refine y_iconst 97 c195_96 rfl ?_
  have tb5125 := hT.atp 169 6 0 200 rfl
  exact y_mRI c195_97 (y_fit0 _) hT hF (by omega)
/-- what a body's run is, once b statements have begun -/
def BR316 (L : Nat) (xs : Nat → Int32) (D : Nat) (b : Int) : Prop := ∀ (nn : Nat) (m : yM) (f e x : Int) (dd : Nat), D ≤ dd → Ty gT m → m 169 4 = 1 → PS 316 m → b ≤ m 169 6 → 0 ≤ f ∧ f ≤ 40 → 0 ≤ e ∧ e ≤ m 316 16 → 0 ≤ x ∧ x ≤ 3 → YC (gZ L xs) dd 197 [.ref 169, yI f, yI e, yI x] m nn (qTI nn m (fun r m' => (r = 0 ∨ r = 1) ∧ m 169 6 ≤ m' 169 6))
set_option maxRecDepth 100000 in
theorem t190a_316 {L : Nat} {xs : Nat → Int32} {d nn : Nat} {m : yM} {k x : Int} (hT : Ty gT m) (hp : m 169 4 = 1) {b : Int} (hS : PS 316 m) (hkc : 0 ≤ k ∧ k < m 316 16) (hx : 0 ≤ x ∧ x ≤ 3) (hb : b ≤ m 169 6) (hB : BR316 L xs (d + 2) b) (h3 : 0 ≤ m (336 + k.toNat) 3) (h11 : m (336 + k.toNat) 11 ≤ m 316 16) : ∀ (km : Nat) (i : Int) (mi : yM), 201 - i = km → 0 ≤ i ∧ i ≤ 201 → Ty gT mi → Fr wMx m mi → m 169 6 ≤ mi 169 6 → YW (gZ L xs) 190 (d + 3) 13 [some (.ref 169), some (yI k), some (yI x), some (.ref (336 + k.toNat)), some (yI i)] [] mi nn (qTI nn m (fun r m' => (r = 0 ∨ r = 1) ∧ m 169 6 ≤ m' 169 6)) := by
  intro km
  induction km using Nat.strongRecOn with
  | ind km ih =>
    intro i mi hk hi hTi hFi h6
    have tb16 := hT.atp 316 16 0 40 rfl
    have tb10 := hT.atp 316 10 0 10 rfl
    have tb6 := hT.atp 169 6 0 200 rfl
    have hk40 : k ≤ 39 := by omega
    have hen2 : m (336 + k.toNat) 11 ≤ 40 := (hT.atp (336 + k.toNat) 11 0 40 (ft336_11 (by omega))).2
    refine y_iload 15 c190_13 rfl rfl ?_
    refine y_iconst 18 c190_15 rfl ?_
    refine y_icmp 63 21 c190_18 rfl rfl (yc_gt (by omega) (by omega)) (fun hb5126 => ?_) (fun hb5126 => ?_)
    · refine y_iconst 64 c190_63 rfl ?_
      have tb5127 := hTi.atp 169 6 0 200 rfl
      exact y_mRI c190_64 (y_fit1 (by omega)) hTi hFi (by omega)
    · refine y_aload 22 c190_21 rfl rfl rfl ?_
      refine y_getR 25 c190_22 rfl kf169_3 ?_
      refine y_iload 26 c190_25 rfl rfl ?_
      refine y_aaload 27 c190_26 rfl kr251 (by omega) ?_
      refine y_aload 28 c190_27 rfl rfl rfl ?_
      refine y_getX 31 (m (336 + k.toNat) 3) c190_28 rfl (ff336_3 (by omega)) (hFi (336 + k.toNat) 3 (wMx_h (by omega))) ?_
      have tb5128 := hT.atp (336 + k.toNat) 3 ((-1)) 47 (ft336_3 (by omega))
      refine y_iaT 32 ((-1)) 29 c190_31 rfl (fa252 (by omega)) (by omega) hTi (fz252 (by omega)) (fun v5129 hv5129 gv5129 => ?_)
      refine y_iconst 33 c190_32 rfl ?_
      refine y_icmp 63 36 c190_33 rfl rfl (yc_eq (by omega) (by omega)) (fun hb5130 => ?_) (fun hb5130 => ?_)
      · refine y_iconst 64 c190_63 rfl ?_
        have tb5131 := hTi.atp 169 6 0 200 rfl
        exact y_mRI c190_64 (y_fit1 (by omega)) hTi hFi (by omega)
      · refine y_aload 37 c190_36 rfl rfl rfl ?_
        refine y_iload 38 c190_37 rfl rfl ?_
        refine y_iconst 39 c190_38 rfl ?_
        refine y_iadd 40 c190_39 rfl ?_
        refine y_aload 41 c190_40 rfl rfl rfl ?_
        refine y_getX 44 (m (336 + k.toNat) 11) c190_41 rfl (ff336_11 (by omega)) (hFi (336 + k.toNat) 11 (wMx_h (by omega))) ?_
        have tb5132 := hT.atp (336 + k.toNat) 11 0 40 (ft336_11 (by omega))
        refine y_iload 45 c190_44 rfl rfl ?_
        have es5134 : mi 169 4 = m 169 4 := (hFi 169 4 rfl)
        have tb5135 := hT.atp 169 4 ((-1)) 1 rfl
        have tb5136 := hTi.atp 169 6 0 200 rfl
        have es5137 : mi 316 16 = m 316 16 := (hFi 316 16 rfl)
        have tb5138 := hT.atp 316 16 0 40 rfl
        have es5139 : mi 316 10 = m 316 10 := (hFi 316 10 rfl)
        have tb5140 := hT.atp 316 10 0 10 rfl
        refine y_mI 48 [.ref 169, yI (k + 1), yI (m (336 + k.toNat) 11), yI x] [] c190_45 rfl rfl rfl rfl rfl (ycanO km197 ko169) kg190 qOut.I hFi (hB _ _ _ _ _ _ (by omega) hTi (by omega) (hS.fr (by omega) (by omega) (fun k q _ => hFi _ _ (wMx_h (by omega)))) (by omega) (by omega) (by omega) (by omega)) (fun rq5133 mq5133 hTq5133 hFq5133 hq5133 => ?_)
        have hF5141 := hFi.tr' hFq5133
        refine y_if 53 51 c190_48 rfl rfl (yz_eq (by omega)) (fun hb5142 => ?_) (fun hb5142 => ?_)
        · refine y_aload 54 c190_53 rfl rfl rfl ?_
          have tb5144 := hTq5133.atp 169 6 0 200 rfl
          refine y_mU 57 [.ref 169] [] c190_54 rfl rfl rfl rfl rfl (ycanO km189 ko169) kg190 qOut.I hF5141 (t189 hTq5133) (fun mq5143 hTq5143 hFq5143 hq5143 => ?_)
          have hF5145 := hF5141.tr' hFq5143
          refine y_iinc 60 c190_57 rfl rfl rfl ?_
          refine y_goto 13 c190_60 rfl ?_
          exact ih (201 - (i + 1) : Int).toNat (by omega) (i + 1)  _ (by omega) (by omega) hTq5143 hF5145 (by have e : mq5143 169 6 = mq5143 169 6 := rfl; omega)
        · refine y_iconst 52 c190_51 rfl ?_
          have tb5146 := hTq5133.atp 169 6 0 200 rfl
          exact y_mRI c190_52 (y_fit1 (by omega)) hTq5133 hF5141 (by omega)
set_option maxRecDepth 100000 in
theorem t190_316 {L : Nat} {xs : Nat → Int32} {d nn : Nat} {m : yM} {k x : Int} (hT : Ty gT m) (hp : m 169 4 = 1) {b : Int} (hS : PS 316 m) (hkc : 0 ≤ k ∧ k < m 316 16) (hx : 0 ≤ x ∧ x ≤ 3) (hb : b ≤ m 169 6) (hB : BR316 L xs (d + 2) b) (h3 : 0 ≤ m (336 + k.toNat) 3) (h11 : m (336 + k.toNat) 11 ≤ m 316 16) : YC (gZ L xs) (d + 3) 190 [.ref 169, yI k, yI x] m nn (qTI nn m (fun r m' => (r = 0 ∨ r = 1) ∧ m 169 6 ≤ m' 169 6)) := by
  have tb16 := hT.atp 316 16 0 40 rfl
  have tb10 := hT.atp 316 10 0 10 rfl
  have tb6 := hT.atp 169 6 0 200 rfl
  refine YC.mkB [some (.ref 169), some (yI k), some (yI x), none, none] kn190 rfl rfl ?_
  have hF : Fr wMx m m := Fr.rf
  refine y_aload 1 c190_0 rfl rfl rfl ?_
  refine y_getS 4 (B := 316) c190_1 rfl kf169_4 (by first | rfl | (rw [show m 169 4 = 1 from by have e : m 169 4 = m 169 4 := rfl; omega]; rfl)) ?_
  refine y_getR 7 c190_4 rfl kf316_6 ?_
  refine y_iload 8 c190_7 rfl rfl ?_
  refine y_aaload 9 c190_8 rfl kr323 (by omega) ?_
  refine y_astore 10 c190_9 rfl rfl rfl ?_
  refine y_iconst 11 c190_10 rfl ?_
  refine y_istore 13 c190_11 rfl rfl ?_
  exact t190a_316 hT hp hS hkc hx hb hB h3 h11 201 0 m (by omega) (by omega) hT Fr.rf (by omega)
set_option maxRecDepth 100000 in
theorem t193_316 {L : Nat} {xs : Nat → Int32} {d nn : Nat} {m : yM} {k x : Int} (hT : Ty gT m) (hp : m 169 4 = 1) {b : Int} (hS : PS 316 m) (hkc : 0 ≤ k ∧ k < m 316 16) (hx : 0 ≤ x ∧ x ≤ 3) (hb : b ≤ m 169 6) (hB : BR316 L xs (d + 2) b) (h4 : m (336 + k.toNat) 0 = 4) : YC (gZ L xs) (d + 3) 193 [.ref 169, .ref (336 + k.toNat), yI x] m nn (qTU nn m (fun m' => m 169 6 ≤ m' 169 6)) := by
  have tb16 := hT.atp 316 16 0 40 rfl
  have tb10 := hT.atp 316 10 0 10 rfl
  have tb6 := hT.atp 169 6 0 200 rfl
  have hsv : SV 336 m k.toNat := (hS.1.1 k.toNat (by omega) (by omega)).1
  unfold SV at hsv
  obtain ⟨s1, s2, s3, s4, s5⟩ := hsv
  have hen : m (336 + k.toNat) 12 ≤ m 316 16 ∧ ((m (336 + k.toNat) 0 = 0 ∨ m (336 + k.toNat) 0 = 1) → m (336 + k.toNat) 11 ≤ m 316 16) := hS.2.1 k.toNat (by omega) (by omega)
  have hnl : (m (336 + k.toNat) 0 = 3 ∨ m (336 + k.toNat) 0 = 9) → m (336 + k.toNat) 6 ≤ 7 := hS.2.2.1 k.toNat (by omega) (by omega)
  have hM : MP 326 m := hS.2.2.2.1
  refine YC.mkB [some (.ref 169), some (.ref (336 + k.toNat)), some (yI x), none, none, none, none, none] kn193 rfl rfl ?_
  have hF : Fr wMx m m := Fr.rf
  refine y_aload 1 c193_0 rfl rfl rfl ?_
  refine y_getR 4 c193_1 rfl kf169_3 ?_
  refine y_iload 5 c193_4 rfl rfl ?_
  refine y_aaload 6 c193_5 rfl kr251 (by omega) ?_
  refine y_astore 7 c193_6 rfl rfl rfl ?_
  refine y_aload 8 c193_7 rfl rfl rfl ?_
  refine y_aload 9 c193_8 rfl rfl rfl ?_
  refine y_getX 12 (m (336 + k.toNat) 3) c193_9 rfl (ff336_3 (by omega)) rfl ?_
  have tb5147 := hT.atp (336 + k.toNat) 3 ((-1)) 47 (ft336_3 (by omega))
  refine y_iaT 13 ((-1)) 29 c193_12 rfl (fa252 (by omega)) (by omega) hT (fz252 (by omega)) (fun v5148 hv5148 gv5148 => ?_)
  refine y_istore 15 c193_13 rfl rfl ?_
  refine y_aload 16 c193_15 rfl rfl rfl ?_
  refine y_getS 19 (B := 316) c193_16 rfl kf169_4 (by first | rfl | (rw [show m 169 4 = 1 from by have e : m 169 4 = m 169 4 := rfl; omega]; rfl)) ?_
  refine y_aload 20 c193_19 rfl rfl rfl ?_
  refine y_iload 22 c193_20 rfl rfl ?_
  have tb5150 := hT.atp 169 4 ((-1)) 1 rfl
  have tb5151 := hT.atp 169 6 0 200 rfl
  refine y_mI 25 [.ref 169, yI v5148] [.ref 316] c193_22 rfl rfl rfl rfl rfl (ycanO km191 ko169) kg193 qOut.U hF (t191_316 hT (by omega) (by omega)) (fun rq5149 mq5149 hTq5149 hFq5149 hq5149 => ?_)
  obtain ⟨hq5149, hmq5149⟩ := hq5149
  obtain rfl := hmq5149.symm
  refine y_aload 26 c193_25 rfl rfl rfl ?_
  refine y_getX 29 (m (336 + k.toNat) 4) c193_26 rfl (ff336_4 (by omega)) rfl ?_
  have tb5152 := hT.atp (336 + k.toNat) 4 ((-2147483648)) 2147483647 (ft336_4 (by omega))
  refine y_aload 30 c193_29 rfl rfl rfl ?_
  refine y_getX 33 (m (336 + k.toNat) 8) c193_30 rfl (ff336_8 (by omega)) rfl ?_
  have tb5153 := hT.atp (336 + k.toNat) 8 0 2 (ft336_8 (by omega))
  have tb5155 := hT.atp 316 10 0 10 rfl
  refine y_callP 36 [.ref 316, yI rq5149, yI (m (336 + k.toNat) 4), yI (m (336 + k.toNat) 8)] [] c193_33 rfl rfl rfl rfl rfl (ycanO km72 ko316) (t72_316 hT (by omega) (by omega) (by omega)) (fun r5154 hr5154 => ?_)
  refine y_istore 38 c193_36 rfl rfl ?_
  refine y_iload 40 c193_38 rfl rfl ?_
  refine y_iconst 41 c193_40 rfl ?_
  refine y_icmp 52 44 c193_41 rfl rfl (yc_ne (by omega) (by omega)) (fun hb5156 => ?_) (fun hb5156 => ?_)
  · have hes : m (326 + r5154.toNat) 5 ≤ m 316 16 := hS.2.2.2.2.1 r5154.toNat (by omega)
    have hm3 := hr5154.2.2 (by omega)
    refine y_aload 53 c193_52 rfl rfl rfl ?_
    refine y_getS 56 (B := 316) c193_53 rfl kf169_4 (by first | rfl | (rw [show m 169 4 = 1 from by have e : m 169 4 = m 169 4 := rfl; omega]; rfl)) ?_
    refine y_getR 59 c193_56 rfl kf316_5 ?_
    refine y_iload 61 c193_59 rfl rfl ?_
    refine y_aaload 62 c193_61 rfl kr322 (by omega) ?_
    refine y_astore 64 c193_62 rfl rfl rfl ?_
    refine y_aload 65 c193_64 rfl rfl rfl ?_
    refine y_iload 66 c193_65 rfl rfl ?_
    refine y_iconst 67 c193_66 rfl ?_
    refine y_iadd 68 c193_67 rfl ?_
    refine y_mA 71 [.ref 169, yI (x + 1)] [] c193_68 rfl rfl rfl rfl rfl (ycanO km187 ko169) kg193 qOut.U hF (t187 hT (by omega)) (fun rq5157 mq5157 hTq5157 hFq5157 hq5157 => ?_)
    have hF5158 := hF.tr' hFq5157
    obtain ⟨rfl, hq5157⟩ := hq5157
    refine y_astore 73 c193_71 rfl rfl rfl ?_
    refine y_aload 74 c193_73 rfl rfl rfl ?_
    refine y_aload 76 c193_74 rfl rfl rfl ?_
    refine y_aload 78 c193_76 rfl rfl rfl ?_
    refine y_callP 81 [.ref (326 + r5154.toNat)] [.ref (252 + (x + 1).toNat), .ref 169] c193_78 rfl rfl rfl rfl rfl (ycanO km57 (fo326 (by omega))) (t57_316 hTq5157 (by omega)) (fun r5159 hr5159 => ?_)
    refine y_iload 83 c193_81 rfl rfl ?_
    have tb5161 := hTq5157.atp 169 6 0 200 rfl
    refine y_callUB 86 [.ref 169, .ref (252 + (x + 1).toNat), yI r5159, yI v5148] [] c193_83 rfl rfl rfl rfl rfl (ycanO km188 ko169) (t188 hTq5157 (by omega) (by omega) (by omega)) (fun mq5160 nq5160 hq5160 => ?_)
    obtain ⟨rfl, hTq5160, hFq5160, hq5160⟩ := hq5160
    have hF5162 := hF5158.tr hFq5160 (fun _ _ e => e)
    refine y_aload 87 c193_86 rfl rfl rfl ?_
    refine y_getX 90 (m (336 + k.toNat) 8) c193_87 rfl (ff336_8 (by omega)) ((hFq5160 (336 + k.toNat) 8 (wMx_h (by omega))).trans (hFq5157 (336 + k.toNat) 8 (wMx_h (by omega)))) ?_
    refine y_if 111 93 c193_90 rfl rfl (yz_le (by omega)) (fun hb5163 => ?_) (fun hb5163 => ?_)
    · refine y_aload 112 c193_111 rfl rfl rfl ?_
      refine y_getX 115 (m (336 + k.toNat) 8) c193_112 rfl (ff336_8 (by omega)) ((hFq5160 (336 + k.toNat) 8 (wMx_h (by omega))).trans (hFq5157 (336 + k.toNat) 8 (wMx_h (by omega)))) ?_
      refine y_iconst 116 c193_115 rfl ?_
      refine y_icmp 137 119 c193_116 rfl rfl (yc_le (by omega) (by omega)) (fun hb5164 => ?_) (fun hb5164 => ?_)
      · refine y_aload 138 c193_137 rfl rfl rfl ?_
        refine y_aload 140 c193_138 rfl rfl rfl ?_
        refine y_getX 143 (m (326 + r5154.toNat) 4) c193_140 rfl (ff326_4 (by omega)) ((hFq5160 (326 + r5154.toNat) 4 (wMx_h (by omega))).trans (hFq5157 (326 + r5154.toNat) 4 (wMx_h (by omega)))) ?_
        have tb5165 := hT.atp (326 + r5154.toNat) 4 0 40 (ft326_4 (by omega))
        refine y_aload 145 c193_143 rfl rfl rfl ?_
        refine y_getX 148 (m (326 + r5154.toNat) 5) c193_145 rfl (ff326_5 (by omega)) ((hFq5160 (326 + r5154.toNat) 5 (wMx_h (by omega))).trans (hFq5157 (326 + r5154.toNat) 5 (wMx_h (by omega)))) ?_
        have tb5166 := hT.atp (326 + r5154.toNat) 5 0 40 (ft326_5 (by omega))
        refine y_iload 149 c193_148 rfl rfl ?_
        refine y_iconst 150 c193_149 rfl ?_
        refine y_iadd 151 c193_150 rfl ?_
        have es5168 : mq5160 169 4 = m 169 4 := ((hFq5160 169 4 rfl).trans (hFq5157 169 4 rfl))
        have tb5169 := hTq5160.atp 169 6 0 200 rfl
        have es5170 : mq5160 316 16 = m 316 16 := ((hFq5160 316 16 rfl).trans (hFq5157 316 16 rfl))
        have tb5171 := hT.atp 316 16 0 40 rfl
        have es5172 : mq5160 316 10 = m 316 10 := ((hFq5160 316 10 rfl).trans (hFq5157 316 10 rfl))
        refine y_mI 154 [.ref 169, yI (m (326 + r5154.toNat) 4), yI (m (326 + r5154.toNat) 5), yI (x + 1)] [] c193_151 rfl rfl rfl rfl rfl (ycanO km197 ko169) kg193 qOut.U hF5162 (hB _ _ _ _ _ _ (by omega) hTq5160 (by omega) (hS.fr (by omega) (by omega) (fun k q _ => hF5162 _ _ (wMx_h (by omega)))) (by omega) (by omega) (by omega) (by omega)) (fun rq5167 mq5167 hTq5167 hFq5167 hq5167 => ?_)
        have hF5173 := hF5162.tr' hFq5167
        refine y_pop 155 c193_154 rfl rfl ?_
        refine y_aload 156 c193_155 rfl rfl rfl ?_
        refine y_getX 159 (m (336 + k.toNat) 2) c193_156 rfl (ff336_2 (by omega)) ((hFq5167 (336 + k.toNat) 2 (wMx_h (by omega))).trans ((hFq5160 (336 + k.toNat) 2 (wMx_h (by omega))).trans (hFq5157 (336 + k.toNat) 2 (wMx_h (by omega))))) ?_
        have tb5174 := hT.atp (336 + k.toNat) 2 ((-1)) 47 (ft336_2 (by omega))
        refine y_iconst 160 c193_159 rfl ?_
        refine y_icmp 180 163 c193_160 rfl rfl (yc_eq (by omega) (by omega)) (fun hb5175 => ?_) (fun hb5175 => ?_)
        · have tb5176 := hTq5167.atp 169 6 0 200 rfl
          exact y_mRU c193_180 hTq5167 hF5173 (by omega)
        · refine y_aload 164 c193_163 rfl rfl rfl ?_
          refine y_aload 165 c193_164 rfl rfl rfl ?_
          refine y_aload 166 c193_165 rfl rfl rfl ?_
          refine y_getX 169 (m (336 + k.toNat) 2) c193_166 rfl (ff336_2 (by omega)) ((hFq5167 (336 + k.toNat) 2 (wMx_h (by omega))).trans ((hFq5160 (336 + k.toNat) 2 (wMx_h (by omega))).trans (hFq5157 (336 + k.toNat) 2 (wMx_h (by omega))))) ?_
          refine y_aload 171 c193_169 rfl rfl rfl ?_
          refine y_aload 173 c193_171 rfl rfl rfl ?_
          refine y_getX 176 (m (326 + r5154.toNat) 2) c193_173 rfl (ff326_2 (by omega)) ((hFq5167 (326 + r5154.toNat) 2 (wMx_h (by omega))).trans ((hFq5160 (326 + r5154.toNat) 2 (wMx_h (by omega))).trans (hFq5157 (326 + r5154.toNat) 2 (wMx_h (by omega))))) ?_
          have tb5177 := hT.atp (326 + r5154.toNat) 2 0 46 (ft326_2 (by omega))
          refine y_iaT 177 ((-1)) 29 c193_176 rfl (fa252 (by omega)) (by omega) hTq5167 (fz252 (by omega)) (fun v5178 hv5178 gv5178 => ?_)
          have tb5180 := hTq5167.atp 169 6 0 200 rfl
          refine y_callUB 180 [.ref 169, .ref (252 + x.toNat), yI (m (336 + k.toNat) 2), yI v5178] [] c193_177 rfl rfl rfl rfl rfl (ycanO km188 ko169) (t188 hTq5167 (by omega) (by omega) (by omega)) (fun mq5179 nq5179 hq5179 => ?_)
          obtain ⟨rfl, hTq5179, hFq5179, hq5179⟩ := hq5179
          have hF5181 := hF5173.tr hFq5179 (fun _ _ e => e)
          have tb5182 := hTq5179.atp 169 6 0 200 rfl
          exact y_mRU c193_180 hTq5179 hF5181 (by omega)
      · exfalso; omega
    · refine y_aload 94 c193_93 rfl rfl rfl ?_
      refine y_aload 96 c193_94 rfl rfl rfl ?_
      refine y_aload 98 c193_96 rfl rfl rfl ?_
      refine y_iconst 99 c193_98 rfl ?_
      have es5184 : mq5160 (326 + r5154.toNat) 3 = m (326 + r5154.toNat) 3 := ((hFq5160 (326 + r5154.toNat) 3 (wMx_h (by omega))).trans (hFq5157 (326 + r5154.toNat) 3 (wMx_h (by omega))))
      have tb5185 := hT.atp (326 + r5154.toNat) 3 0 2 (ft326_3 (by omega))
      refine y_callP 102 [.ref (326 + r5154.toNat), yI 0] [.ref (252 + (x + 1).toNat), .ref 169] c193_99 rfl rfl rfl rfl rfl (ycanO km87 (fo326 (by omega))) (t87_316 hTq5160 (by omega) (by omega) (hM.fr (fun k hk => hF5162 _ _ (wMx_h (by omega))) (fun k hk => hF5162 _ _ (wMx_h (by omega))))) (fun r5183 hr5183 => ?_)
      refine y_aload 103 c193_102 rfl rfl rfl ?_
      refine y_aload 104 c193_103 rfl rfl rfl ?_
      refine y_getX 107 (m (336 + k.toNat) 9) c193_104 rfl (ff336_9 (by omega)) ((hFq5160 (336 + k.toNat) 9 (wMx_h (by omega))).trans (hFq5157 (336 + k.toNat) 9 (wMx_h (by omega)))) ?_
      have tb5186 := hT.atp (336 + k.toNat) 9 ((-1)) 47 (ft336_9 (by omega))
      refine y_iaT 108 ((-1)) 29 c193_107 rfl (fa252 (by omega)) (by omega) hTq5160 (fz252 (by omega)) (fun v5187 hv5187 gv5187 => ?_)
      have tb5189 := hTq5160.atp 169 6 0 200 rfl
      refine y_callUB 111 [.ref 169, .ref (252 + (x + 1).toNat), yI r5183, yI v5187] [] c193_108 rfl rfl rfl rfl rfl (ycanO km188 ko169) (t188 hTq5160 (by omega) (by omega) (by omega)) (fun mq5188 nq5188 hq5188 => ?_)
      obtain ⟨rfl, hTq5188, hFq5188, hq5188⟩ := hq5188
      have hF5190 := hF5162.tr hFq5188 (fun _ _ e => e)
      refine y_aload 112 c193_111 rfl rfl rfl ?_
      refine y_getX 115 (m (336 + k.toNat) 8) c193_112 rfl (ff336_8 (by omega)) ((hFq5188 (336 + k.toNat) 8 (wMx_h (by omega))).trans ((hFq5160 (336 + k.toNat) 8 (wMx_h (by omega))).trans (hFq5157 (336 + k.toNat) 8 (wMx_h (by omega))))) ?_
      refine y_iconst 116 c193_115 rfl ?_
      refine y_icmp 137 119 c193_116 rfl rfl (yc_le (by omega) (by omega)) (fun hb5191 => ?_) (fun hb5191 => ?_)
      · refine y_aload 138 c193_137 rfl rfl rfl ?_
        refine y_aload 140 c193_138 rfl rfl rfl ?_
        refine y_getX 143 (m (326 + r5154.toNat) 4) c193_140 rfl (ff326_4 (by omega)) ((hFq5188 (326 + r5154.toNat) 4 (wMx_h (by omega))).trans ((hFq5160 (326 + r5154.toNat) 4 (wMx_h (by omega))).trans (hFq5157 (326 + r5154.toNat) 4 (wMx_h (by omega))))) ?_
        have tb5192 := hT.atp (326 + r5154.toNat) 4 0 40 (ft326_4 (by omega))
        refine y_aload 145 c193_143 rfl rfl rfl ?_
        refine y_getX 148 (m (326 + r5154.toNat) 5) c193_145 rfl (ff326_5 (by omega)) ((hFq5188 (326 + r5154.toNat) 5 (wMx_h (by omega))).trans ((hFq5160 (326 + r5154.toNat) 5 (wMx_h (by omega))).trans (hFq5157 (326 + r5154.toNat) 5 (wMx_h (by omega))))) ?_
        have tb5193 := hT.atp (326 + r5154.toNat) 5 0 40 (ft326_5 (by omega))
        refine y_iload 149 c193_148 rfl rfl ?_
        refine y_iconst 150 c193_149 rfl ?_
        refine y_iadd 151 c193_150 rfl ?_
        have es5195 : mq5188 169 4 = m 169 4 := ((hFq5188 169 4 rfl).trans ((hFq5160 169 4 rfl).trans (hFq5157 169 4 rfl)))
        have tb5196 := hTq5188.atp 169 6 0 200 rfl
        have es5197 : mq5188 316 16 = m 316 16 := ((hFq5188 316 16 rfl).trans ((hFq5160 316 16 rfl).trans (hFq5157 316 16 rfl)))
        have tb5198 := hT.atp 316 16 0 40 rfl
        have es5199 : mq5188 316 10 = m 316 10 := ((hFq5188 316 10 rfl).trans ((hFq5160 316 10 rfl).trans (hFq5157 316 10 rfl)))
        refine y_mI 154 [.ref 169, yI (m (326 + r5154.toNat) 4), yI (m (326 + r5154.toNat) 5), yI (x + 1)] [] c193_151 rfl rfl rfl rfl rfl (ycanO km197 ko169) kg193 qOut.U hF5190 (hB _ _ _ _ _ _ (by omega) hTq5188 (by omega) (hS.fr (by omega) (by omega) (fun k q _ => hF5190 _ _ (wMx_h (by omega)))) (by omega) (by omega) (by omega) (by omega)) (fun rq5194 mq5194 hTq5194 hFq5194 hq5194 => ?_)
        have hF5200 := hF5190.tr' hFq5194
        refine y_pop 155 c193_154 rfl rfl ?_
        refine y_aload 156 c193_155 rfl rfl rfl ?_
        refine y_getX 159 (m (336 + k.toNat) 2) c193_156 rfl (ff336_2 (by omega)) ((hFq5194 (336 + k.toNat) 2 (wMx_h (by omega))).trans ((hFq5188 (336 + k.toNat) 2 (wMx_h (by omega))).trans ((hFq5160 (336 + k.toNat) 2 (wMx_h (by omega))).trans (hFq5157 (336 + k.toNat) 2 (wMx_h (by omega)))))) ?_
        have tb5201 := hT.atp (336 + k.toNat) 2 ((-1)) 47 (ft336_2 (by omega))
        refine y_iconst 160 c193_159 rfl ?_
        refine y_icmp 180 163 c193_160 rfl rfl (yc_eq (by omega) (by omega)) (fun hb5202 => ?_) (fun hb5202 => ?_)
        · have tb5203 := hTq5194.atp 169 6 0 200 rfl
          exact y_mRU c193_180 hTq5194 hF5200 (by omega)
        · refine y_aload 164 c193_163 rfl rfl rfl ?_
          refine y_aload 165 c193_164 rfl rfl rfl ?_
          refine y_aload 166 c193_165 rfl rfl rfl ?_
          refine y_getX 169 (m (336 + k.toNat) 2) c193_166 rfl (ff336_2 (by omega)) ((hFq5194 (336 + k.toNat) 2 (wMx_h (by omega))).trans ((hFq5188 (336 + k.toNat) 2 (wMx_h (by omega))).trans ((hFq5160 (336 + k.toNat) 2 (wMx_h (by omega))).trans (hFq5157 (336 + k.toNat) 2 (wMx_h (by omega)))))) ?_
          refine y_aload 171 c193_169 rfl rfl rfl ?_
          refine y_aload 173 c193_171 rfl rfl rfl ?_
          refine y_getX 176 (m (326 + r5154.toNat) 2) c193_173 rfl (ff326_2 (by omega)) ((hFq5194 (326 + r5154.toNat) 2 (wMx_h (by omega))).trans ((hFq5188 (326 + r5154.toNat) 2 (wMx_h (by omega))).trans ((hFq5160 (326 + r5154.toNat) 2 (wMx_h (by omega))).trans (hFq5157 (326 + r5154.toNat) 2 (wMx_h (by omega)))))) ?_
          have tb5204 := hT.atp (326 + r5154.toNat) 2 0 46 (ft326_2 (by omega))
          refine y_iaT 177 ((-1)) 29 c193_176 rfl (fa252 (by omega)) (by omega) hTq5194 (fz252 (by omega)) (fun v5205 hv5205 gv5205 => ?_)
          have tb5207 := hTq5194.atp 169 6 0 200 rfl
          refine y_callUB 180 [.ref 169, .ref (252 + x.toNat), yI (m (336 + k.toNat) 2), yI v5205] [] c193_177 rfl rfl rfl rfl rfl (ycanO km188 ko169) (t188 hTq5194 (by omega) (by omega) (by omega)) (fun mq5206 nq5206 hq5206 => ?_)
          obtain ⟨rfl, hTq5206, hFq5206, hq5206⟩ := hq5206
          have hF5208 := hF5200.tr hFq5206 (fun _ _ e => e)
          have tb5209 := hTq5206.atp 169 6 0 200 rfl
          exact y_mRU c193_180 hTq5206 hF5208 (by omega)
      · refine y_aload 120 c193_119 rfl rfl rfl ?_
        refine y_aload 122 c193_120 rfl rfl rfl ?_
        refine y_aload 124 c193_122 rfl rfl rfl ?_
        refine y_iconst 125 c193_124 rfl ?_
        have es5211 : mq5188 (326 + r5154.toNat) 3 = m (326 + r5154.toNat) 3 := ((hFq5188 (326 + r5154.toNat) 3 (wMx_h (by omega))).trans ((hFq5160 (326 + r5154.toNat) 3 (wMx_h (by omega))).trans (hFq5157 (326 + r5154.toNat) 3 (wMx_h (by omega)))))
        refine y_callP 128 [.ref (326 + r5154.toNat), yI 1] [.ref (252 + (x + 1).toNat), .ref 169] c193_125 rfl rfl rfl rfl rfl (ycanO km87 (fo326 (by omega))) (t87_316 hTq5188 (by omega) (by omega) (hM.fr (fun k hk => hF5190 _ _ (wMx_h (by omega))) (fun k hk => hF5190 _ _ (wMx_h (by omega))))) (fun r5210 hr5210 => ?_)
        refine y_aload 129 c193_128 rfl rfl rfl ?_
        refine y_aload 130 c193_129 rfl rfl rfl ?_
        refine y_getX 133 (m (336 + k.toNat) 10) c193_130 rfl (ff336_10 (by omega)) ((hFq5188 (336 + k.toNat) 10 (wMx_h (by omega))).trans ((hFq5160 (336 + k.toNat) 10 (wMx_h (by omega))).trans (hFq5157 (336 + k.toNat) 10 (wMx_h (by omega))))) ?_
        have tb5212 := hT.atp (336 + k.toNat) 10 ((-1)) 47 (ft336_10 (by omega))
        refine y_iaT 134 ((-1)) 29 c193_133 rfl (fa252 (by omega)) (by omega) hTq5188 (fz252 (by omega)) (fun v5213 hv5213 gv5213 => ?_)
        have tb5215 := hTq5188.atp 169 6 0 200 rfl
        refine y_callUB 137 [.ref 169, .ref (252 + (x + 1).toNat), yI r5210, yI v5213] [] c193_134 rfl rfl rfl rfl rfl (ycanO km188 ko169) (t188 hTq5188 (by omega) (by omega) (by omega)) (fun mq5214 nq5214 hq5214 => ?_)
        obtain ⟨rfl, hTq5214, hFq5214, hq5214⟩ := hq5214
        have hF5216 := hF5190.tr hFq5214 (fun _ _ e => e)
        refine y_aload 138 c193_137 rfl rfl rfl ?_
        refine y_aload 140 c193_138 rfl rfl rfl ?_
        refine y_getX 143 (m (326 + r5154.toNat) 4) c193_140 rfl (ff326_4 (by omega)) ((hFq5214 (326 + r5154.toNat) 4 (wMx_h (by omega))).trans ((hFq5188 (326 + r5154.toNat) 4 (wMx_h (by omega))).trans ((hFq5160 (326 + r5154.toNat) 4 (wMx_h (by omega))).trans (hFq5157 (326 + r5154.toNat) 4 (wMx_h (by omega)))))) ?_
        have tb5217 := hT.atp (326 + r5154.toNat) 4 0 40 (ft326_4 (by omega))
        refine y_aload 145 c193_143 rfl rfl rfl ?_
        refine y_getX 148 (m (326 + r5154.toNat) 5) c193_145 rfl (ff326_5 (by omega)) ((hFq5214 (326 + r5154.toNat) 5 (wMx_h (by omega))).trans ((hFq5188 (326 + r5154.toNat) 5 (wMx_h (by omega))).trans ((hFq5160 (326 + r5154.toNat) 5 (wMx_h (by omega))).trans (hFq5157 (326 + r5154.toNat) 5 (wMx_h (by omega)))))) ?_
        have tb5218 := hT.atp (326 + r5154.toNat) 5 0 40 (ft326_5 (by omega))
        refine y_iload 149 c193_148 rfl rfl ?_
        refine y_iconst 150 c193_149 rfl ?_
        refine y_iadd 151 c193_150 rfl ?_
        have es5220 : mq5214 169 4 = m 169 4 := ((hFq5214 169 4 rfl).trans ((hFq5188 169 4 rfl).trans ((hFq5160 169 4 rfl).trans (hFq5157 169 4 rfl))))
        have tb5221 := hTq5214.atp 169 6 0 200 rfl
        have es5222 : mq5214 316 16 = m 316 16 := ((hFq5214 316 16 rfl).trans ((hFq5188 316 16 rfl).trans ((hFq5160 316 16 rfl).trans (hFq5157 316 16 rfl))))
        have tb5223 := hT.atp 316 16 0 40 rfl
        have es5224 : mq5214 316 10 = m 316 10 := ((hFq5214 316 10 rfl).trans ((hFq5188 316 10 rfl).trans ((hFq5160 316 10 rfl).trans (hFq5157 316 10 rfl))))
        refine y_mI 154 [.ref 169, yI (m (326 + r5154.toNat) 4), yI (m (326 + r5154.toNat) 5), yI (x + 1)] [] c193_151 rfl rfl rfl rfl rfl (ycanO km197 ko169) kg193 qOut.U hF5216 (hB _ _ _ _ _ _ (by omega) hTq5214 (by omega) (hS.fr (by omega) (by omega) (fun k q _ => hF5216 _ _ (wMx_h (by omega)))) (by omega) (by omega) (by omega) (by omega)) (fun rq5219 mq5219 hTq5219 hFq5219 hq5219 => ?_)
        have hF5225 := hF5216.tr' hFq5219
        refine y_pop 155 c193_154 rfl rfl ?_
        refine y_aload 156 c193_155 rfl rfl rfl ?_
        refine y_getX 159 (m (336 + k.toNat) 2) c193_156 rfl (ff336_2 (by omega)) ((hFq5219 (336 + k.toNat) 2 (wMx_h (by omega))).trans ((hFq5214 (336 + k.toNat) 2 (wMx_h (by omega))).trans ((hFq5188 (336 + k.toNat) 2 (wMx_h (by omega))).trans ((hFq5160 (336 + k.toNat) 2 (wMx_h (by omega))).trans (hFq5157 (336 + k.toNat) 2 (wMx_h (by omega))))))) ?_
        have tb5226 := hT.atp (336 + k.toNat) 2 ((-1)) 47 (ft336_2 (by omega))
        refine y_iconst 160 c193_159 rfl ?_
        refine y_icmp 180 163 c193_160 rfl rfl (yc_eq (by omega) (by omega)) (fun hb5227 => ?_) (fun hb5227 => ?_)
        · have tb5228 := hTq5219.atp 169 6 0 200 rfl
          exact y_mRU c193_180 hTq5219 hF5225 (by omega)
        · refine y_aload 164 c193_163 rfl rfl rfl ?_
          refine y_aload 165 c193_164 rfl rfl rfl ?_
          refine y_aload 166 c193_165 rfl rfl rfl ?_
          refine y_getX 169 (m (336 + k.toNat) 2) c193_166 rfl (ff336_2 (by omega)) ((hFq5219 (336 + k.toNat) 2 (wMx_h (by omega))).trans ((hFq5214 (336 + k.toNat) 2 (wMx_h (by omega))).trans ((hFq5188 (336 + k.toNat) 2 (wMx_h (by omega))).trans ((hFq5160 (336 + k.toNat) 2 (wMx_h (by omega))).trans (hFq5157 (336 + k.toNat) 2 (wMx_h (by omega))))))) ?_
          refine y_aload 171 c193_169 rfl rfl rfl ?_
          refine y_aload 173 c193_171 rfl rfl rfl ?_
          refine y_getX 176 (m (326 + r5154.toNat) 2) c193_173 rfl (ff326_2 (by omega)) ((hFq5219 (326 + r5154.toNat) 2 (wMx_h (by omega))).trans ((hFq5214 (326 + r5154.toNat) 2 (wMx_h (by omega))).trans ((hFq5188 (326 + r5154.toNat) 2 (wMx_h (by omega))).trans ((hFq5160 (326 + r5154.toNat) 2 (wMx_h (by omega))).trans (hFq5157 (326 + r5154.toNat) 2 (wMx_h (by omega))))))) ?_
          have tb5229 := hT.atp (326 + r5154.toNat) 2 0 46 (ft326_2 (by omega))
          refine y_iaT 177 ((-1)) 29 c193_176 rfl (fa252 (by omega)) (by omega) hTq5219 (fz252 (by omega)) (fun v5230 hv5230 gv5230 => ?_)
          have tb5232 := hTq5219.atp 169 6 0 200 rfl
          refine y_callUB 180 [.ref 169, .ref (252 + x.toNat), yI (m (336 + k.toNat) 2), yI v5230] [] c193_177 rfl rfl rfl rfl rfl (ycanO km188 ko169) (t188 hTq5219 (by omega) (by omega) (by omega)) (fun mq5231 nq5231 hq5231 => ?_)
          obtain ⟨rfl, hTq5231, hFq5231, hq5231⟩ := hq5231
          have hF5233 := hF5225.tr hFq5231 (fun _ _ e => e)
          have tb5234 := hTq5231.atp 169 6 0 200 rfl
          exact y_mRU c193_180 hTq5231 hF5233 (by omega)
  · exact y_mThr c193_44 rfl hT hF (by decide) qOut.U
set_option maxRecDepth 100000 in
theorem t196_316 {L : Nat} {xs : Nat → Int32} {d nn : Nat} {m : yM} {k x : Int} (hT : Ty gT m) (hp : m 169 4 = 1) {b : Int} (hS : PS 316 m) (hkc : 0 ≤ k ∧ k < m 316 16) (hx : 0 ≤ x ∧ x ≤ 3) (hb : b ≤ m 169 6) (hB : BR316 L xs (d + 2) (b + 1)) : YC (gZ L xs) (d + 4) 196 [.ref 169, yI k, yI x] m nn (qTI nn m (fun r m' => (r = 0 ∨ r = 1) ∧ m 169 6 ≤ m' 169 6)) := by
  have tb16 := hT.atp 316 16 0 40 rfl
  have tb10 := hT.atp 316 10 0 10 rfl
  have tb6 := hT.atp 169 6 0 200 rfl
  have hsv : SV 336 m k.toNat := (hS.1.1 k.toNat (by omega) (by omega)).1
  unfold SV at hsv
  obtain ⟨s1, s2, s3, s4, s5⟩ := hsv
  have hen : m (336 + k.toNat) 12 ≤ m 316 16 ∧ ((m (336 + k.toNat) 0 = 0 ∨ m (336 + k.toNat) 0 = 1) → m (336 + k.toNat) 11 ≤ m 316 16) := hS.2.1 k.toNat (by omega) (by omega)
  have hnl : (m (336 + k.toNat) 0 = 3 ∨ m (336 + k.toNat) 0 = 9) → m (336 + k.toNat) 6 ≤ 7 := hS.2.2.1 k.toNat (by omega) (by omega)
  refine YC.mkB [some (.ref 169), some (yI k), some (yI x), none, none] kn196 rfl rfl ?_
  have hF : Fr wMx m m := Fr.rf
  refine y_aload 1 c196_0 rfl rfl rfl ?_
  have tb5236 := hT.atp 169 6 0 200 rfl
  refine y_mU 4 [.ref 169] [] c196_1 rfl rfl rfl rfl rfl (ycanO km189 ko169) kg196 qOut.I hF (t189 hT) (fun mq5235 hTq5235 hFq5235 hq5235 => ?_)
  have hF5237 := hF.tr' hFq5235
  refine y_aload 5 c196_4 rfl rfl rfl ?_
  refine y_getS 8 (B := 316) c196_5 rfl kf169_4 (by first | rfl | (rw [show mq5235 169 4 = 1 from by have e : mq5235 169 4 = m 169 4 := (hFq5235 169 4 rfl); omega]; rfl)) ?_
  refine y_getR 11 c196_8 rfl kf316_6 ?_
  refine y_iload 12 c196_11 rfl rfl ?_
  refine y_aaload 13 c196_12 rfl kr323 (by omega) ?_
  refine y_astore 14 c196_13 rfl rfl rfl ?_
  refine y_aload 15 c196_14 rfl rfl rfl ?_
  refine y_getR 18 c196_15 rfl kf169_3 ?_
  refine y_iload 19 c196_18 rfl rfl ?_
  refine y_aaload 20 c196_19 rfl kr251 (by omega) ?_
  refine y_astore 22 c196_20 rfl rfl rfl ?_
  refine y_aload 23 c196_22 rfl rfl rfl ?_
  refine y_getX 26 (m (336 + k.toNat) 0) c196_23 rfl (ff336_0 (by omega)) (hFq5235 (336 + k.toNat) 0 (wMx_h (by omega))) ?_
  have tb5238 := hT.atp (336 + k.toNat) 0 0 9 (ft336_0 (by omega))
  by_cases hk5239 : m (336 + k.toNat) 0 = 0
  · refine y_top 0 hk5239 ?_
    refine y_tsw 60 c196_26 (by decide) (by decide) rfl rfl ?_
    refine y_aload 62 c196_60 rfl rfl rfl ?_
    refine y_aload 63 c196_62 rfl rfl rfl ?_
    refine y_getX 66 (m (336 + k.toNat) 3) c196_63 rfl (ff336_3 (by omega)) (hFq5235 (336 + k.toNat) 3 (wMx_h (by omega))) ?_
    have tb5240 := hT.atp (336 + k.toNat) 3 ((-1)) 47 (ft336_3 (by omega))
    refine y_iaT 67 ((-1)) 29 c196_66 rfl (fa252 (by omega)) (by omega) hTq5235 (fz252 (by omega)) (fun v5241 hv5241 gv5241 => ?_)
    refine y_iconst 68 c196_67 rfl ?_
    refine y_icmp 86 71 c196_68 rfl rfl (yc_eq (by omega) (by omega)) (fun hb5242 => ?_) (fun hb5242 => ?_)
    · refine y_aload 87 c196_86 rfl rfl rfl ?_
      refine y_aload 88 c196_87 rfl rfl rfl ?_
      refine y_getX 91 (m (336 + k.toNat) 11) c196_88 rfl (ff336_11 (by omega)) (hFq5235 (336 + k.toNat) 11 (wMx_h (by omega))) ?_
      have tb5243 := hT.atp (336 + k.toNat) 11 0 40 (ft336_11 (by omega))
      refine y_aload 92 c196_91 rfl rfl rfl ?_
      refine y_getX 95 (m (336 + k.toNat) 12) c196_92 rfl (ff336_12 (by omega)) (hFq5235 (336 + k.toNat) 12 (wMx_h (by omega))) ?_
      have tb5244 := hT.atp (336 + k.toNat) 12 0 40 (ft336_12 (by omega))
      refine y_iload 96 c196_95 rfl rfl ?_
      have es5246 : mq5235 169 4 = m 169 4 := (hFq5235 169 4 rfl)
      have tb5247 := hT.atp 169 4 ((-1)) 1 rfl
      have tb5248 := hTq5235.atp 169 6 0 200 rfl
      have es5249 : mq5235 316 16 = m 316 16 := (hFq5235 316 16 rfl)
      have tb5250 := hT.atp 316 16 0 40 rfl
      have es5251 : mq5235 316 10 = m 316 10 := (hFq5235 316 10 rfl)
      have tb5252 := hT.atp 316 10 0 10 rfl
      refine y_mI 99 [.ref 169, yI (m (336 + k.toNat) 11), yI (m (336 + k.toNat) 12), yI x] [] c196_96 rfl rfl rfl rfl rfl (ycanO km197 ko169) kg196 qOut.I hF5237 (hB _ _ _ _ _ _ (by omega) hTq5235 (by omega) (hS.fr (by omega) (by omega) (fun k q _ => hF5237 _ _ (wMx_h (by omega)))) (by omega) (by omega) (by omega) (by omega)) (fun rq5245 mq5245 hTq5245 hFq5245 hq5245 => ?_)
      have hF5253 := hF5237.tr' hFq5245
      have tb5254 := hTq5245.atp 169 6 0 200 rfl
      exact y_mRI c196_99 (y_fit1 (by omega)) hTq5245 hF5253 (by omega)
    · refine y_aload 72 c196_71 rfl rfl rfl ?_
      refine y_iload 73 c196_72 rfl rfl ?_
      refine y_iconst 74 c196_73 rfl ?_
      refine y_iadd 75 c196_74 rfl ?_
      refine y_aload 76 c196_75 rfl rfl rfl ?_
      refine y_getX 79 (m (336 + k.toNat) 11) c196_76 rfl (ff336_11 (by omega)) (hFq5235 (336 + k.toNat) 11 (wMx_h (by omega))) ?_
      have tb5255 := hT.atp (336 + k.toNat) 11 0 40 (ft336_11 (by omega))
      refine y_iload 80 c196_79 rfl rfl ?_
      have es5257 : mq5235 169 4 = m 169 4 := (hFq5235 169 4 rfl)
      have tb5258 := hT.atp 169 4 ((-1)) 1 rfl
      have tb5259 := hTq5235.atp 169 6 0 200 rfl
      have es5260 : mq5235 316 16 = m 316 16 := (hFq5235 316 16 rfl)
      have tb5261 := hT.atp 316 16 0 40 rfl
      have es5262 : mq5235 316 10 = m 316 10 := (hFq5235 316 10 rfl)
      have tb5263 := hT.atp 316 10 0 10 rfl
      refine y_mI 83 [.ref 169, yI (k + 1), yI (m (336 + k.toNat) 11), yI x] [] c196_80 rfl rfl rfl rfl rfl (ycanO km197 ko169) kg196 qOut.I hF5237 (hB _ _ _ _ _ _ (by omega) hTq5235 (by omega) (hS.fr (by omega) (by omega) (fun k q _ => hF5237 _ _ (wMx_h (by omega)))) (by omega) (by omega) (by omega) (by omega)) (fun rq5256 mq5256 hTq5256 hFq5256 hq5256 => ?_)
      have hF5264 := hF5237.tr' hFq5256
      refine y_goto 99 c196_83 rfl ?_
      have tb5265 := hTq5256.atp 169 6 0 200 rfl
      exact y_mRI c196_99 (y_fit1 (by omega)) hTq5256 hF5264 (by omega)
  by_cases hk5266 : m (336 + k.toNat) 0 = 1
  · refine y_top 1 hk5266 ?_
    refine y_tsw 100 c196_26 (by decide) (by decide) rfl rfl ?_
    refine y_aload 101 c196_100 rfl rfl rfl ?_
    refine y_iload 102 c196_101 rfl rfl ?_
    refine y_iload 103 c196_102 rfl rfl ?_
    have es5268 : mq5235 169 4 = m 169 4 := (hFq5235 169 4 rfl)
    have tb5269 := hT.atp 169 4 ((-1)) 1 rfl
    have tb5270 := hTq5235.atp 169 6 0 200 rfl
    have es5271 : mq5235 316 16 = m 316 16 := (hFq5235 316 16 rfl)
    have tb5272 := hT.atp 316 16 0 40 rfl
    have es5273 : mq5235 316 10 = m 316 10 := (hFq5235 316 10 rfl)
    have tb5274 := hT.atp 316 10 0 10 rfl
    have es5275 : mq5235 (336 + k.toNat) 3 = m (336 + k.toNat) 3 := (hFq5235 (336 + k.toNat) 3 (wMx_h (by omega)))
    have tb5276 := hT.atp (336 + k.toNat) 3 ((-1)) 47 (ft336_3 (by omega))
    have es5277 : mq5235 (336 + k.toNat) 11 = m (336 + k.toNat) 11 := (hFq5235 (336 + k.toNat) 11 (wMx_h (by omega)))
    have tb5278 := hT.atp (336 + k.toNat) 11 0 40 (ft336_11 (by omega))
    refine y_mI 106 [.ref 169, yI k, yI x] [] c196_103 rfl rfl rfl rfl rfl (ycanO km190 ko169) kg196 qOut.I hF5237 (t190_316 (k := k) (b := b + 1) hTq5235 (by omega) (hS.fr (by omega) (by omega) (fun k q _ => hF5237 _ _ (wMx_h (by omega)))) (by omega) (by omega) (by omega) hB (by omega) (by omega)) (fun rq5267 mq5267 hTq5267 hFq5267 hq5267 => ?_)
    have hF5279 := hF5237.tr' hFq5267
    have tb5280 := hTq5267.atp 169 6 0 200 rfl
    exact y_mRI c196_106 (y_fit1 (by omega)) hTq5267 hF5279 (by omega)
  by_cases hk5281 : m (336 + k.toNat) 0 = 2
  · refine y_top 2 hk5281 ?_
    refine y_tsw 107 c196_26 (by decide) (by decide) rfl rfl ?_
    refine y_aload 108 c196_107 rfl rfl rfl ?_
    refine y_aload 110 c196_108 rfl rfl rfl ?_
    refine y_aload 111 c196_110 rfl rfl rfl ?_
    refine y_getX 114 (m (336 + k.toNat) 2) c196_111 rfl (ff336_2 (by omega)) (hFq5235 (336 + k.toNat) 2 (wMx_h (by omega))) ?_
    have tb5282 := hT.atp (336 + k.toNat) 2 ((-1)) 47 (ft336_2 (by omega))
    refine y_aload 116 c196_114 rfl rfl rfl ?_
    refine y_aload 117 c196_116 rfl rfl rfl ?_
    refine y_getX 120 (m (336 + k.toNat) 3) c196_117 rfl (ff336_3 (by omega)) (hFq5235 (336 + k.toNat) 3 (wMx_h (by omega))) ?_
    have tb5283 := hT.atp (336 + k.toNat) 3 ((-1)) 47 (ft336_3 (by omega))
    refine y_iaT 121 ((-1)) 29 c196_120 rfl (fa252 (by omega)) (by omega) hTq5235 (fz252 (by omega)) (fun v5284 hv5284 gv5284 => ?_)
    have tb5286 := hTq5235.atp 169 6 0 200 rfl
    refine y_callUB 124 [.ref 169, .ref (252 + x.toNat), yI (m (336 + k.toNat) 2), yI v5284] [] c196_121 rfl rfl rfl rfl rfl (ycanO km188 ko169) (t188 hTq5235 (by omega) (by omega) (by omega)) (fun mq5285 nq5285 hq5285 => ?_)
    obtain ⟨rfl, hTq5285, hFq5285, hq5285⟩ := hq5285
    have hF5287 := hF5237.tr hFq5285 (fun _ _ e => e)
    refine y_iconst 125 c196_124 rfl ?_
    have tb5288 := hTq5285.atp 169 6 0 200 rfl
    exact y_mRI c196_125 (y_fit1 (by omega)) hTq5285 hF5287 (by omega)
  by_cases hk5289 : m (336 + k.toNat) 0 = 3
  · refine y_top 3 hk5289 ?_
    refine y_tsw 126 c196_26 (by decide) (by decide) rfl rfl ?_
    refine y_aload 127 c196_126 rfl rfl rfl ?_
    refine y_getR 130 c196_127 rfl kf169_2 ?_
    refine y_aload 131 c196_130 rfl rfl rfl ?_
    refine y_aload 133 c196_131 rfl rfl rfl ?_
    refine y_aload 134 c196_133 rfl rfl rfl ?_
    refine y_getX 137 (m (336 + k.toNat) 2) c196_134 rfl (ff336_2 (by omega)) (hFq5235 (336 + k.toNat) 2 (wMx_h (by omega))) ?_
    have tb5290 := hT.atp (336 + k.toNat) 2 ((-1)) 47 (ft336_2 (by omega))
    refine y_iaT 138 ((-1)) 29 c196_137 rfl (fa252 (by omega)) (by omega) hTq5235 (fz252 (by omega)) (fun v5291 hv5291 gv5291 => ?_)
    refine y_aload 139 c196_138 rfl rfl rfl ?_
    refine y_getX 142 (m (336 + k.toNat) 6) c196_139 rfl (ff336_6 (by omega)) (hFq5235 (336 + k.toNat) 6 (wMx_h (by omega))) ?_
    have tb5292 := hT.atp (336 + k.toNat) 6 ((-1)) 11 (ft336_6 (by omega))
    have es5294 : mq5235 169 4 = m 169 4 := (hFq5235 169 4 rfl)
    have tb5295 := hT.atp 169 4 ((-1)) 1 rfl
    have tb5296 := hTq5235.atp 169 6 0 200 rfl
    refine y_mI 145 [.ref 169, yI v5291, yI (m (336 + k.toNat) 6)] [.ref 220] c196_142 rfl rfl rfl rfl rfl (ycanO km192 ko169) kg196 qOut.I hF5237 (t192_316 hTq5235 (by omega) (by omega) (by omega)) (fun rq5293 mq5293 hTq5293 hFq5293 hq5293 => ?_)
    obtain ⟨hq5293, hmq5293⟩ := hq5293
    obtain rfl := hmq5293.symm
    refine y_aaload 146 c196_145 rfl kr220 (by omega) ?_
    refine y_aload 147 c196_146 rfl rfl rfl ?_
    refine y_getX 150 (m (336 + k.toNat) 6) c196_147 rfl (ff336_6 (by omega)) (hFq5235 (336 + k.toNat) 6 (wMx_h (by omega))) ?_
    refine y_aload 152 c196_150 rfl rfl rfl ?_
    refine y_aload 153 c196_152 rfl rfl rfl ?_
    refine y_getX 156 (m (336 + k.toNat) 3) c196_153 rfl (ff336_3 (by omega)) (hFq5235 (336 + k.toNat) 3 (wMx_h (by omega))) ?_
    have tb5297 := hT.atp (336 + k.toNat) 3 ((-1)) 47 (ft336_3 (by omega))
    refine y_iaT 157 ((-1)) 29 c196_156 rfl (fa252 (by omega)) (by omega) hTq5235 (fz252 (by omega)) (fun v5298 hv5298 gv5298 => ?_)
    refine y_iastore 158 c196_157 rfl (fa221 (by omega)) (by omega) (y_nar0 _) ?_
    have hT5299 := hTq5235.up (221 + rq5293.toNat) ((m (336 + k.toNat) 6).toNat) v5298 ((-1)) 29 (fz221 (by omega)) (by omega)
    have hF5300 := hF5237.up (221 + rq5293.toNat) ((m (336 + k.toNat) 6).toNat) v5298 (wMx_r (by omega))
    refine y_iconst 159 c196_158 rfl ?_
    have es5301 : (yup mq5235 (221 + rq5293.toNat) ((m (336 + k.toNat) 6).toNat) v5298) 169 6 = mq5235 169 6 := (yup_na (by omega))
    exact y_mRI c196_159 (y_fit1 (by omega)) hT5299 hF5300 (by omega)
  by_cases hk5302 : m (336 + k.toNat) 0 = 4
  · refine y_top 4 hk5302 ?_
    refine y_tsw 160 c196_26 (by decide) (by decide) rfl rfl ?_
    refine y_aload 161 c196_160 rfl rfl rfl ?_
    refine y_aload 162 c196_161 rfl rfl rfl ?_
    refine y_iload 163 c196_162 rfl rfl ?_
    have es5304 : mq5235 169 4 = m 169 4 := (hFq5235 169 4 rfl)
    have tb5305 := hT.atp 169 4 ((-1)) 1 rfl
    have tb5306 := hTq5235.atp 169 6 0 200 rfl
    have es5307 : mq5235 316 16 = m 316 16 := (hFq5235 316 16 rfl)
    have tb5308 := hT.atp 316 16 0 40 rfl
    have es5309 : mq5235 316 10 = m 316 10 := (hFq5235 316 10 rfl)
    have tb5310 := hT.atp 316 10 0 10 rfl
    have es5311 : mq5235 (336 + k.toNat) 0 = m (336 + k.toNat) 0 := (hFq5235 (336 + k.toNat) 0 (wMx_h (by omega)))
    refine y_mU 166 [.ref 169, .ref (336 + k.toNat), yI x] [] c196_163 rfl rfl rfl rfl rfl (ycanO km193 ko169) kg196 qOut.I hF5237 (t193_316 (k := k) (b := b + 1) hTq5235 (by omega) (hS.fr (by omega) (by omega) (fun k q _ => hF5237 _ _ (wMx_h (by omega)))) (by omega) (by omega) (by omega) hB (by omega)) (fun mq5303 hTq5303 hFq5303 hq5303 => ?_)
    have hF5312 := hF5237.tr' hFq5303
    refine y_iconst 167 c196_166 rfl ?_
    have tb5313 := hTq5303.atp 169 6 0 200 rfl
    exact y_mRI c196_167 (y_fit1 (by omega)) hTq5303 hF5312 (by omega)
  refine y_tswd 168 c196_26 (by omega) (by omega) rfl ?_
  refine y_aload 169 c196_168 rfl rfl rfl ?_
  refine y_aload 171 c196_169 rfl rfl rfl ?_
  refine y_aload 172 c196_171 rfl rfl rfl ?_
  refine y_getX 175 (m (336 + k.toNat) 2) c196_172 rfl (ff336_2 (by omega)) (hFq5235 (336 + k.toNat) 2 (wMx_h (by omega))) ?_
  have tb5314 := hT.atp (336 + k.toNat) 2 ((-1)) 47 (ft336_2 (by omega))
  refine y_aload 176 c196_175 rfl rfl rfl ?_
  refine y_aload 177 c196_176 rfl rfl rfl ?_
  refine y_aload 179 c196_177 rfl rfl rfl ?_
  have es5316 : mq5235 169 4 = m 169 4 := (hFq5235 169 4 rfl)
  have tb5317 := hT.atp 169 4 ((-1)) 1 rfl
  have tb5318 := hTq5235.atp 169 6 0 200 rfl
  have es5319 : mq5235 316 16 = m 316 16 := (hFq5235 316 16 rfl)
  have tb5320 := hT.atp 316 16 0 40 rfl
  have es5321 : mq5235 316 10 = m 316 10 := (hFq5235 316 10 rfl)
  have tb5322 := hT.atp 316 10 0 10 rfl
  have es5323 : mq5235 (336 + k.toNat) 0 = m (336 + k.toNat) 0 := (hFq5235 (336 + k.toNat) 0 (wMx_h (by omega)))
  have es5324 : mq5235 (336 + k.toNat) 3 = m (336 + k.toNat) 3 := (hFq5235 (336 + k.toNat) 3 (wMx_h (by omega)))
  have tb5325 := hT.atp (336 + k.toNat) 3 ((-1)) 47 (ft336_3 (by omega))
  have es5326 : mq5235 (336 + k.toNat) 6 = m (336 + k.toNat) 6 := (hFq5235 (336 + k.toNat) 6 (wMx_h (by omega)))
  have tb5327 := hT.atp (336 + k.toNat) 6 ((-1)) 11 (ft336_6 (by omega))
  refine y_mI 182 [.ref 169, .ref (336 + k.toNat), .ref (252 + x.toNat)] [yI (m (336 + k.toNat) 2), .ref (252 + x.toNat), .ref 169] c196_179 rfl rfl rfl rfl rfl (ycanO km195 ko169) kg196 qOut.I hF5237 (t195_316 (k := k) hTq5235 (by omega) (by omega) (by omega) (by omega) (by omega) (by omega)) (fun rq5315 mq5315 hTq5315 hFq5315 hq5315 => ?_)
  have hF5328 := hF5237.tr' hFq5315
  have tb5330 := hTq5315.atp 169 6 0 200 rfl
  refine y_callUB 185 [.ref 169, .ref (252 + x.toNat), yI (m (336 + k.toNat) 2), yI rq5315] [] c196_182 rfl rfl rfl rfl rfl (ycanO km188 ko169) (t188 hTq5315 (by omega) (by omega) (by omega)) (fun mq5329 nq5329 hq5329 => ?_)
  obtain ⟨rfl, hTq5329, hFq5329, hq5329⟩ := hq5329
  have hF5331 := hF5328.tr hFq5329 (fun _ _ e => e)
  refine y_iconst 186 c196_185 rfl ?_
  have tb5332 := hTq5329.atp 169 6 0 200 rfl
  exact y_mRI c196_186 (y_fit1 (by omega)) hTq5329 hF5331 (by omega)
set_option maxRecDepth 100000 in
theorem t197a_316 {L : Nat} {xs : Nat → Int32} {d nn : Nat} {m : yM} {f e x b : Int} (hT : Ty gT m) (hp : m 169 4 = 1) (hS : PS 316 m) (hb : b ≤ m 169 6) (he : 0 ≤ e ∧ e ≤ m 316 16) (hx : 0 ≤ x ∧ x ≤ 3) (hB : BR316 L xs (d + 2) (b + 1)) : ∀ (km : Nat) (p : Int) (i : Int) (mi : yM), 40 - i = km → 0 ≤ p ∧ p ≤ 40 → 0 ≤ i ∧ i ≤ 40 → Ty gT mi → Fr wMx m mi → m 169 6 ≤ mi 169 6 → YW (gZ L xs) 197 (d + 5) 6 [some (.ref 169), some (yI f), some (yI e), some (yI x), some (yI p), some (yI i)] [] mi nn (qTI nn m (fun r m' => (r = 0 ∨ r = 1) ∧ m 169 6 ≤ m' 169 6)) := by
  intro km
  induction km using Nat.strongRecOn with
  | ind km ih =>
    intro p i mi hk hpp hi hTi hFi h6
    have tb16 := hT.atp 316 16 0 40 rfl
    have tb10 := hT.atp 316 10 0 10 rfl
    have tb6 := hT.atp 169 6 0 200 rfl
    refine y_iload 8 c197_6 rfl rfl ?_
    refine y_iconst 10 c197_8 rfl ?_
    refine y_icmp 52 13 c197_10 rfl rfl (yc_ge (by omega) (by omega)) (fun hb5333 => ?_) (fun hb5333 => ?_)
    · refine y_iconst 53 c197_52 rfl ?_
      have tb5334 := hTi.atp 169 6 0 200 rfl
      exact y_mRI c197_53 (y_fit1 (by omega)) hTi hFi (by omega)
    · refine y_iload 15 c197_13 rfl rfl ?_
      refine y_iload 16 c197_15 rfl rfl ?_
      refine y_icmp 52 19 c197_16 rfl rfl (yc_ge (by omega) (by omega)) (fun hb5335 => ?_) (fun hb5335 => ?_)
      · refine y_iconst 53 c197_52 rfl ?_
        have tb5336 := hTi.atp 169 6 0 200 rfl
        exact y_mRI c197_53 (y_fit1 (by omega)) hTi hFi (by omega)
      · refine y_aload 20 c197_19 rfl rfl rfl ?_
        refine y_iload 22 c197_20 rfl rfl ?_
        refine y_iload 23 c197_22 rfl rfl ?_
        have es5338 : mi 169 4 = m 169 4 := (hFi 169 4 rfl)
        have tb5339 := hT.atp 169 4 ((-1)) 1 rfl
        have tb5340 := hTi.atp 169 6 0 200 rfl
        have es5341 : mi 316 16 = m 316 16 := (hFi 316 16 rfl)
        have tb5342 := hT.atp 316 16 0 40 rfl
        have es5343 : mi 316 10 = m 316 10 := (hFi 316 10 rfl)
        have tb5344 := hT.atp 316 10 0 10 rfl
        refine y_mI 26 [.ref 169, yI p, yI x] [] c197_23 rfl rfl rfl rfl rfl (ycanO km196 ko169) kg197 qOut.I hFi (t196_316 (b := b) hTi (by omega) (hS.fr (by omega) (by omega) (fun k q _ => hFi _ _ (wMx_h (by omega)))) (by omega) (by omega) (by omega) hB) (fun rq5337 mq5337 hTq5337 hFq5337 hq5337 => ?_)
        have hF5345 := hFi.tr' hFq5337
        refine y_if 31 29 c197_26 rfl rfl (yz_eq (by omega)) (fun hb5346 => ?_) (fun hb5346 => ?_)
        · refine y_aload 32 c197_31 rfl rfl rfl ?_
          refine y_getS 35 (B := 316) c197_32 rfl kf169_4 (by first | rfl | (rw [show mq5337 169 4 = 1 from by have e : mq5337 169 4 = m 169 4 := ((hFq5337 169 4 rfl).trans (hFi 169 4 rfl)); omega]; rfl)) ?_
          refine y_getR 38 c197_35 rfl kf316_6 ?_
          refine y_iload 40 c197_38 rfl rfl ?_
          refine y_aaload 41 c197_40 rfl kr323 (by omega) ?_
          refine y_getX 44 (m (336 + p.toNat) 12) c197_41 rfl (ff336_12 (by omega)) ((hFq5337 (336 + p.toNat) 12 (wMx_h (by omega))).trans (hFi (336 + p.toNat) 12 (wMx_h (by omega)))) ?_
          have tb5347 := hT.atp (336 + p.toNat) 12 0 40 (ft336_12 (by omega))
          refine y_istore 46 c197_44 rfl rfl ?_
          refine y_iinc 49 c197_46 rfl rfl rfl ?_
          refine y_goto 6 c197_49 rfl ?_
          exact ih (40 - (i + 1) : Int).toNat (by omega) (m (336 + p.toNat) 12) (i + 1)  _ (by omega) (by omega) (by omega) hTq5337 hF5345 (by have e : mq5337 169 6 = mq5337 169 6 := rfl; omega)
        · refine y_iconst 30 c197_29 rfl ?_
          have tb5348 := hTq5337.atp 169 6 0 200 rfl
          exact y_mRI c197_30 (y_fit1 (by omega)) hTq5337 hF5345 (by omega)
set_option maxRecDepth 100000 in
theorem t197_316 {L : Nat} {xs : Nat → Int32} {d nn : Nat} {m : yM} {f e x b : Int} (hT : Ty gT m) (hp : m 169 4 = 1) (hS : PS 316 m) (hb : b ≤ m 169 6) (he : 0 ≤ e ∧ e ≤ m 316 16) (hx : 0 ≤ x ∧ x ≤ 3) (hB : BR316 L xs (d + 2) (b + 1)) (hf : 0 ≤ f ∧ f ≤ 40) : YC (gZ L xs) (d + 5) 197 [.ref 169, yI f, yI e, yI x] m nn (qTI nn m (fun r m' => (r = 0 ∨ r = 1) ∧ m 169 6 ≤ m' 169 6)) := by
  have tb16 := hT.atp 316 16 0 40 rfl
  have tb10 := hT.atp 316 10 0 10 rfl
  have tb6 := hT.atp 169 6 0 200 rfl
  refine YC.mkB [some (.ref 169), some (yI f), some (yI e), some (yI x), none, none] kn197 rfl rfl ?_
  have hF : Fr wMx m m := Fr.rf
  refine y_iload 1 c197_0 rfl rfl ?_
  refine y_istore 3 c197_1 rfl rfl ?_
  refine y_iconst 4 c197_3 rfl ?_
  refine y_istore 6 c197_4 rfl rfl ?_
  exact t197a_316 hT hp hS hb he hx hB 40 f 0 m (by omega) hf (by omega) hT Fr.rf (by omega)
theorem tBR_316 {L : Nat} {xs : Nat → Int32} {d : Nat} : ∀ (n : Nat) (b : Int), 201 - b = n → BR316 L xs (3 * n + d + 2) b := by
  intro n
  induction n with
  | zero => intro b hb nn m f e x dd hd hT hp hS h6 hf he hx; exfalso; have := hT.atp 169 6 0 200 rfl; omega
  | succ n ih =>
    intro b hb nn m f e x dd hd hT hp hS h6 hf he hx
    obtain ⟨d', rfl⟩ : ∃ d', dd = d' + 5 := ⟨dd - 5, by omega⟩
    have h1 : BR316 L xs (d' + 2) (b + 1) := fun nn m f e x dd hd => ih (b + 1) (by omega) nn m f e x dd (by omega)
    exact t197_316 hT hp hS h6 he hx h1 hf
end
section
/-! THE CLASS: what stands between its calls -/
def wCl (a q : Nat) : Bool := (a == 0 && (q == 4 || q == 5 || q == 7)) || decide (1 ≤ a ∧ a < 376) || a == 413
def CI (A B : Nat) (ix : Int) (m : yM) : Prop := Ty gT m ∧ m 0 4 = ix ∧ m 0 5 = 1 - ix ∧ PS A m ∧ MP B m ∧ (m 8 4 = ix ∨ (m A 13 = 0 ∧ m A 15 = 0))
def CJ (m : yM) : Prop := CI 256 326 0 m ∨ CI 316 266 1 m
theorem CI.fr {A B : Nat} {ix : Int} {m m' : yM} (h : CI A B ix m) (hA : 256 ≤ A ∧ A ≤ 316 ∧ 256 ≤ B ∧ B ≤ 366) (h16 : m A 16 ≤ 40) (h10 : m A 10 ≤ 10) (hT : Ty gT m') (e : ∀ a q, (a = 0 ∧ (q = 4 ∨ q = 5)) ∨ (a = 8 ∧ q = 4) ∨ (256 ≤ a ∧ a < 376) → m' a q = m a q) : CI A B ix m' := by
  obtain ⟨-, h1, h2, h3, h4, h5⟩ := h
  refine ⟨hT, by rw [e 0 4 (by omega)]; exact h1, by rw [e 0 5 (by omega)]; exact h2, h3.fr h16 h10 (fun k q hk => e _ _ (by omega)), h4.fr (fun k hk => e _ _ (by omega)) (fun k hk => e _ _ (by omega)), ?_⟩
  rw [e 8 4 (by omega), e A 13 (by omega), e A 15 (by omega)]
  exact h5
theorem wCl_of {w1 : Nat → Nat → Bool} (h : ∀ a q, w1 a q = true → (a = 0 ∧ (q = 4 ∨ q = 5 ∨ q = 7)) ∨ (1 ≤ a ∧ a < 376) ∨ a = 413) : ∀ a q, w1 a q = true → wCl a q = true := by
  intro a q e
  have := h a q e
  simp [wCl]
  omega
theorem wMx_wCl : ∀ a q, wMx a q = true → wCl a q = true := wCl_of (fun a q h => by simp [wMx] at h; omega)
theorem wFd8_wCl : ∀ a q, wFd8 a q = true → wCl a q = true := wCl_of (fun a q h => by simp [wFd8] at h; omega)
theorem wPs256_wCl : ∀ a q, wPs256 a q = true → wCl a q = true := wCl_of (fun a q h => by simp [wPs256] at h; omega)
theorem wPs316_wCl : ∀ a q, wPs316 a q = true → wCl a q = true := wCl_of (fun a q h => by simp [wPs316] at h; omega)
/-- what the law gets of a call -/
def qW (nn : Nat) (m : yM) : xO → yM → Nat → Prop := fun o m' n' => ∃ x : Int, o = .inl (some (yI x)) ∧ (0 ≤ x ∧ x ≤ 4) ∧ (n' = nn ∨ n' = nn + 1) ∧ Fr wCl m m' ∧ CJ m'
end
section
/-! HANDLERS, cut. Printed by wip/whole/gen94.py -/
theorem kh159_5_11 : gHd 159 5 11 = some (some 13) := by decide +kernel
theorem kh165_7_11 : gHd 165 7 11 = some (some 15) := by decide +kernel
theorem kh169_5_11 : gHd 169 5 11 = some (some 13) := by decide +kernel
theorem kh173_4_11 : gHd 173 4 11 = some (some 12) := by decide +kernel
theorem kh177_4_11 : gHd 177 4 11 = some (some 12) := by decide +kernel
theorem kh181_5_11 : gHd 181 5 11 = some (some 13) := by decide +kernel
theorem kh184_5_11 : gHd 184 5 11 = some (some 13) := by decide +kernel
theorem kh184_5_9 : gHd 184 5 9 = some (some 17) := by decide +kernel
theorem kh200_3_10 : gHd 200 3 10 = some (some 20) := by decide +kernel
theorem kh200_3_11 : gHd 200 3 11 = some (some 11) := by decide +kernel
theorem kh200_3_12 : gHd 200 3 12 = some (some 14) := by decide +kernel
theorem kh200_3_13 : gHd 200 3 13 = some (some 17) := by decide +kernel
theorem kh213_5_11 : gHd 213 5 11 = some (some 13) := by decide +kernel
theorem kh216_4_9 : gHd 216 4 9 = some (some 12) := by decide +kernel
theorem kh28_4_9 : gHd 28 4 9 = some (some 12) := by decide +kernel
theorem kh95_3_9 : gHd 95 3 9 = some (some 11) := by decide +kernel
def qC (nn : Nat) (m : yM) (a : Int) : xO → yM → Nat → Prop := fun o m' n' => ∃ x : Int, o = .inl (some (yI x)) ∧ Ty gT m' ∧ ((x = 1 ∧ ¬ (0 ≤ a ∧ a ≤ m 0 6) ∧ n' = nn + 1 ∧ m' = m) ∨ (x = 0 ∧ (0 ≤ a ∧ a ≤ m 0 6) ∧ n' = nn ∧ m' = yup (yup m 0 6 (m 0 6 - a)) 413 0 (m 0 6 - a)))
set_option maxRecDepth 100000 in
theorem t28 {L : Nat} {xs : Nat → Int32} {d nn : Nat} {m : yM} {a : Int} (hT : Ty gT m) (ra : -2147483648 ≤ a ∧ a < 2147483648) : YC (gZ L xs) (d + 1) 28 [.ref 0, yI a, .ref 413] m nn (qC nn m a) := by
  have tb6 := hT.atp 0 6 0 320 rfl
  refine YC.mkB [some (.ref 0), some (yI a), some (.ref 413), none] kn28 rfl rfl ?_
  refine y_aload 1 c28_0 rfl rfl rfl ?_
  refine y_iconst 2 c28_1 rfl ?_
  refine y_aload 3 c28_2 rfl rfl rfl ?_
  refine y_iload 4 c28_3 rfl rfl ?_
  refine y_inlB 7 [.ref 0, yI a] [yI 0, .ref 413] [some (.ref 0), some (yI a)] c28_4 rfl rfl rfl rfl rfl (ycanO km27 ko0) kn27 rfl rfl ?_
  refine y_iload 1 c27_0 rfl rfl ?_
  refine y_if 12 4 c27_1 rfl rfl (yz_lt (by omega)) (fun hb5803 => ?_) (fun hb5803 => ?_)
  · refine y_throwB c27_12 rfl ?_
    refine yK_in kh28_4_9 ?_
    refine y_astore 13 c28_12 rfl rfl rfl ?_
    refine y_iconst 14 c28_13 rfl ?_
    exact y_ireturn c28_14 (y_fit0 _) ⟨_, rfl, hT, Or.inl ⟨rfl, by omega, rfl, rfl⟩⟩
  · refine y_iload 5 c27_4 rfl rfl ?_
    refine y_aload 6 c27_5 rfl rfl rfl ?_
    refine y_getX 9 (m 0 6) c27_6 rfl kf0_6 rfl ?_
    refine y_icmp 20 12 c27_9 rfl rfl (yc_le (by omega) (by omega)) (fun hb5804 => ?_) (fun hb5804 => ?_)
    · refine y_aload 21 c27_20 rfl rfl rfl ?_
      refine y_dup 22 c27_21 rfl rfl ?_
      refine y_getX 25 (m 0 6) c27_22 rfl kf0_6 rfl ?_
      refine y_iload 26 c27_25 rfl rfl ?_
      refine y_isub 27 c27_26 rfl ?_
      refine y_putI 30 c27_27 rfl kf0_6 (y_fit0 _) ?_
      have hT5805 := hT.up 0 6 ((m 0 6) - a) 0 320 rfl (by omega)
      refine y_aload 31 c27_30 rfl rfl rfl ?_
      refine y_getX 34 ((m 0 6) - a) c27_31 rfl kf0_6 rfl ?_
      refine y_ireturnK c27_34 (y_fit0 _) ?_
      refine y_i2l 8 c28_7 rfl ?_
      refine y_lastoreN 9 ((m 0 6) - a) c28_8 rfl kl413 (by decide) (by rw [Int32.toInt_toInt64, y_rng (by omega)]) ?_
      have hT5807 := hT5805.up 413 ((0 : Int).toNat) ((m 0 6) - a) ((-2147483648)) 2147483647 rfl (by omega)
      refine y_goto 15 c28_9 rfl ?_
      refine y_iconst 16 c28_15 rfl ?_
      exact y_ireturn c28_16 (y_fit0 _) ⟨_, rfl, hT5807, Or.inr ⟨rfl, by omega, rfl, rfl⟩⟩
    · refine y_throwB c27_12 rfl ?_
      refine yK_in kh28_4_9 ?_
      refine y_astore 13 c28_12 rfl rfl rfl ?_
      refine y_iconst 14 c28_13 rfl ?_
      exact y_ireturn c28_14 (y_fit0 _) ⟨_, rfl, hT, Or.inl ⟨rfl, by omega, rfl, rfl⟩⟩
end
