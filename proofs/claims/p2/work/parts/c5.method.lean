/-! CONTRACTS: methods. Printed by wip/whole/gen90.py -/
theorem t54k_316 {L : Nat} {xs : Nat → Int32} {d nn : Nat} {m : yM} {e : Int} (hT : Ty gT m) (he : 0 ≤ e ∧ e ≤ 320) (hE : m 5 e.toNat = 0) (ha : m 2 2 ≤ e) (hp : m 2 1 = 1) {k : Int} (hk : k = m 316 10 - 1) (hk0 : 0 ≤ k ∧ k ≤ 9) (hp3 : m (326 + k.toNat) 3 ≤ 1) (hr : m (326 + k.toNat) 2 + 2 + m (326 + k.toNat) 3 = m 316 15) : YC (gZ L xs) (d + 2) 54 [.ref 2] m nn (qI (fun r m' n' => n' = nn ∧ Ty gT m' ∧ Fr wPr316 m m' ∧ ((r = 0 ∨ r = 1) ∧ m' 2 2 ≤ e ∧ m' (326 + k.toNat) 2 = m (326 + k.toNat) 2 ∧ (r = 1 → m' (326 + k.toNat) 3 = m (326 + k.toNat) 3 + 1 ∧ m' 316 15 = m 316 15 + 1)) ∧ (MP 326 m → MP 326 m'))) := by
  subst hk
  exact t54_316 hT he hE ha hp (by omega) hp3 hr
set_option maxRecDepth 100000 in
theorem t55_316 {L : Nat} {xs : Nat → Int32} {d nn : Nat} {m : yM} {e : Int} (hT : Ty gT m) (he : 0 ≤ e ∧ e ≤ 320) (hE : m 5 e.toNat = 0) (ha : m 2 2 ≤ e) (hp : m 2 1 = 1) {k : Int} (hk : k = m 316 10 - 1) (hk0 : 0 ≤ k ∧ k ≤ 9) (hp3 : m (326 + k.toNat) 3 = 0) (hr : m (326 + k.toNat) 2 + 2 = m 316 15) : YC (gZ L xs) (d + 3) 55 [.ref 2] m nn (qI (fun r m' n' => n' = nn ∧ Ty gT m' ∧ Fr wPr316 m m' ∧ ((r = 0 ∨ r = 1) ∧ m' 2 2 ≤ e) ∧ (MP 326 m → MP 326 m'))) := by
  have tb2 := hT.atp 2 2 0 320 rfl
  refine YC.mkB [some (.ref 2)] kn55 rfl rfl ?_
  have hF : Fr wPr316 m m := Fr.rf
  refine y_aload 1 c55_0 rfl rfl rfl ?_
  have tb3830 := hT.atp 2 2 0 320 rfl
  refine y_callP 4 [.ref 2] [] c55_1 rfl rfl rfl rfl rfl (ycanO km38 ko2) (t38 hT he hE (by omega)) (fun r3831 hr3831 => ?_)
  refine y_iconst 6 c55_4 rfl ?_
  refine y_icmp 11 9 c55_6 rfl rfl (yc_ne (by omega) (by omega)) (fun hb3832 => ?_) (fun hb3832 => ?_)
  · refine y_aload 12 c55_11 rfl rfl rfl ?_
    have tb3834 := hT.atp 2 1 ((-1)) 1 rfl
    have tb3835 := hT.atp 316 10 0 10 rfl
    have tb3836 := hT.atp 316 15 0 48 rfl
    have tb3837 := hT.atp (326 + k.toNat) 2 0 46 (ft326_2 (by omega))
    have tb3838 := hT.atp (326 + k.toNat) 3 0 2 (ft326_3 (by omega))
    refine y_callIB 15 [.ref 2] [] c55_12 rfl rfl rfl rfl rfl (ycanO km54 ko2) (t54k_316 (k := k) hT he hE (by omega) (by omega) (by omega) (by omega) (by omega) (by omega)) (fun rq3833 mq3833 nq3833 hq3833 => ?_)
    obtain ⟨rfl, hTq3833, hFq3833, hq3833, hMq3833⟩ := hq3833
    have hF3839 := hF.tr hFq3833 (fun _ _ e => e)
    refine y_if 20 18 c55_15 rfl rfl (yz_ne (by omega)) (fun hb3840 => ?_) (fun hb3840 => ?_)
    · refine y_aload 21 c55_20 rfl rfl rfl ?_
      have tb3841 := hTq3833.atp 2 2 0 320 rfl
      refine y_callP 24 [.ref 2] [] c55_21 rfl rfl rfl rfl rfl (ycanO km38 ko2) (t38 hTq3833 he (by have e1 : mq3833 5 e.toNat = m 5 e.toNat := (hFq3833 5 e.toNat rfl); omega) (by omega)) (fun r3842 hr3842 => ?_)
      refine y_iconst 26 c55_24 rfl ?_
      refine y_icmp 31 29 c55_26 rfl rfl (yc_eq (by omega) (by omega)) (fun hb3843 => ?_) (fun hb3843 => ?_)
      · refine y_aload 32 c55_31 rfl rfl rfl ?_
        refine y_dup 33 c55_32 rfl rfl ?_
        refine y_getX 36 (mq3833 2 2) c55_33 rfl kf2_2 rfl ?_
        refine y_iconst 37 c55_36 rfl ?_
        refine y_iadd 38 c55_37 rfl ?_
        refine y_putI 41 c55_38 rfl kf2_2 (y_fit0 _) ?_
        have hT3844 := hTq3833.up 2 2 ((mq3833 2 2) + 1) 0 320 rfl (by omega)
        have hF3845 := hF3839.up 2 2 ((mq3833 2 2) + 1) rfl
        refine y_aload 42 c55_41 rfl rfl rfl ?_
        have es3847 : (yup mq3833 2 2 ((mq3833 2 2) + 1)) 2 2 = (mq3833 2 2) + 1 := rfl
        have es3848 : (yup mq3833 2 2 ((mq3833 2 2) + 1)) 2 1 = m 2 1 := ((yup_nk (by decide)).trans (hFq3833 2 1 rfl))
        have es3849 : (yup mq3833 2 2 ((mq3833 2 2) + 1)) 316 10 = m 316 10 := ((yup_na (by decide)).trans (hFq3833 316 10 rfl))
        have es3850 : (yup mq3833 2 2 ((mq3833 2 2) + 1)) 316 15 = mq3833 316 15 := rfl
        have tb3851 := hTq3833.atp 316 15 0 48 rfl
        have es3852 : (yup mq3833 2 2 ((mq3833 2 2) + 1)) (326 + k.toNat) 2 = mq3833 (326 + k.toNat) 2 := (yup_na (by omega))
        have tb3853 := hTq3833.atp (326 + k.toNat) 2 0 46 (ft326_2 (by omega))
        have es3854 : (yup mq3833 2 2 ((mq3833 2 2) + 1)) (326 + k.toNat) 3 = mq3833 (326 + k.toNat) 3 := (yup_na (by omega))
        have tb3855 := hTq3833.atp (326 + k.toNat) 3 0 2 (ft326_3 (by omega))
        refine y_callIB 45 [.ref 2] [] c55_42 rfl rfl rfl rfl rfl (ycanO km54 ko2) (t54k_316 (k := k) hT3844 he (by have e1 : (yup mq3833 2 2 ((mq3833 2 2) + 1)) 5 e.toNat = m 5 e.toNat := ((yup_na (by decide)).trans (hFq3833 5 e.toNat rfl)); omega) (by omega) (by omega) (by omega) (by omega) (by omega) (by omega)) (fun rq3846 mq3846 nq3846 hq3846 => ?_)
        obtain ⟨rfl, hTq3846, hFq3846, hq3846, hMq3846⟩ := hq3846
        have hF3856 := hF3845.tr hFq3846 (fun _ _ e => e)
        have tb3857 := hTq3846.atp 2 2 0 320 rfl
        exact y_retI c55_45 (y_fit1 (by omega)) ⟨rfl, hTq3846, hF3856, by omega, fun hM => hMq3846 ((hMq3833 (hM)).na (by decide))⟩
      · refine y_iconst 30 c55_29 rfl ?_
        exact y_retI c55_30 (y_fit1 (by omega)) ⟨rfl, hTq3833, hF3839, by omega, fun hM => hMq3833 (hM)⟩
    · refine y_iconst 19 c55_18 rfl ?_
      have tb3858 := hTq3833.atp 2 2 0 320 rfl
      exact y_retI c55_19 (y_fit1 (by omega)) ⟨rfl, hTq3833, hF3839, by omega, fun hM => hMq3833 (hM)⟩
  · refine y_iconst 10 c55_9 rfl ?_
    exact y_retI c55_10 (y_fit1 (by omega)) ⟨rfl, hT, hF, by omega, fun hM => hM⟩
def wMt0316 (a q : Nat) : Bool := (a == 2 && (q == 2 || q == 4)) || (a == 316 && (q == 10 || (decide (12 ≤ q) && decide (q ≤ 16)))) || a == 321 || a == 325 || decide (326 ≤ a ∧ a < 336)
def wMt316 (c a q : Nat) : Bool := ((a == 2 && (q == 2 || q == 4)) || (a == 316 && (q == 10 || (decide (12 ≤ q) && decide (q ≤ 16)))) || a == 321 || a == 325 || decide (326 ≤ a ∧ a < 336)) || decide (336 + c ≤ a ∧ a < 376)
theorem wMt316_lt {c a q : Nat} (h : a < 336) : wMt316 c a q = wMt0316 a q := by
  have e : decide (336 + c ≤ a ∧ a < 376) = false := by simp; omega
  simp only [wMt316, wMt0316, e, Bool.or_false]
theorem wMt316_m {c k q : Nat} (h : k < 10) : wMt316 c (326 + k) q = true := by
  simp [wMt316]
  omega
theorem wMt316_n {c j q : Nat} (h : j < c) : wMt316 c (336 + j) q = false := by
  cases e : wMt316 c (336 + j) q with
  | false => rfl
  | true => simp [wMt316] at e <;> omega
theorem wFa_wMt316 {c : Nat} : ∀ a q, wFa a q = true → wMt316 c a q = true := by
  intro a q h
  simp [wFa] at h
  simp [wMt316]
  omega
theorem wAt_wMt316 {c : Nat} : ∀ a q, wAt a q = true → wMt316 c a q = true := by
  intro a q h
  simp [wAt] at h
  simp [wMt316]
  omega
theorem wPr316_wMt316 {c : Nat} : ∀ a q, wPr316 a q = true → wMt316 c a q = true := by
  intro a q h
  simp [wPr316] at h
  simp [wMt316]
  omega
theorem wMe316_wMt316 {c : Nat} : ∀ a q, wMe316 a q = true → wMt316 c a q = true := by
  intro a q h
  simp [wMe316] at h
  simp [wMt316]
  omega
theorem wBo316_wMt316 {c : Nat} : ∀ a q, wBo316 c a q = true → wMt316 c a q = true := by
  intro a q h
  simp [wBo316] at h
  simp [wMt316]
  omega
theorem wPr316_n336 {j q : Nat} : wPr316 (336 + j) q = false := by
  cases h : wPr316 (336 + j) q with
  | false => rfl
  | true => simp [wPr316] at h <;> omega
theorem wMe316_n336 {j q : Nat} : wMe316 (336 + j) q = false := by
  cases h : wMe316 (336 + j) q with
  | false => rfl
  | true => simp [wMe316] at h <;> omega
theorem wBo316_n326 {c j q : Nat} (h : j < 10) : wBo316 c (326 + j) q = false := by
  cases h : wBo316 c (326 + j) q with
  | false => rfl
  | true => simp [wBo316] at h <;> omega
theorem wPr316_5 {j : Nat} : wPr316 (326 + j) 5 = false := by
  cases h : wPr316 (326 + j) 5 with
  | false => rfl
  | true => simp [wPr316] at h <;> omega
set_option maxRecDepth 100000 in
theorem t70_316 {L : Nat} {xs : Nat → Int32} {d nn : Nat} {m : yM} {e : Int} (hT : Ty gT m) (he : 0 ≤ e ∧ e ≤ 320) (hE : m 5 e.toNat = 0) (ha : m 2 2 ≤ e) (hp : m 2 1 = 1) (hc : 1 ≤ m 316 9) (hlt : m 2 2 < e) : YC (gZ L xs) (d + 13) 70 [.ref 2] m nn (qI (fun r m' n' => n' = nn ∧ Ty gT m' ∧ Fr (wMt316 (m 316 16).toNat) m m' ∧ ((r = 0 ∨ r = 1) ∧ m' 2 2 ≤ e ∧ m 316 16 ≤ m' 316 16 ∧ m 316 12 ≤ m' 316 12 ∧ m 316 13 ≤ m' 316 13 ∧ m 316 10 ≤ m' 316 10) ∧ (∀ z : Nat, (z : Int) < m 316 13 → m' 325 z = m 325 z) ∧ (MP 326 m → MP 326 m') ∧ (r = 1 → m' 316 10 = m 316 10 + 1 ∧ RG 336 325 m' (m 316 16) (m' 316 16) (m 316 12) (m' 316 12) (m 316 13) (m' 316 13) ∧ EN 336 m' (m 316 16) (m' 316 16) (m' 316 16) ∧ (∀ j : Nat, (j : Int) < m 316 10 → m' (326 + j) 5 = m (326 + j) 5) ∧ m' (326 + (m 316 10).toNat) 5 ≤ m' 316 16))) := by
  have tb2 := hT.atp 2 2 0 320 rfl
  have tb12 := hT.atp 316 12 0 12 rfl
  have tb13 := hT.atp 316 13 0 8 rfl
  have tb16 := hT.atp 316 16 0 40 rfl
  have tb10 := hT.atp 316 10 0 10 rfl
  refine YC.mkB [some (.ref 2), none, none] kn70 rfl rfl ?_
  have hF : Fr (wMt316 (m 316 16).toNat) m m := Fr.rf
  refine y_aload 1 c70_0 rfl rfl rfl ?_
  refine y_dup 2 c70_1 rfl rfl ?_
  refine y_getX 5 (m 2 2) c70_2 rfl kf2_2 rfl ?_
  have tb3859 := hT.atp 2 2 0 320 rfl
  refine y_iconst 6 c70_5 rfl ?_
  refine y_iadd 7 c70_6 rfl ?_
  refine y_putI 10 c70_7 rfl kf2_2 (y_fit0 _) ?_
  have hT3860 := hT.up 2 2 ((m 2 2) + 1) 0 320 rfl (by omega)
  have hF3861 := hF.up 2 2 ((m 2 2) + 1) rfl
  refine y_aload 11 c70_10 rfl rfl rfl ?_
  have es3862 : (yup m 2 2 ((m 2 2) + 1)) 2 2 = (m 2 2) + 1 := rfl
  refine y_callP 14 [.ref 2] [] c70_11 rfl rfl rfl rfl rfl (ycanO km38 ko2) (t38 hT3860 he (by have e1 : (yup m 2 2 ((m 2 2) + 1)) 5 e.toNat = m 5 e.toNat := (yup_na (by decide)); omega) (by omega)) (fun r3863 hr3863 => ?_)
  refine y_iconst 16 c70_14 rfl ?_
  refine y_icmp 33 19 c70_16 rfl rfl (yc_ne (by omega) (by omega)) (fun hb3864 => ?_) (fun hb3864 => ?_)
  · refine y_aload 34 c70_33 rfl rfl rfl ?_
    have es3866 : (yup m 2 2 ((m 2 2) + 1)) 2 2 = (m 2 2) + 1 := rfl
    refine y_callIB 37 [.ref 2] [] c70_34 rfl rfl rfl rfl rfl (ycanO km43 ko2) (t43 hT3860) (fun rq3865 mq3865 nq3865 hq3865 => ?_)
    obtain ⟨rfl, hTq3865, hFq3865, hq3865⟩ := hq3865
    have hF3867 := hF3861.tr hFq3865 wFa_wMt316
    have es3868 : mq3865 2 2 = (m 2 2) + 1 := ((hFq3865 2 2 rfl).trans (yup_eq _ _ _ _))
    have es3869 : mq3865 316 16 = m 316 16 := ((hFq3865 316 16 rfl).trans (yup_na (by decide)))
    have tb3870 := hT.atp 316 16 0 40 rfl
    have es3871 : mq3865 316 12 = m 316 12 := ((hFq3865 316 12 rfl).trans (yup_na (by decide)))
    have tb3872 := hT.atp 316 12 0 12 rfl
    have es3873 : mq3865 316 13 = m 316 13 := ((hFq3865 316 13 rfl).trans (yup_na (by decide)))
    have tb3874 := hT.atp 316 13 0 8 rfl
    have es3875 : mq3865 316 10 = m 316 10 := ((hFq3865 316 10 rfl).trans (yup_na (by decide)))
    have tb3876 := hT.atp 316 10 0 10 rfl
    refine y_retI c70_37 (y_fit1 (by omega)) ⟨rfl, hTq3865, hF3867, by omega, fun z hz => ((hFq3865 325 z rfl).trans (yup_na (by decide))), fun hM => ((hM).na (by decide)).fr (fun k hk => hFq3865 _ _ wFa_n326) (fun k hk => hFq3865 _ _ wFa_n326), fun h1 => ?_⟩
    omega
  · refine y_aload 20 c70_19 rfl rfl rfl ?_
    refine y_getS 23 (B := 316) c70_20 rfl kf2_1 (by rw [show (yup m 2 2 ((m 2 2) + 1)) 2 1 = 1 from by have e : (yup m 2 2 ((m 2 2) + 1)) 2 1 = m 2 1 := rfl; omega]; rfl) ?_
    refine y_aload 24 c70_23 rfl rfl rfl ?_
    refine y_callP 27 [.ref 2] [.ref 316] c70_24 rfl rfl rfl rfl rfl (ycanO km39 ko2) (t39 hT3860) (fun r3877 hr3877 => ?_)
    have es3879 : (yup m 2 2 ((m 2 2) + 1)) 316 9 = m 316 9 := rfl
    have tb3880 := hT.atp 316 9 0 6 rfl
    have es3881 : (yup m 2 2 ((m 2 2) + 1)) 316 10 = m 316 10 := rfl
    have tb3882 := hT.atp 316 10 0 10 rfl
    have es3883 : (yup m 2 2 ((m 2 2) + 1)) 316 15 = m 316 15 := rfl
    have tb3884 := hT.atp 316 15 0 48 rfl
    have e10 : (yup m 2 2 ((m 2 2) + 1)) 316 10 = m 316 10 := rfl
    refine y_callIB 30 [.ref 316, yI r3877] [] c70_27 rfl rfl rfl rfl rfl (ycanO km51 ko316) (t51_316 hT3860 (by omega) (by omega)) (fun rq3878 mq3878 nq3878 hq3878 => ?_)
    obtain ⟨rfl, hTq3878, hFq3878, hq3878⟩ := hq3878
    rw [e10] at hq3878
    rcases hq3878 with ⟨rfl, rfl⟩ | ⟨rfl, hq3878, h15, hr2, hr3, hMq3878, hNq3878⟩
    · refine y_if 38 33 c70_30 rfl rfl (yz_ne (by omega)) (fun hb3885 => ?_) (fun hb3885 => ?_)
      · exfalso; omega
      · refine y_aload 34 c70_33 rfl rfl rfl ?_
        have es3887 : (yup m 2 2 ((m 2 2) + 1)) 2 2 = (m 2 2) + 1 := rfl
        refine y_callIB 37 [.ref 2] [] c70_34 rfl rfl rfl rfl rfl (ycanO km43 ko2) (t43 hT3860) (fun rq3886 mq3886 nq3886 hq3886 => ?_)
        obtain ⟨rfl, hTq3886, hFq3886, hq3886⟩ := hq3886
        have hF3888 := hF3861.tr hFq3886 wFa_wMt316
        have es3889 : mq3886 2 2 = (m 2 2) + 1 := ((hFq3886 2 2 rfl).trans (yup_eq _ _ _ _))
        have es3890 : mq3886 316 16 = m 316 16 := ((hFq3886 316 16 rfl).trans (yup_na (by decide)))
        have tb3891 := hT.atp 316 16 0 40 rfl
        have es3892 : mq3886 316 12 = m 316 12 := ((hFq3886 316 12 rfl).trans (yup_na (by decide)))
        have tb3893 := hT.atp 316 12 0 12 rfl
        have es3894 : mq3886 316 13 = m 316 13 := ((hFq3886 316 13 rfl).trans (yup_na (by decide)))
        have tb3895 := hT.atp 316 13 0 8 rfl
        have es3896 : mq3886 316 10 = m 316 10 := ((hFq3886 316 10 rfl).trans (yup_na (by decide)))
        refine y_retI c70_37 (y_fit1 (by omega)) ⟨rfl, hTq3886, hF3888, by omega, fun z hz => ((hFq3886 325 z rfl).trans (yup_na (by decide))), fun hM => ((hM).na (by decide)).fr (fun k hk => hFq3886 _ _ wFa_n326) (fun k hk => hFq3886 _ _ wFa_n326), fun h1 => ?_⟩
        omega
    · have hF3897 := hF3861.tr hFq3878 wMe316_wMt316
      have hk1 : m 316 10 ≤ 9 := by have := hTq3878.atp 316 10 0 10 rfl; omega
      refine y_if 38 33 c70_30 rfl rfl (yz_ne (by omega)) (fun hb3898 => ?_) (fun hb3898 => ?_)
      · refine y_aload 39 c70_38 rfl rfl rfl ?_
        refine y_dup 40 c70_39 rfl rfl ?_
        refine y_getX 43 ((m 2 2) + 1) c70_40 rfl kf2_2 ((hFq3878 2 2 rfl).trans (yup_eq _ _ _ _)) ?_
        refine y_iconst 44 c70_43 rfl ?_
        refine y_iadd 45 c70_44 rfl ?_
        refine y_putI 48 c70_45 rfl kf2_2 (y_fit0 _) ?_
        have hT3899 := hTq3878.up 2 2 (((m 2 2) + 1) + 1) 0 320 rfl (by omega)
        have hF3900 := hF3897.up 2 2 (((m 2 2) + 1) + 1) rfl
        refine y_aload 49 c70_48 rfl rfl rfl ?_
        refine y_getS 52 (B := 316) c70_49 rfl kf2_1 (by rw [show (yup mq3878 2 2 (((m 2 2) + 1) + 1)) 2 1 = 1 from by have e : (yup mq3878 2 2 (((m 2 2) + 1) + 1)) 2 1 = m 2 1 := ((yup_nk (by decide)).trans ((hFq3878 2 1 rfl).trans (yup_nk (by decide)))); omega]; rfl) ?_
        refine y_getR 55 c70_52 rfl kf316_5 ?_
        refine y_aload 56 c70_55 rfl rfl rfl ?_
        refine y_getS 59 (B := 316) c70_56 rfl kf2_1 (by rw [show (yup mq3878 2 2 (((m 2 2) + 1) + 1)) 2 1 = 1 from by have e : (yup mq3878 2 2 (((m 2 2) + 1) + 1)) 2 1 = m 2 1 := ((yup_nk (by decide)).trans ((hFq3878 2 1 rfl).trans (yup_nk (by decide)))); omega]; rfl) ?_
        refine y_getX 62 (mq3878 316 10) c70_59 rfl kf316_10 rfl ?_
        have tb3901 := hTq3878.atp 316 10 0 10 rfl
        refine y_iconst 63 c70_62 rfl ?_
        refine y_isub 64 c70_63 rfl ?_
        refine y_aaload 65 c70_64 rfl kr322 (by omega) ?_
        refine y_astore 66 c70_65 rfl rfl rfl ?_
        refine y_aload 67 c70_66 rfl rfl rfl ?_
        refine y_aload 68 c70_67 rfl rfl rfl ?_
        refine y_getS 71 (B := 316) c70_68 rfl kf2_1 (by rw [show (yup mq3878 2 2 (((m 2 2) + 1) + 1)) 2 1 = 1 from by have e : (yup mq3878 2 2 (((m 2 2) + 1) + 1)) 2 1 = m 2 1 := ((yup_nk (by decide)).trans ((hFq3878 2 1 rfl).trans (yup_nk (by decide)))); omega]; rfl) ?_
        refine y_getX 74 (m 316 16) c70_71 rfl kf316_16 ((yup_na (by decide)).trans ((hFq3878 316 16 rfl).trans (yup_na (by decide)))) ?_
        have tb3902 := hT.atp 316 16 0 40 rfl
        refine y_putI 77 c70_74 rfl (ff326_4 (by omega)) (y_fit0 _) ?_
        have hT3903 := hT3899.up (326 + ((mq3878 316 10) - 1).toNat) 4 (m 316 16) 0 40 (ft326_4 (by omega)) (by omega)
        have hF3904 := hF3900.up (326 + ((mq3878 316 10) - 1).toNat) 4 (m 316 16) (wMt316_m (by omega))
        refine y_aload 78 c70_77 rfl rfl rfl ?_
        refine y_iconst 80 c70_78 rfl ?_
        have es3906 : (yup (yup mq3878 2 2 (((m 2 2) + 1) + 1)) (326 + ((mq3878 316 10) - 1).toNat) 4 (m 316 16)) 2 2 = ((m 2 2) + 1) + 1 := ((yup_na (by omega)).trans (yup_eq _ _ _ _))
        refine y_callIB 83 [.ref 2, yI 40] [] c70_80 rfl rfl rfl rfl rfl (ycanO km37 ko2) (t37 hT3903 he (by have e1 : (yup (yup mq3878 2 2 (((m 2 2) + 1) + 1)) (326 + ((mq3878 316 10) - 1).toNat) 4 (m 316 16)) 5 e.toNat = m 5 e.toNat := ((yup_na (by omega)).trans ((yup_na (by decide)).trans ((hFq3878 5 e.toNat rfl).trans (yup_na (by decide))))); omega) (by omega) (by omega)) (fun rq3905 mq3905 nq3905 hq3905 => ?_)
        obtain ⟨rfl, hTq3905, hFq3905, hq3905⟩ := hq3905
        have hF3907 := hF3904.tr hFq3905 wAt_wMt316
        refine y_if 114 86 c70_83 rfl rfl (yz_eq (by omega)) (fun hb3908 => ?_) (fun hb3908 => ?_)
        · refine y_iconst 115 c70_114 rfl ?_
          refine y_istore 116 c70_115 rfl rfl ?_
          refine y_aload 117 c70_116 rfl rfl rfl ?_
          refine y_aload 118 c70_117 rfl rfl rfl ?_
          refine y_getS 121 (B := 316) c70_118 rfl kf2_1 (by rw [show mq3905 2 1 = 1 from by have e : mq3905 2 1 = m 2 1 := ((hFq3905 2 1 rfl).trans ((yup_na (by omega)).trans ((yup_nk (by decide)).trans ((hFq3878 2 1 rfl).trans (yup_nk (by decide)))))); omega]; rfl) ?_
          refine y_getX 124 (m 316 16) c70_121 rfl kf316_16 ((hFq3905 316 16 rfl).trans ((yup_na (by omega)).trans ((yup_na (by decide)).trans ((hFq3878 316 16 rfl).trans (yup_na (by decide)))))) ?_
          refine y_putI 127 c70_124 rfl (ff326_5 (by omega)) (y_fit0 _) ?_
          have hT3909 := hTq3905.up (326 + ((mq3878 316 10) - 1).toNat) 5 (m 316 16) 0 40 (ft326_5 (by omega)) (by omega)
          have hF3910 := hF3907.up (326 + ((mq3878 316 10) - 1).toNat) 5 (m 316 16) (wMt316_m (by omega))
          refine y_iload 128 c70_127 rfl rfl ?_
          have es3911 : (yup mq3905 (326 + ((mq3878 316 10) - 1).toNat) 5 (m 316 16)) 2 2 = mq3905 2 2 := (yup_na (by omega))
          have tb3912 := hTq3905.atp 2 2 0 320 rfl
          have es3913 : (yup mq3905 (326 + ((mq3878 316 10) - 1).toNat) 5 (m 316 16)) 316 16 = m 316 16 := ((yup_na (by omega)).trans ((hFq3905 316 16 rfl).trans ((yup_na (by omega)).trans ((yup_na (by decide)).trans ((hFq3878 316 16 rfl).trans (yup_na (by decide)))))))
          have es3914 : (yup mq3905 (326 + ((mq3878 316 10) - 1).toNat) 5 (m 316 16)) 316 12 = m 316 12 := ((yup_na (by omega)).trans ((hFq3905 316 12 rfl).trans ((yup_na (by omega)).trans ((yup_na (by decide)).trans ((hFq3878 316 12 rfl).trans (yup_na (by decide)))))))
          have tb3915 := hT.atp 316 12 0 12 rfl
          have es3916 : (yup mq3905 (326 + ((mq3878 316 10) - 1).toNat) 5 (m 316 16)) 316 13 = m 316 13 := ((yup_na (by omega)).trans ((hFq3905 316 13 rfl).trans ((yup_na (by omega)).trans ((yup_na (by decide)).trans ((hFq3878 316 13 rfl).trans (yup_na (by decide)))))))
          have tb3917 := hT.atp 316 13 0 8 rfl
          have es3918 : (yup mq3905 (326 + ((mq3878 316 10) - 1).toNat) 5 (m 316 16)) 316 10 = mq3878 316 10 := ((yup_na (by omega)).trans ((hFq3905 316 10 rfl).trans ((yup_na (by omega)).trans (yup_na (by decide)))))
          refine y_retI c70_128 (y_fit1 (by omega)) ⟨rfl, hT3909, hF3910, by omega, fun z hz => ((yup_na (by omega)).trans ((hFq3905 325 z rfl).trans ((yup_na (by omega)).trans ((yup_na (by decide)).trans ((hFq3878 325 z rfl).trans (yup_na (by decide))))))), fun hM => ((((hMq3878 ((hM).na (by decide))).na (by decide)).fr (fun _ _ => yup_nk (by decide)) (fun _ _ => yup_nk (by decide))).fr (fun k hk => hFq3905 _ _ wAt_n326) (fun k hk => hFq3905 _ _ wAt_n326)).fr (fun _ _ => yup_nk (by decide)) (fun _ _ => yup_nk (by decide)), fun h1 => ?_⟩
          omega
        · refine y_aload 87 c70_86 rfl rfl rfl ?_
          have tb3920 := hTq3905.atp 2 2 0 320 rfl
          have es3921 : mq3905 2 1 = m 2 1 := ((hFq3905 2 1 rfl).trans ((yup_na (by omega)).trans ((yup_nk (by decide)).trans ((hFq3878 2 1 rfl).trans (yup_nk (by decide))))))
          have tb3922 := hT.atp 2 1 ((-1)) 1 rfl
          have es3923 : mq3905 316 10 = mq3878 316 10 := ((hFq3905 316 10 rfl).trans ((yup_na (by omega)).trans (yup_na (by decide))))
          have es3924 : mq3905 316 15 = mq3878 316 15 := ((hFq3905 316 15 rfl).trans ((yup_na (by omega)).trans (yup_na (by decide))))
          have tb3925 := hTq3878.atp 316 15 0 48 rfl
          refine y_callIB 90 [.ref 2] [] c70_87 rfl rfl rfl rfl rfl (ycanO km55 ko2) (t55_316 (k := m 316 10) hTq3905 he (by have e1 : mq3905 5 e.toNat = m 5 e.toNat := ((hFq3905 5 e.toNat rfl).trans ((yup_na (by omega)).trans ((yup_na (by decide)).trans ((hFq3878 5 e.toNat rfl).trans (yup_na (by decide)))))); omega) (by omega) (by omega) (by omega) (by omega) (by omega) (by omega)) (fun rq3919 mq3919 nq3919 hq3919 => ?_)
          obtain ⟨rfl, hTq3919, hFq3919, hq3919, hMq3919⟩ := hq3919
          have hF3926 := hF3907.tr hFq3919 wPr316_wMt316
          refine y_if 114 93 c70_90 rfl rfl (yz_eq (by omega)) (fun hb3927 => ?_) (fun hb3927 => ?_)
          · refine y_iconst 115 c70_114 rfl ?_
            refine y_istore 116 c70_115 rfl rfl ?_
            refine y_aload 117 c70_116 rfl rfl rfl ?_
            refine y_aload 118 c70_117 rfl rfl rfl ?_
            refine y_getS 121 (B := 316) c70_118 rfl kf2_1 (by rw [show mq3919 2 1 = 1 from by have e : mq3919 2 1 = m 2 1 := ((hFq3919 2 1 rfl).trans ((hFq3905 2 1 rfl).trans ((yup_na (by omega)).trans ((yup_nk (by decide)).trans ((hFq3878 2 1 rfl).trans (yup_nk (by decide))))))); omega]; rfl) ?_
            refine y_getX 124 (m 316 16) c70_121 rfl kf316_16 ((hFq3919 316 16 rfl).trans ((hFq3905 316 16 rfl).trans ((yup_na (by omega)).trans ((yup_na (by decide)).trans ((hFq3878 316 16 rfl).trans (yup_na (by decide))))))) ?_
            refine y_putI 127 c70_124 rfl (ff326_5 (by omega)) (y_fit0 _) ?_
            have hT3928 := hTq3919.up (326 + ((mq3878 316 10) - 1).toNat) 5 (m 316 16) 0 40 (ft326_5 (by omega)) (by omega)
            have hF3929 := hF3926.up (326 + ((mq3878 316 10) - 1).toNat) 5 (m 316 16) (wMt316_m (by omega))
            refine y_iload 128 c70_127 rfl rfl ?_
            have es3930 : (yup mq3919 (326 + ((mq3878 316 10) - 1).toNat) 5 (m 316 16)) 2 2 = mq3919 2 2 := (yup_na (by omega))
            have tb3931 := hTq3919.atp 2 2 0 320 rfl
            have es3932 : (yup mq3919 (326 + ((mq3878 316 10) - 1).toNat) 5 (m 316 16)) 316 16 = m 316 16 := ((yup_na (by omega)).trans ((hFq3919 316 16 rfl).trans ((hFq3905 316 16 rfl).trans ((yup_na (by omega)).trans ((yup_na (by decide)).trans ((hFq3878 316 16 rfl).trans (yup_na (by decide))))))))
            have es3933 : (yup mq3919 (326 + ((mq3878 316 10) - 1).toNat) 5 (m 316 16)) 316 12 = m 316 12 := ((yup_na (by omega)).trans ((hFq3919 316 12 rfl).trans ((hFq3905 316 12 rfl).trans ((yup_na (by omega)).trans ((yup_na (by decide)).trans ((hFq3878 316 12 rfl).trans (yup_na (by decide))))))))
            have tb3934 := hT.atp 316 12 0 12 rfl
            have es3935 : (yup mq3919 (326 + ((mq3878 316 10) - 1).toNat) 5 (m 316 16)) 316 13 = m 316 13 := ((yup_na (by omega)).trans ((hFq3919 316 13 rfl).trans ((hFq3905 316 13 rfl).trans ((yup_na (by omega)).trans ((yup_na (by decide)).trans ((hFq3878 316 13 rfl).trans (yup_na (by decide))))))))
            have tb3936 := hT.atp 316 13 0 8 rfl
            have es3937 : (yup mq3919 (326 + ((mq3878 316 10) - 1).toNat) 5 (m 316 16)) 316 10 = mq3878 316 10 := ((yup_na (by omega)).trans ((hFq3919 316 10 rfl).trans ((hFq3905 316 10 rfl).trans ((yup_na (by omega)).trans (yup_na (by decide))))))
            refine y_retI c70_128 (y_fit1 (by omega)) ⟨rfl, hT3928, hF3929, by omega, fun z hz => ((yup_na (by omega)).trans ((hFq3919 325 z rfl).trans ((hFq3905 325 z rfl).trans ((yup_na (by omega)).trans ((yup_na (by decide)).trans ((hFq3878 325 z rfl).trans (yup_na (by decide)))))))), fun hM => (hMq3919 ((((hMq3878 ((hM).na (by decide))).na (by decide)).fr (fun _ _ => yup_nk (by decide)) (fun _ _ => yup_nk (by decide))).fr (fun k hk => hFq3905 _ _ wAt_n326) (fun k hk => hFq3905 _ _ wAt_n326))).fr (fun _ _ => yup_nk (by decide)) (fun _ _ => yup_nk (by decide)), fun h1 => ?_⟩
            omega
          · refine y_aload 94 c70_93 rfl rfl rfl ?_
            refine y_iconst 96 c70_94 rfl ?_
            have tb3939 := hTq3919.atp 2 2 0 320 rfl
            refine y_callIB 99 [.ref 2, yI 41] [] c70_96 rfl rfl rfl rfl rfl (ycanO km37 ko2) (t37 hTq3919 he (by have e1 : mq3919 5 e.toNat = m 5 e.toNat := ((hFq3919 5 e.toNat rfl).trans ((hFq3905 5 e.toNat rfl).trans ((yup_na (by omega)).trans ((yup_na (by decide)).trans ((hFq3878 5 e.toNat rfl).trans (yup_na (by decide))))))); omega) (by omega) (by omega)) (fun rq3938 mq3938 nq3938 hq3938 => ?_)
            obtain ⟨rfl, hTq3938, hFq3938, hq3938⟩ := hq3938
            have hF3940 := hF3926.tr hFq3938 wAt_wMt316
            refine y_if 114 102 c70_99 rfl rfl (yz_eq (by omega)) (fun hb3941 => ?_) (fun hb3941 => ?_)
            · refine y_iconst 115 c70_114 rfl ?_
              refine y_istore 116 c70_115 rfl rfl ?_
              refine y_aload 117 c70_116 rfl rfl rfl ?_
              refine y_aload 118 c70_117 rfl rfl rfl ?_
              refine y_getS 121 (B := 316) c70_118 rfl kf2_1 (by rw [show mq3938 2 1 = 1 from by have e : mq3938 2 1 = m 2 1 := ((hFq3938 2 1 rfl).trans ((hFq3919 2 1 rfl).trans ((hFq3905 2 1 rfl).trans ((yup_na (by omega)).trans ((yup_nk (by decide)).trans ((hFq3878 2 1 rfl).trans (yup_nk (by decide)))))))); omega]; rfl) ?_
              refine y_getX 124 (m 316 16) c70_121 rfl kf316_16 ((hFq3938 316 16 rfl).trans ((hFq3919 316 16 rfl).trans ((hFq3905 316 16 rfl).trans ((yup_na (by omega)).trans ((yup_na (by decide)).trans ((hFq3878 316 16 rfl).trans (yup_na (by decide)))))))) ?_
              refine y_putI 127 c70_124 rfl (ff326_5 (by omega)) (y_fit0 _) ?_
              have hT3942 := hTq3938.up (326 + ((mq3878 316 10) - 1).toNat) 5 (m 316 16) 0 40 (ft326_5 (by omega)) (by omega)
              have hF3943 := hF3940.up (326 + ((mq3878 316 10) - 1).toNat) 5 (m 316 16) (wMt316_m (by omega))
              refine y_iload 128 c70_127 rfl rfl ?_
              have es3944 : (yup mq3938 (326 + ((mq3878 316 10) - 1).toNat) 5 (m 316 16)) 2 2 = mq3938 2 2 := (yup_na (by omega))
              have tb3945 := hTq3938.atp 2 2 0 320 rfl
              have es3946 : (yup mq3938 (326 + ((mq3878 316 10) - 1).toNat) 5 (m 316 16)) 316 16 = m 316 16 := ((yup_na (by omega)).trans ((hFq3938 316 16 rfl).trans ((hFq3919 316 16 rfl).trans ((hFq3905 316 16 rfl).trans ((yup_na (by omega)).trans ((yup_na (by decide)).trans ((hFq3878 316 16 rfl).trans (yup_na (by decide)))))))))
              have es3947 : (yup mq3938 (326 + ((mq3878 316 10) - 1).toNat) 5 (m 316 16)) 316 12 = m 316 12 := ((yup_na (by omega)).trans ((hFq3938 316 12 rfl).trans ((hFq3919 316 12 rfl).trans ((hFq3905 316 12 rfl).trans ((yup_na (by omega)).trans ((yup_na (by decide)).trans ((hFq3878 316 12 rfl).trans (yup_na (by decide)))))))))
              have tb3948 := hT.atp 316 12 0 12 rfl
              have es3949 : (yup mq3938 (326 + ((mq3878 316 10) - 1).toNat) 5 (m 316 16)) 316 13 = m 316 13 := ((yup_na (by omega)).trans ((hFq3938 316 13 rfl).trans ((hFq3919 316 13 rfl).trans ((hFq3905 316 13 rfl).trans ((yup_na (by omega)).trans ((yup_na (by decide)).trans ((hFq3878 316 13 rfl).trans (yup_na (by decide)))))))))
              have tb3950 := hT.atp 316 13 0 8 rfl
              have es3951 : (yup mq3938 (326 + ((mq3878 316 10) - 1).toNat) 5 (m 316 16)) 316 10 = mq3878 316 10 := ((yup_na (by omega)).trans ((hFq3938 316 10 rfl).trans ((hFq3919 316 10 rfl).trans ((hFq3905 316 10 rfl).trans ((yup_na (by omega)).trans (yup_na (by decide)))))))
              refine y_retI c70_128 (y_fit1 (by omega)) ⟨rfl, hT3942, hF3943, by omega, fun z hz => ((yup_na (by omega)).trans ((hFq3938 325 z rfl).trans ((hFq3919 325 z rfl).trans ((hFq3905 325 z rfl).trans ((yup_na (by omega)).trans ((yup_na (by decide)).trans ((hFq3878 325 z rfl).trans (yup_na (by decide))))))))), fun hM => ((hMq3919 ((((hMq3878 ((hM).na (by decide))).na (by decide)).fr (fun _ _ => yup_nk (by decide)) (fun _ _ => yup_nk (by decide))).fr (fun k hk => hFq3905 _ _ wAt_n326) (fun k hk => hFq3905 _ _ wAt_n326))).fr (fun k hk => hFq3938 _ _ wAt_n326) (fun k hk => hFq3938 _ _ wAt_n326)).fr (fun _ _ => yup_nk (by decide)) (fun _ _ => yup_nk (by decide)), fun h1 => ?_⟩
              omega
            · refine y_aload 103 c70_102 rfl rfl rfl ?_
              refine y_iconst 104 c70_103 rfl ?_
              have tb3953 := hTq3938.atp 2 2 0 320 rfl
              have es3954 : mq3938 2 1 = m 2 1 := ((hFq3938 2 1 rfl).trans ((hFq3919 2 1 rfl).trans ((hFq3905 2 1 rfl).trans ((yup_na (by omega)).trans ((yup_nk (by decide)).trans ((hFq3878 2 1 rfl).trans (yup_nk (by decide))))))))
              have es3955 : mq3938 316 10 = mq3878 316 10 := ((hFq3938 316 10 rfl).trans ((hFq3919 316 10 rfl).trans ((hFq3905 316 10 rfl).trans ((yup_na (by omega)).trans (yup_na (by decide))))))
              have es3956 : mq3938 316 12 = m 316 12 := ((hFq3938 316 12 rfl).trans ((hFq3919 316 12 rfl).trans ((hFq3905 316 12 rfl).trans ((yup_na (by omega)).trans ((yup_na (by decide)).trans ((hFq3878 316 12 rfl).trans (yup_na (by decide))))))))
              have tb3957 := hT.atp 316 12 0 12 rfl
              have es3958 : mq3938 316 13 = m 316 13 := ((hFq3938 316 13 rfl).trans ((hFq3919 316 13 rfl).trans ((hFq3905 316 13 rfl).trans ((yup_na (by omega)).trans ((yup_na (by decide)).trans ((hFq3878 316 13 rfl).trans (yup_na (by decide))))))))
              have tb3959 := hT.atp 316 13 0 8 rfl
              have es3960 : mq3938 316 16 = m 316 16 := ((hFq3938 316 16 rfl).trans ((hFq3919 316 16 rfl).trans ((hFq3905 316 16 rfl).trans ((yup_na (by omega)).trans ((yup_na (by decide)).trans ((hFq3878 316 16 rfl).trans (yup_na (by decide))))))))
              refine y_callIB 107 [.ref 2, yI 0] [] c70_104 rfl rfl rfl rfl rfl (ycanO km69 ko2) (t69_316 hTq3938 he (by have e1 : mq3938 5 e.toNat = m 5 e.toNat := ((hFq3938 5 e.toNat rfl).trans ((hFq3919 5 e.toNat rfl).trans ((hFq3905 5 e.toNat rfl).trans ((yup_na (by omega)).trans ((yup_na (by decide)).trans ((hFq3878 5 e.toNat rfl).trans (yup_na (by decide)))))))); omega) (by omega) (by omega) (by omega)) (fun rq3952 mq3952 nq3952 hq3952 => ?_)
              obtain ⟨rfl, hTq3952, hFq3952, hq3952, hZq3952, hGq3952⟩ := hq3952
              have es16q3952 : mq3938 316 16 = m 316 16 := ((hFq3938 316 16 rfl).trans ((hFq3919 316 16 rfl).trans ((hFq3905 316 16 rfl).trans ((yup_na (by omega)).trans ((yup_na (by decide)).trans ((hFq3878 316 16 rfl).trans (yup_na (by decide))))))))
              have hF3961 := hF3940.tr hFq3952 (by rw [es16q3952]; exact wBo316_wMt316)
              refine y_if 114 110 c70_107 rfl rfl (yz_eq (by omega)) (fun hb3962 => ?_) (fun hb3962 => ?_)
              · refine y_iconst 115 c70_114 rfl ?_
                refine y_istore 116 c70_115 rfl rfl ?_
                refine y_aload 117 c70_116 rfl rfl rfl ?_
                refine y_aload 118 c70_117 rfl rfl rfl ?_
                refine y_getS 121 (B := 316) c70_118 rfl kf2_1 (by rw [show mq3952 2 1 = 1 from by have e : mq3952 2 1 = m 2 1 := ((hFq3952 2 1 ((wBo316_lt (by decide)).trans rfl)).trans ((hFq3938 2 1 rfl).trans ((hFq3919 2 1 rfl).trans ((hFq3905 2 1 rfl).trans ((yup_na (by omega)).trans ((yup_nk (by decide)).trans ((hFq3878 2 1 rfl).trans (yup_nk (by decide))))))))); omega]; rfl) ?_
                refine y_getX 124 (mq3952 316 16) c70_121 rfl kf316_16 rfl ?_
                have tb3963 := hTq3952.atp 316 16 0 40 rfl
                refine y_putI 127 c70_124 rfl (ff326_5 (by omega)) (y_fit0 _) ?_
                have hT3964 := hTq3952.up (326 + ((mq3878 316 10) - 1).toNat) 5 (mq3952 316 16) 0 40 (ft326_5 (by omega)) (by omega)
                have hF3965 := hF3961.up (326 + ((mq3878 316 10) - 1).toNat) 5 (mq3952 316 16) (wMt316_m (by omega))
                refine y_iload 128 c70_127 rfl rfl ?_
                have es3966 : (yup mq3952 (326 + ((mq3878 316 10) - 1).toNat) 5 (mq3952 316 16)) 2 2 = mq3952 2 2 := (yup_na (by omega))
                have tb3967 := hTq3952.atp 2 2 0 320 rfl
                have es3968 : (yup mq3952 (326 + ((mq3878 316 10) - 1).toNat) 5 (mq3952 316 16)) 316 16 = mq3952 316 16 := (yup_na (by omega))
                have es3969 : (yup mq3952 (326 + ((mq3878 316 10) - 1).toNat) 5 (mq3952 316 16)) 316 12 = mq3952 316 12 := (yup_na (by omega))
                have tb3970 := hTq3952.atp 316 12 0 12 rfl
                have es3971 : (yup mq3952 (326 + ((mq3878 316 10) - 1).toNat) 5 (mq3952 316 16)) 316 13 = mq3952 316 13 := (yup_na (by omega))
                have tb3972 := hTq3952.atp 316 13 0 8 rfl
                have es3973 : (yup mq3952 (326 + ((mq3878 316 10) - 1).toNat) 5 (mq3952 316 16)) 316 10 = mq3878 316 10 := ((yup_na (by omega)).trans ((hFq3952 316 10 ((wBo316_lt (by decide)).trans rfl)).trans ((hFq3938 316 10 rfl).trans ((hFq3919 316 10 rfl).trans ((hFq3905 316 10 rfl).trans ((yup_na (by omega)).trans (yup_na (by decide))))))))
                refine y_retI c70_128 (y_fit1 (by omega)) ⟨rfl, hT3964, hF3965, by omega, fun z hz => ((yup_na (by omega)).trans ((hZq3952 z (by omega)).trans ((hFq3938 325 z rfl).trans ((hFq3919 325 z rfl).trans ((hFq3905 325 z rfl).trans ((yup_na (by omega)).trans ((yup_na (by decide)).trans ((hFq3878 325 z rfl).trans (yup_na (by decide)))))))))), fun hM => (((hMq3919 ((((hMq3878 ((hM).na (by decide))).na (by decide)).fr (fun _ _ => yup_nk (by decide)) (fun _ _ => yup_nk (by decide))).fr (fun k hk => hFq3905 _ _ wAt_n326) (fun k hk => hFq3905 _ _ wAt_n326))).fr (fun k hk => hFq3938 _ _ wAt_n326) (fun k hk => hFq3938 _ _ wAt_n326)).fr (fun k hk => hFq3952 _ _ (wBo316_n326 (by omega))) (fun k hk => hFq3952 _ _ (wBo316_n326 (by omega)))).fr (fun _ _ => yup_nk (by decide)) (fun _ _ => yup_nk (by decide)), fun h1 => ?_⟩
                omega
              · refine y_iconst 111 c70_110 rfl ?_
                refine y_goto 115 c70_111 rfl ?_
                refine y_istore 116 c70_115 rfl rfl ?_
                refine y_aload 117 c70_116 rfl rfl rfl ?_
                refine y_aload 118 c70_117 rfl rfl rfl ?_
                refine y_getS 121 (B := 316) c70_118 rfl kf2_1 (by rw [show mq3952 2 1 = 1 from by have e : mq3952 2 1 = m 2 1 := ((hFq3952 2 1 ((wBo316_lt (by decide)).trans rfl)).trans ((hFq3938 2 1 rfl).trans ((hFq3919 2 1 rfl).trans ((hFq3905 2 1 rfl).trans ((yup_na (by omega)).trans ((yup_nk (by decide)).trans ((hFq3878 2 1 rfl).trans (yup_nk (by decide))))))))); omega]; rfl) ?_
                refine y_getX 124 (mq3952 316 16) c70_121 rfl kf316_16 rfl ?_
                have tb3974 := hTq3952.atp 316 16 0 40 rfl
                refine y_putI 127 c70_124 rfl (ff326_5 (by omega)) (y_fit0 _) ?_
                have hT3975 := hTq3952.up (326 + ((mq3878 316 10) - 1).toNat) 5 (mq3952 316 16) 0 40 (ft326_5 (by omega)) (by omega)
                have hF3976 := hF3961.up (326 + ((mq3878 316 10) - 1).toNat) 5 (mq3952 316 16) (wMt316_m (by omega))
                refine y_iload 128 c70_127 rfl rfl ?_
                have es3977 : (yup mq3952 (326 + ((mq3878 316 10) - 1).toNat) 5 (mq3952 316 16)) 2 2 = mq3952 2 2 := (yup_na (by omega))
                have tb3978 := hTq3952.atp 2 2 0 320 rfl
                have es3979 : (yup mq3952 (326 + ((mq3878 316 10) - 1).toNat) 5 (mq3952 316 16)) 316 16 = mq3952 316 16 := (yup_na (by omega))
                have es3980 : (yup mq3952 (326 + ((mq3878 316 10) - 1).toNat) 5 (mq3952 316 16)) 316 12 = mq3952 316 12 := (yup_na (by omega))
                have tb3981 := hTq3952.atp 316 12 0 12 rfl
                have es3982 : (yup mq3952 (326 + ((mq3878 316 10) - 1).toNat) 5 (mq3952 316 16)) 316 13 = mq3952 316 13 := (yup_na (by omega))
                have tb3983 := hTq3952.atp 316 13 0 8 rfl
                have es3984 : (yup mq3952 (326 + ((mq3878 316 10) - 1).toNat) 5 (mq3952 316 16)) 316 10 = mq3878 316 10 := ((yup_na (by omega)).trans ((hFq3952 316 10 ((wBo316_lt (by decide)).trans rfl)).trans ((hFq3938 316 10 rfl).trans ((hFq3919 316 10 rfl).trans ((hFq3905 316 10 rfl).trans ((yup_na (by omega)).trans (yup_na (by decide))))))))
                refine y_retI c70_128 (y_fit1 (by omega)) ⟨rfl, hT3975, hF3976, by omega, fun z hz => ((yup_na (by omega)).trans ((hZq3952 z (by omega)).trans ((hFq3938 325 z rfl).trans ((hFq3919 325 z rfl).trans ((hFq3905 325 z rfl).trans ((yup_na (by omega)).trans ((yup_na (by decide)).trans ((hFq3878 325 z rfl).trans (yup_na (by decide)))))))))), fun hM => (((hMq3919 ((((hMq3878 ((hM).na (by decide))).na (by decide)).fr (fun _ _ => yup_nk (by decide)) (fun _ _ => yup_nk (by decide))).fr (fun k hk => hFq3905 _ _ wAt_n326) (fun k hk => hFq3905 _ _ wAt_n326))).fr (fun k hk => hFq3938 _ _ wAt_n326) (fun k hk => hFq3938 _ _ wAt_n326)).fr (fun k hk => hFq3952 _ _ (wBo316_n326 (by omega))) (fun k hk => hFq3952 _ _ (wBo316_n326 (by omega)))).fr (fun _ _ => yup_nk (by decide)) (fun _ _ => yup_nk (by decide)), fun h1 => ?_⟩
                obtain ⟨g1, n1⟩ := hGq3952 (by omega)
                have g2 := g1.fr (m' := yup mq3952 (326 + ((mq3878 316 10) - 1).toNat) 5 (mq3952 316 16)) (c3 := (yup mq3952 (326 + ((mq3878 316 10) - 1).toNat) 5 (mq3952 316 16)) 316 12) (fun j ja jb q _ => yup_na (by omega)) (fun z za zb => yup_na (by omega)) (by omega)
                have n2 := n1.fr (m' := yup mq3952 (326 + ((mq3878 316 10) - 1).toNat) 5 (mq3952 316 16)) (c2 := (yup mq3952 (326 + ((mq3878 316 10) - 1).toNat) 5 (mq3952 316 16)) 316 16) (fun j ja jb q => yup_na (by omega)) (by omega)
                refine ⟨by omega, cast (by congr 1 <;> omega) g2, cast (by congr 1 <;> omega) n2, fun j hj => ((yup_na (by omega)).trans ((hFq3952 _ _ (wBo316_n326 (by omega))).trans ((hFq3938 _ _ wAt_n326).trans ((hFq3919 _ _ wPr316_5).trans ((hFq3905 _ _ wAt_n326).trans ((yup_nk (by decide)).trans ((yup_na (by omega)).trans ((hNq3878 j).trans (yup_na (by omega)))))))))), ?_⟩
                rw [yup_eq]; omega
      · exfalso; omega
