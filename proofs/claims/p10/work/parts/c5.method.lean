/-! CONTRACTS: methods. Printed by wip/whole/gen90.py -/
theorem t54k_316 {L : Nat} {xs : Nat → Int32} {d nn : Nat} {m : yM} {e : Int} (hT : Ty gT m) (he : 0 ≤ e ∧ e ≤ 320) (hE : m 5 e.toNat = 0) (ha : m 2 2 ≤ e) (hp : m 2 1 = 1) {k : Int} (hk : k = m 316 10 - 1) (hk0 : 0 ≤ k ∧ k ≤ 9) (hp3 : m (326 + k.toNat) 3 ≤ 1) (hr : m (326 + k.toNat) 2 + 2 + m (326 + k.toNat) 3 = m 316 15) : YC (gZ L xs) (d + 2) 54 [.ref 2] m nn (qI (fun r m' n' => n' = nn ∧ Ty gT m' ∧ Fr wPr316 m m' ∧ ((r = 0 ∨ r = 1) ∧ m' 2 2 ≤ e ∧ m' (326 + k.toNat) 2 = m (326 + k.toNat) 2 ∧ (r = 1 → m' (326 + k.toNat) 3 = m (326 + k.toNat) 3 + 1 ∧ m' 316 15 = m 316 15 + 1)) ∧ (MP 326 m → MP 326 m'))) := by
  subst hk
  exact t54_316 hT he hE ha hp (by omega) hp3 hr
set_option maxRecDepth 100000 in
theorem t55_316 {L : Nat} {xs : Nat → Int32} {d nn : Nat} {m : yM} {e : Int} (hT : Ty gT m) (he : 0 ≤ e ∧ e ≤ 320) (hE : m 5 e.toNat = 0) (ha : m 2 2 ≤ e) (hp : m 2 1 = 1) {k : Int} (hk : k = m 316 10 - 1) (hk0 : 0 ≤ k ∧ k ≤ 9) (hp3 : m (326 + k.toNat) 3 = 0) (hr : m (326 + k.toNat) 2 + 2 = m 316 15) : YC (gZ L xs) (d + 3) 55 [.ref 2] m nn (qI (fun r m' n' => n' = nn ∧ Ty gT m' ∧ Fr wPr316 m m' ∧ ((r = 0 ∨ r = 1) ∧ m' 2 2 ≤ e) ∧ (MP 326 m → MP 326 m'))) := by
  have tb2 := hT.atp 2 2 0 320 rfl
  refine YC.mkB [some (.ref 2)] kn55 rfl rfl ?_
  have hF : Fr wPr316 m m := Fr.rf
  refine y_aload 1 c55_0 rfl rfl rfl ?_
  have tb3852 := hT.atp 2 2 0 320 rfl
  refine y_callP 4 [.ref 2] [] c55_1 rfl rfl rfl rfl rfl (ycanO km38 ko2) (t38 hT he hE (by omega)) (fun r3853 hr3853 => ?_)
  refine y_iconst 6 c55_4 rfl ?_
  refine y_icmp 11 9 c55_6 rfl rfl (yc_ne (by omega) (by omega)) (fun hb3854 => ?_) (fun hb3854 => ?_)
  · refine y_aload 12 c55_11 rfl rfl rfl ?_
    have tb3856 := hT.atp 2 1 ((-1)) 1 rfl
    have tb3857 := hT.atp 316 10 0 10 rfl
    have tb3858 := hT.atp 316 15 0 48 rfl
    have tb3859 := hT.atp (326 + k.toNat) 2 0 46 (ft326_2 (by omega))
    have tb3860 := hT.atp (326 + k.toNat) 3 0 2 (ft326_3 (by omega))
    refine y_callIB 15 [.ref 2] [] c55_12 rfl rfl rfl rfl rfl (ycanO km54 ko2) (t54k_316 (k := k) hT he hE (by omega) (by omega) (by omega) (by omega) (by omega) (by omega)) (fun rq3855 mq3855 nq3855 hq3855 => ?_)
    obtain ⟨rfl, hTq3855, hFq3855, hq3855, hMq3855⟩ := hq3855
    have hF3861 := hF.tr hFq3855 (fun _ _ e => e)
    refine y_if 20 18 c55_15 rfl rfl (yz_ne (by omega)) (fun hb3862 => ?_) (fun hb3862 => ?_)
    · refine y_aload 21 c55_20 rfl rfl rfl ?_
      have tb3863 := hTq3855.atp 2 2 0 320 rfl
      refine y_callP 24 [.ref 2] [] c55_21 rfl rfl rfl rfl rfl (ycanO km38 ko2) (t38 hTq3855 he (by have e1 : mq3855 5 e.toNat = m 5 e.toNat := (hFq3855 5 e.toNat rfl); omega) (by omega)) (fun r3864 hr3864 => ?_)
      refine y_iconst 26 c55_24 rfl ?_
      refine y_icmp 31 29 c55_26 rfl rfl (yc_eq (by omega) (by omega)) (fun hb3865 => ?_) (fun hb3865 => ?_)
      · refine y_aload 32 c55_31 rfl rfl rfl ?_
        refine y_dup 33 c55_32 rfl rfl ?_
        refine y_getX 36 (mq3855 2 2) c55_33 rfl kf2_2 rfl ?_
        refine y_iconst 37 c55_36 rfl ?_
        refine y_iadd 38 c55_37 rfl ?_
        refine y_putI 41 c55_38 rfl kf2_2 (y_fit0 _) ?_
        have hT3866 := hTq3855.up 2 2 ((mq3855 2 2) + 1) 0 320 rfl (by omega)
        have hF3867 := hF3861.up 2 2 ((mq3855 2 2) + 1) rfl
        refine y_aload 42 c55_41 rfl rfl rfl ?_
        have es3869 : (yup mq3855 2 2 ((mq3855 2 2) + 1)) 2 2 = (mq3855 2 2) + 1 := rfl
        have es3870 : (yup mq3855 2 2 ((mq3855 2 2) + 1)) 2 1 = m 2 1 := ((yup_nk (by decide)).trans (hFq3855 2 1 rfl))
        have es3871 : (yup mq3855 2 2 ((mq3855 2 2) + 1)) 316 10 = m 316 10 := ((yup_na (by decide)).trans (hFq3855 316 10 rfl))
        have es3872 : (yup mq3855 2 2 ((mq3855 2 2) + 1)) 316 15 = mq3855 316 15 := rfl
        have tb3873 := hTq3855.atp 316 15 0 48 rfl
        have es3874 : (yup mq3855 2 2 ((mq3855 2 2) + 1)) (326 + k.toNat) 2 = mq3855 (326 + k.toNat) 2 := (yup_na (by omega))
        have tb3875 := hTq3855.atp (326 + k.toNat) 2 0 46 (ft326_2 (by omega))
        have es3876 : (yup mq3855 2 2 ((mq3855 2 2) + 1)) (326 + k.toNat) 3 = mq3855 (326 + k.toNat) 3 := (yup_na (by omega))
        have tb3877 := hTq3855.atp (326 + k.toNat) 3 0 2 (ft326_3 (by omega))
        refine y_callIB 45 [.ref 2] [] c55_42 rfl rfl rfl rfl rfl (ycanO km54 ko2) (t54k_316 (k := k) hT3866 he (by have e1 : (yup mq3855 2 2 ((mq3855 2 2) + 1)) 5 e.toNat = m 5 e.toNat := ((yup_na (by decide)).trans (hFq3855 5 e.toNat rfl)); omega) (by omega) (by omega) (by omega) (by omega) (by omega) (by omega)) (fun rq3868 mq3868 nq3868 hq3868 => ?_)
        obtain ⟨rfl, hTq3868, hFq3868, hq3868, hMq3868⟩ := hq3868
        have hF3878 := hF3867.tr hFq3868 (fun _ _ e => e)
        have tb3879 := hTq3868.atp 2 2 0 320 rfl
        exact y_retI c55_45 (y_fit1 (by omega)) ⟨rfl, hTq3868, hF3878, by omega, fun hM => hMq3868 ((hMq3855 (hM)).na (by decide))⟩
      · refine y_iconst 30 c55_29 rfl ?_
        exact y_retI c55_30 (y_fit1 (by omega)) ⟨rfl, hTq3855, hF3861, by omega, fun hM => hMq3855 (hM)⟩
    · refine y_iconst 19 c55_18 rfl ?_
      have tb3880 := hTq3855.atp 2 2 0 320 rfl
      exact y_retI c55_19 (y_fit1 (by omega)) ⟨rfl, hTq3855, hF3861, by omega, fun hM => hMq3855 (hM)⟩
  · refine y_iconst 10 c55_9 rfl ?_
    exact y_retI c55_10 (y_fit1 (by omega)) ⟨rfl, hT, hF, by omega, fun hM => hM⟩
def wMt0316 (a q : Nat) : Bool := (a == 2 && (q == 2 || q == 4)) || (a == 316 && (q == 10 || (decide (12 ≤ q) && decide (q ≤ 16)))) || a == 321 || a == 325 || decide (326 ≤ a ∧ a < 336)
def wMt316 (c a q : Nat) : Bool := ((a == 2 && (q == 2 || q == 4)) || (a == 316 && (q == 10 || (decide (12 ≤ q) && decide (q ≤ 16)))) || a == 321 || a == 325 || decide (326 ≤ a ∧ a < 336)) || decide (336 + c ≤ a ∧ a < 376)
theorem wMt316_lt {c a q : Nat} (h : a < 336) : wMt316 c a q = wMt0316 a q := by
  have e : decide (336 + c ≤ a ∧ a < 376) = false := by simp; omega
  simp only [wMt316, wMt0316, e, Bool.or_false]
theorem wMt316_m {c k q : Nat} (h : k < 10) : wMt316 c (326 + k) q = true := by
  simp [wMt316]
  omega
theorem wMt316_n {c j q : Nat} (h : j < c) : wMt316 c (336 + j) q = false := by
  cases e : wMt316 c (336 + j) q with
  | false => rfl
  | true => simp [wMt316] at e <;> omega
theorem wFa_wMt316 {c : Nat} : ∀ a q, wFa a q = true → wMt316 c a q = true := by
  intro a q h
  simp [wFa] at h
  simp [wMt316]
  omega
theorem wAt_wMt316 {c : Nat} : ∀ a q, wAt a q = true → wMt316 c a q = true := by
  intro a q h
  simp [wAt] at h
  simp [wMt316]
  omega
theorem wPr316_wMt316 {c : Nat} : ∀ a q, wPr316 a q = true → wMt316 c a q = true := by
  intro a q h
  simp [wPr316] at h
  simp [wMt316]
  omega
theorem wMe316_wMt316 {c : Nat} : ∀ a q, wMe316 a q = true → wMt316 c a q = true := by
  intro a q h
  simp [wMe316] at h
  simp [wMt316]
  omega
theorem wBo316_wMt316 {c : Nat} : ∀ a q, wBo316 c a q = true → wMt316 c a q = true := by
  intro a q h
  simp [wBo316] at h
  simp [wMt316]
  omega
theorem wPr316_n336 {j q : Nat} : wPr316 (336 + j) q = false := by
  cases h : wPr316 (336 + j) q with
  | false => rfl
  | true => simp [wPr316] at h <;> omega
theorem wMe316_n336 {j q : Nat} : wMe316 (336 + j) q = false := by
  cases h : wMe316 (336 + j) q with
  | false => rfl
  | true => simp [wMe316] at h <;> omega
theorem wBo316_n326 {c j q : Nat} (h : j < 10) : wBo316 c (326 + j) q = false := by
  cases h : wBo316 c (326 + j) q with
  | false => rfl
  | true => simp [wBo316] at h <;> omega
theorem wPr316_5 {j : Nat} : wPr316 (326 + j) 5 = false := by
  cases h : wPr316 (326 + j) 5 with
  | false => rfl
  | true => simp [wPr316] at h <;> omega
set_option maxRecDepth 100000 in
theorem t70_316 {L : Nat} {xs : Nat → Int32} {d nn : Nat} {m : yM} {e : Int} (hT : Ty gT m) (he : 0 ≤ e ∧ e ≤ 320) (hE : m 5 e.toNat = 0) (ha : m 2 2 ≤ e) (hp : m 2 1 = 1) (hc : 1 ≤ m 316 9) (hlt : m 2 2 < e) : YC (gZ L xs) (d + 13) 70 [.ref 2] m nn (qI (fun r m' n' => n' = nn ∧ Ty gT m' ∧ Fr (wMt316 (m 316 16).toNat) m m' ∧ ((r = 0 ∨ r = 1) ∧ m' 2 2 ≤ e ∧ m 316 16 ≤ m' 316 16 ∧ m 316 12 ≤ m' 316 12 ∧ m 316 13 ≤ m' 316 13 ∧ m 316 10 ≤ m' 316 10) ∧ (∀ z : Nat, (z : Int) < m 316 13 → m' 325 z = m 325 z) ∧ (MP 326 m → MP 326 m') ∧ (r = 1 → m' 316 10 = m 316 10 + 1 ∧ RG 336 325 m' (m 316 16) (m' 316 16) (m 316 12) (m' 316 12) (m 316 13) (m' 316 13) ∧ EN 336 m' (m 316 16) (m' 316 16) (m' 316 16) ∧ (∀ j : Nat, (j : Int) < m 316 10 → m' (326 + j) 5 = m (326 + j) 5) ∧ m' (326 + (m 316 10).toNat) 5 ≤ m' 316 16))) := by
  have tb2 := hT.atp 2 2 0 320 rfl
  have tb12 := hT.atp 316 12 0 12 rfl
  have tb13 := hT.atp 316 13 0 8 rfl
  have tb16 := hT.atp 316 16 0 40 rfl
  have tb10 := hT.atp 316 10 0 10 rfl
  refine YC.mkB [some (.ref 2), none, none] kn70 rfl rfl ?_
  have hF : Fr (wMt316 (m 316 16).toNat) m m := Fr.rf
  refine y_aload 1 c70_0 rfl rfl rfl ?_
  refine y_dup 2 c70_1 rfl rfl ?_
  refine y_getX 5 (m 2 2) c70_2 rfl kf2_2 rfl ?_
  have tb3881 := hT.atp 2 2 0 320 rfl
  refine y_iconst 6 c70_5 rfl ?_
  refine y_iadd 7 c70_6 rfl ?_
  refine y_putI 10 c70_7 rfl kf2_2 (y_fit0 _) ?_
  have hT3882 := hT.up 2 2 ((m 2 2) + 1) 0 320 rfl (by omega)
  have hF3883 := hF.up 2 2 ((m 2 2) + 1) rfl
  refine y_aload 11 c70_10 rfl rfl rfl ?_
  have es3884 : (yup m 2 2 ((m 2 2) + 1)) 2 2 = (m 2 2) + 1 := rfl
  refine y_callP 14 [.ref 2] [] c70_11 rfl rfl rfl rfl rfl (ycanO km38 ko2) (t38 hT3882 he (by have e1 : (yup m 2 2 ((m 2 2) + 1)) 5 e.toNat = m 5 e.toNat := (yup_na (by decide)); omega) (by omega)) (fun r3885 hr3885 => ?_)
  refine y_iconst 16 c70_14 rfl ?_
  refine y_icmp 33 19 c70_16 rfl rfl (yc_ne (by omega) (by omega)) (fun hb3886 => ?_) (fun hb3886 => ?_)
  · refine y_aload 34 c70_33 rfl rfl rfl ?_
    have es3888 : (yup m 2 2 ((m 2 2) + 1)) 2 2 = (m 2 2) + 1 := rfl
    refine y_callIB 37 [.ref 2] [] c70_34 rfl rfl rfl rfl rfl (ycanO km43 ko2) (t43 hT3882) (fun rq3887 mq3887 nq3887 hq3887 => ?_)
    obtain ⟨rfl, hTq3887, hFq3887, hq3887⟩ := hq3887
    have hF3889 := hF3883.tr hFq3887 wFa_wMt316
    have es3890 : mq3887 2 2 = (m 2 2) + 1 := ((hFq3887 2 2 rfl).trans (yup_eq _ _ _ _))
    have es3891 : mq3887 316 16 = m 316 16 := ((hFq3887 316 16 rfl).trans (yup_na (by decide)))
    have tb3892 := hT.atp 316 16 0 40 rfl
    have es3893 : mq3887 316 12 = m 316 12 := ((hFq3887 316 12 rfl).trans (yup_na (by decide)))
    have tb3894 := hT.atp 316 12 0 12 rfl
    have es3895 : mq3887 316 13 = m 316 13 := ((hFq3887 316 13 rfl).trans (yup_na (by decide)))
    have tb3896 := hT.atp 316 13 0 8 rfl
    have es3897 : mq3887 316 10 = m 316 10 := ((hFq3887 316 10 rfl).trans (yup_na (by decide)))
    have tb3898 := hT.atp 316 10 0 10 rfl
    refine y_retI c70_37 (y_fit1 (by omega)) ⟨rfl, hTq3887, hF3889, by omega, fun z hz => ((hFq3887 325 z rfl).trans (yup_na (by decide))), fun hM => ((hM).na (by decide)).fr (fun k hk => hFq3887 _ _ wFa_n326) (fun k hk => hFq3887 _ _ wFa_n326), fun h1 => ?_⟩
    omega
  · refine y_aload 20 c70_19 rfl rfl rfl ?_
    refine y_getS 23 (B := 316) c70_20 rfl kf2_1 (by rw [show (yup m 2 2 ((m 2 2) + 1)) 2 1 = 1 from by have e : (yup m 2 2 ((m 2 2) + 1)) 2 1 = m 2 1 := rfl; omega]; rfl) ?_
    refine y_aload 24 c70_23 rfl rfl rfl ?_
    refine y_callP 27 [.ref 2] [.ref 316] c70_24 rfl rfl rfl rfl rfl (ycanO km39 ko2) (t39 hT3882) (fun r3899 hr3899 => ?_)
    have es3901 : (yup m 2 2 ((m 2 2) + 1)) 316 9 = m 316 9 := rfl
    have tb3902 := hT.atp 316 9 0 6 rfl
    have es3903 : (yup m 2 2 ((m 2 2) + 1)) 316 10 = m 316 10 := rfl
    have tb3904 := hT.atp 316 10 0 10 rfl
    have es3905 : (yup m 2 2 ((m 2 2) + 1)) 316 15 = m 316 15 := rfl
    have tb3906 := hT.atp 316 15 0 48 rfl
    have e10 : (yup m 2 2 ((m 2 2) + 1)) 316 10 = m 316 10 := rfl
    refine y_callIB 30 [.ref 316, yI r3899] [] c70_27 rfl rfl rfl rfl rfl (ycanO km51 ko316) (t51_316 hT3882 (by omega) (by omega)) (fun rq3900 mq3900 nq3900 hq3900 => ?_)
    obtain ⟨rfl, hTq3900, hFq3900, hq3900⟩ := hq3900
    rw [e10] at hq3900
    rcases hq3900 with ⟨rfl, rfl⟩ | ⟨rfl, hq3900, h15, hr2, hr3, hMq3900, hNq3900⟩
    · refine y_if 38 33 c70_30 rfl rfl (yz_ne (by omega)) (fun hb3907 => ?_) (fun hb3907 => ?_)
      · exfalso; omega
      · refine y_aload 34 c70_33 rfl rfl rfl ?_
        have es3909 : (yup m 2 2 ((m 2 2) + 1)) 2 2 = (m 2 2) + 1 := rfl
        refine y_callIB 37 [.ref 2] [] c70_34 rfl rfl rfl rfl rfl (ycanO km43 ko2) (t43 hT3882) (fun rq3908 mq3908 nq3908 hq3908 => ?_)
        obtain ⟨rfl, hTq3908, hFq3908, hq3908⟩ := hq3908
        have hF3910 := hF3883.tr hFq3908 wFa_wMt316
        have es3911 : mq3908 2 2 = (m 2 2) + 1 := ((hFq3908 2 2 rfl).trans (yup_eq _ _ _ _))
        have es3912 : mq3908 316 16 = m 316 16 := ((hFq3908 316 16 rfl).trans (yup_na (by decide)))
        have tb3913 := hT.atp 316 16 0 40 rfl
        have es3914 : mq3908 316 12 = m 316 12 := ((hFq3908 316 12 rfl).trans (yup_na (by decide)))
        have tb3915 := hT.atp 316 12 0 12 rfl
        have es3916 : mq3908 316 13 = m 316 13 := ((hFq3908 316 13 rfl).trans (yup_na (by decide)))
        have tb3917 := hT.atp 316 13 0 8 rfl
        have es3918 : mq3908 316 10 = m 316 10 := ((hFq3908 316 10 rfl).trans (yup_na (by decide)))
        refine y_retI c70_37 (y_fit1 (by omega)) ⟨rfl, hTq3908, hF3910, by omega, fun z hz => ((hFq3908 325 z rfl).trans (yup_na (by decide))), fun hM => ((hM).na (by decide)).fr (fun k hk => hFq3908 _ _ wFa_n326) (fun k hk => hFq3908 _ _ wFa_n326), fun h1 => ?_⟩
        omega
    · have hF3919 := hF3883.tr hFq3900 wMe316_wMt316
      have ekm : mq3900 316 10 - 1 = m 316 10 := by omega
      have hr2' : mq3900 (326 + (mq3900 316 10 - 1).toNat) 2 = m 316 15 := by rw [ekm, hr2]; rfl
      have hr3' : mq3900 (326 + (mq3900 316 10 - 1).toNat) 3 = 0 := by rw [ekm]; exact hr3
      have hk1 : m 316 10 ≤ 9 := by have := hTq3900.atp 316 10 0 10 rfl; omega
      refine y_if 38 33 c70_30 rfl rfl (yz_ne (by omega)) (fun hb3920 => ?_) (fun hb3920 => ?_)
      · refine y_aload 39 c70_38 rfl rfl rfl ?_
        refine y_dup 40 c70_39 rfl rfl ?_
        refine y_getX 43 ((m 2 2) + 1) c70_40 rfl kf2_2 ((hFq3900 2 2 rfl).trans (yup_eq _ _ _ _)) ?_
        refine y_iconst 44 c70_43 rfl ?_
        refine y_iadd 45 c70_44 rfl ?_
        refine y_putI 48 c70_45 rfl kf2_2 (y_fit0 _) ?_
        have hT3921 := hTq3900.up 2 2 (((m 2 2) + 1) + 1) 0 320 rfl (by omega)
        have hF3922 := hF3919.up 2 2 (((m 2 2) + 1) + 1) rfl
        refine y_aload 49 c70_48 rfl rfl rfl ?_
        refine y_getS 52 (B := 316) c70_49 rfl kf2_1 (by rw [show (yup mq3900 2 2 (((m 2 2) + 1) + 1)) 2 1 = 1 from by have e : (yup mq3900 2 2 (((m 2 2) + 1) + 1)) 2 1 = m 2 1 := ((yup_nk (by decide)).trans ((hFq3900 2 1 rfl).trans (yup_nk (by decide)))); omega]; rfl) ?_
        refine y_getR 55 c70_52 rfl kf316_5 ?_
        refine y_aload 56 c70_55 rfl rfl rfl ?_
        refine y_getS 59 (B := 316) c70_56 rfl kf2_1 (by rw [show (yup mq3900 2 2 (((m 2 2) + 1) + 1)) 2 1 = 1 from by have e : (yup mq3900 2 2 (((m 2 2) + 1) + 1)) 2 1 = m 2 1 := ((yup_nk (by decide)).trans ((hFq3900 2 1 rfl).trans (yup_nk (by decide)))); omega]; rfl) ?_
        refine y_getX 62 (mq3900 316 10) c70_59 rfl kf316_10 rfl ?_
        have tb3923 := hTq3900.atp 316 10 0 10 rfl
        refine y_iconst 63 c70_62 rfl ?_
        refine y_isub 64 c70_63 rfl ?_
        refine y_aaload 65 c70_64 rfl kr322 (by omega) ?_
        refine y_astore 66 c70_65 rfl rfl rfl ?_
        refine y_aload 67 c70_66 rfl rfl rfl ?_
        refine y_aload 68 c70_67 rfl rfl rfl ?_
        refine y_getS 71 (B := 316) c70_68 rfl kf2_1 (by rw [show (yup mq3900 2 2 (((m 2 2) + 1) + 1)) 2 1 = 1 from by have e : (yup mq3900 2 2 (((m 2 2) + 1) + 1)) 2 1 = m 2 1 := ((yup_nk (by decide)).trans ((hFq3900 2 1 rfl).trans (yup_nk (by decide)))); omega]; rfl) ?_
        refine y_getX 74 (m 316 16) c70_71 rfl kf316_16 ((yup_na (by decide)).trans ((hFq3900 316 16 rfl).trans (yup_na (by decide)))) ?_
        have tb3924 := hT.atp 316 16 0 40 rfl
        refine y_putI 77 c70_74 rfl (ff326_4 (by omega)) (y_fit0 _) ?_
        have hT3925 := hT3921.up (326 + ((mq3900 316 10) - 1).toNat) 4 (m 316 16) 0 40 (ft326_4 (by omega)) (by omega)
        have hF3926 := hF3922.up (326 + ((mq3900 316 10) - 1).toNat) 4 (m 316 16) (wMt316_m (by omega))
        refine y_aload 78 c70_77 rfl rfl rfl ?_
        refine y_iconst 80 c70_78 rfl ?_
        have es3928 : (yup (yup mq3900 2 2 (((m 2 2) + 1) + 1)) (326 + ((mq3900 316 10) - 1).toNat) 4 (m 316 16)) 2 2 = ((m 2 2) + 1) + 1 := ((yup_na (by omega)).trans (yup_eq _ _ _ _))
        refine y_callIB 83 [.ref 2, yI 40] [] c70_80 rfl rfl rfl rfl rfl (ycanO km37 ko2) (t37 hT3925 he (by have e1 : (yup (yup mq3900 2 2 (((m 2 2) + 1) + 1)) (326 + ((mq3900 316 10) - 1).toNat) 4 (m 316 16)) 5 e.toNat = m 5 e.toNat := ((yup_na (by omega)).trans ((yup_na (by decide)).trans ((hFq3900 5 e.toNat rfl).trans (yup_na (by decide))))); omega) (by omega) (by omega)) (fun rq3927 mq3927 nq3927 hq3927 => ?_)
        obtain ⟨rfl, hTq3927, hFq3927, hq3927⟩ := hq3927
        have hF3929 := hF3926.tr hFq3927 wAt_wMt316
        refine y_if 114 86 c70_83 rfl rfl (yz_eq (by omega)) (fun hb3930 => ?_) (fun hb3930 => ?_)
        · refine y_iconst 115 c70_114 rfl ?_
          refine y_istore 116 c70_115 rfl rfl ?_
          refine y_aload 117 c70_116 rfl rfl rfl ?_
          refine y_aload 118 c70_117 rfl rfl rfl ?_
          refine y_getS 121 (B := 316) c70_118 rfl kf2_1 (by rw [show mq3927 2 1 = 1 from by have e : mq3927 2 1 = m 2 1 := ((hFq3927 2 1 rfl).trans ((yup_na (by omega)).trans ((yup_nk (by decide)).trans ((hFq3900 2 1 rfl).trans (yup_nk (by decide)))))); omega]; rfl) ?_
          refine y_getX 124 (m 316 16) c70_121 rfl kf316_16 ((hFq3927 316 16 rfl).trans ((yup_na (by omega)).trans ((yup_na (by decide)).trans ((hFq3900 316 16 rfl).trans (yup_na (by decide)))))) ?_
          refine y_putI 127 c70_124 rfl (ff326_5 (by omega)) (y_fit0 _) ?_
          have hT3931 := hTq3927.up (326 + ((mq3900 316 10) - 1).toNat) 5 (m 316 16) 0 40 (ft326_5 (by omega)) (by omega)
          have hF3932 := hF3929.up (326 + ((mq3900 316 10) - 1).toNat) 5 (m 316 16) (wMt316_m (by omega))
          refine y_iload 128 c70_127 rfl rfl ?_
          have es3933 : (yup mq3927 (326 + ((mq3900 316 10) - 1).toNat) 5 (m 316 16)) 2 2 = mq3927 2 2 := (yup_na (by omega))
          have tb3934 := hTq3927.atp 2 2 0 320 rfl
          have es3935 : (yup mq3927 (326 + ((mq3900 316 10) - 1).toNat) 5 (m 316 16)) 316 16 = m 316 16 := ((yup_na (by omega)).trans ((hFq3927 316 16 rfl).trans ((yup_na (by omega)).trans ((yup_na (by decide)).trans ((hFq3900 316 16 rfl).trans (yup_na (by decide)))))))
          have es3936 : (yup mq3927 (326 + ((mq3900 316 10) - 1).toNat) 5 (m 316 16)) 316 12 = m 316 12 := ((yup_na (by omega)).trans ((hFq3927 316 12 rfl).trans ((yup_na (by omega)).trans ((yup_na (by decide)).trans ((hFq3900 316 12 rfl).trans (yup_na (by decide)))))))
          have tb3937 := hT.atp 316 12 0 12 rfl
          have es3938 : (yup mq3927 (326 + ((mq3900 316 10) - 1).toNat) 5 (m 316 16)) 316 13 = m 316 13 := ((yup_na (by omega)).trans ((hFq3927 316 13 rfl).trans ((yup_na (by omega)).trans ((yup_na (by decide)).trans ((hFq3900 316 13 rfl).trans (yup_na (by decide)))))))
          have tb3939 := hT.atp 316 13 0 8 rfl
          have es3940 : (yup mq3927 (326 + ((mq3900 316 10) - 1).toNat) 5 (m 316 16)) 316 10 = mq3900 316 10 := ((yup_na (by omega)).trans ((hFq3927 316 10 rfl).trans ((yup_na (by omega)).trans (yup_na (by decide)))))
          refine y_retI c70_128 (y_fit1 (by omega)) ⟨rfl, hT3931, hF3932, by omega, fun z hz => ((yup_na (by omega)).trans ((hFq3927 325 z rfl).trans ((yup_na (by omega)).trans ((yup_na (by decide)).trans ((hFq3900 325 z rfl).trans (yup_na (by decide))))))), fun hM => ((((hMq3900 ((hM).na (by decide))).na (by decide)).fr (fun _ _ => yup_nk (by decide)) (fun _ _ => yup_nk (by decide))).fr (fun k hk => hFq3927 _ _ wAt_n326) (fun k hk => hFq3927 _ _ wAt_n326)).fr (fun _ _ => yup_nk (by decide)) (fun _ _ => yup_nk (by decide)), fun h1 => ?_⟩
          omega
        · refine y_aload 87 c70_86 rfl rfl rfl ?_
          have tb3942 := hTq3927.atp 2 2 0 320 rfl
          have es3943 : mq3927 2 1 = m 2 1 := ((hFq3927 2 1 rfl).trans ((yup_na (by omega)).trans ((yup_nk (by decide)).trans ((hFq3900 2 1 rfl).trans (yup_nk (by decide))))))
          have tb3944 := hT.atp 2 1 ((-1)) 1 rfl
          have es3945 : mq3927 316 10 = mq3900 316 10 := ((hFq3927 316 10 rfl).trans ((yup_na (by omega)).trans (yup_na (by decide))))
          have es3946 : mq3927 316 15 = mq3900 316 15 := ((hFq3927 316 15 rfl).trans ((yup_na (by omega)).trans (yup_na (by decide))))
          have tb3947 := hTq3900.atp 316 15 0 48 rfl
          have es3948 : mq3927 (326 + ((mq3900 316 10) - 1).toNat) 2 = mq3900 (326 + ((mq3900 316 10) - 1).toNat) 2 := ((hFq3927 (326 + ((mq3900 316 10) - 1).toNat) 2 wAt_n326).trans ((yup_nk (by decide)).trans (yup_na (by omega))))
          have tb3949 := hTq3900.atp (326 + ((mq3900 316 10) - 1).toNat) 2 0 46 (ft326_2 (by omega))
          have es3950 : mq3927 (326 + ((mq3900 316 10) - 1).toNat) 3 = mq3900 (326 + ((mq3900 316 10) - 1).toNat) 3 := ((hFq3927 (326 + ((mq3900 316 10) - 1).toNat) 3 wAt_n326).trans ((yup_nk (by decide)).trans (yup_na (by omega))))
          have tb3951 := hTq3900.atp (326 + ((mq3900 316 10) - 1).toNat) 3 0 2 (ft326_3 (by omega))
          refine y_callIB 90 [.ref 2] [] c70_87 rfl rfl rfl rfl rfl (ycanO km55 ko2) (t55_316 (k := ((mq3900 316 10) - 1)) hTq3927 he (by have e1 : mq3927 5 e.toNat = m 5 e.toNat := ((hFq3927 5 e.toNat rfl).trans ((yup_na (by omega)).trans ((yup_na (by decide)).trans ((hFq3900 5 e.toNat rfl).trans (yup_na (by decide)))))); omega) (by omega) (by omega) (by omega) (by omega) (by omega) (by omega)) (fun rq3941 mq3941 nq3941 hq3941 => ?_)
          obtain ⟨rfl, hTq3941, hFq3941, hq3941, hMq3941⟩ := hq3941
          have hF3952 := hF3929.tr hFq3941 wPr316_wMt316
          refine y_if 114 93 c70_90 rfl rfl (yz_eq (by omega)) (fun hb3953 => ?_) (fun hb3953 => ?_)
          · refine y_iconst 115 c70_114 rfl ?_
            refine y_istore 116 c70_115 rfl rfl ?_
            refine y_aload 117 c70_116 rfl rfl rfl ?_
            refine y_aload 118 c70_117 rfl rfl rfl ?_
            refine y_getS 121 (B := 316) c70_118 rfl kf2_1 (by rw [show mq3941 2 1 = 1 from by have e : mq3941 2 1 = m 2 1 := ((hFq3941 2 1 rfl).trans ((hFq3927 2 1 rfl).trans ((yup_na (by omega)).trans ((yup_nk (by decide)).trans ((hFq3900 2 1 rfl).trans (yup_nk (by decide))))))); omega]; rfl) ?_
            refine y_getX 124 (m 316 16) c70_121 rfl kf316_16 ((hFq3941 316 16 rfl).trans ((hFq3927 316 16 rfl).trans ((yup_na (by omega)).trans ((yup_na (by decide)).trans ((hFq3900 316 16 rfl).trans (yup_na (by decide))))))) ?_
            refine y_putI 127 c70_124 rfl (ff326_5 (by omega)) (y_fit0 _) ?_
            have hT3954 := hTq3941.up (326 + ((mq3900 316 10) - 1).toNat) 5 (m 316 16) 0 40 (ft326_5 (by omega)) (by omega)
            have hF3955 := hF3952.up (326 + ((mq3900 316 10) - 1).toNat) 5 (m 316 16) (wMt316_m (by omega))
            refine y_iload 128 c70_127 rfl rfl ?_
            have es3956 : (yup mq3941 (326 + ((mq3900 316 10) - 1).toNat) 5 (m 316 16)) 2 2 = mq3941 2 2 := (yup_na (by omega))
            have tb3957 := hTq3941.atp 2 2 0 320 rfl
            have es3958 : (yup mq3941 (326 + ((mq3900 316 10) - 1).toNat) 5 (m 316 16)) 316 16 = m 316 16 := ((yup_na (by omega)).trans ((hFq3941 316 16 rfl).trans ((hFq3927 316 16 rfl).trans ((yup_na (by omega)).trans ((yup_na (by decide)).trans ((hFq3900 316 16 rfl).trans (yup_na (by decide))))))))
            have es3959 : (yup mq3941 (326 + ((mq3900 316 10) - 1).toNat) 5 (m 316 16)) 316 12 = m 316 12 := ((yup_na (by omega)).trans ((hFq3941 316 12 rfl).trans ((hFq3927 316 12 rfl).trans ((yup_na (by omega)).trans ((yup_na (by decide)).trans ((hFq3900 316 12 rfl).trans (yup_na (by decide))))))))
            have tb3960 := hT.atp 316 12 0 12 rfl
            have es3961 : (yup mq3941 (326 + ((mq3900 316 10) - 1).toNat) 5 (m 316 16)) 316 13 = m 316 13 := ((yup_na (by omega)).trans ((hFq3941 316 13 rfl).trans ((hFq3927 316 13 rfl).trans ((yup_na (by omega)).trans ((yup_na (by decide)).trans ((hFq3900 316 13 rfl).trans (yup_na (by decide))))))))
            have tb3962 := hT.atp 316 13 0 8 rfl
            have es3963 : (yup mq3941 (326 + ((mq3900 316 10) - 1).toNat) 5 (m 316 16)) 316 10 = mq3900 316 10 := ((yup_na (by omega)).trans ((hFq3941 316 10 rfl).trans ((hFq3927 316 10 rfl).trans ((yup_na (by omega)).trans (yup_na (by decide))))))
            refine y_retI c70_128 (y_fit1 (by omega)) ⟨rfl, hT3954, hF3955, by omega, fun z hz => ((yup_na (by omega)).trans ((hFq3941 325 z rfl).trans ((hFq3927 325 z rfl).trans ((yup_na (by omega)).trans ((yup_na (by decide)).trans ((hFq3900 325 z rfl).trans (yup_na (by decide)))))))), fun hM => (hMq3941 ((((hMq3900 ((hM).na (by decide))).na (by decide)).fr (fun _ _ => yup_nk (by decide)) (fun _ _ => yup_nk (by decide))).fr (fun k hk => hFq3927 _ _ wAt_n326) (fun k hk => hFq3927 _ _ wAt_n326))).fr (fun _ _ => yup_nk (by decide)) (fun _ _ => yup_nk (by decide)), fun h1 => ?_⟩
            omega
          · refine y_aload 94 c70_93 rfl rfl rfl ?_
            refine y_iconst 96 c70_94 rfl ?_
            have tb3965 := hTq3941.atp 2 2 0 320 rfl
            refine y_callIB 99 [.ref 2, yI 41] [] c70_96 rfl rfl rfl rfl rfl (ycanO km37 ko2) (t37 hTq3941 he (by have e1 : mq3941 5 e.toNat = m 5 e.toNat := ((hFq3941 5 e.toNat rfl).trans ((hFq3927 5 e.toNat rfl).trans ((yup_na (by omega)).trans ((yup_na (by decide)).trans ((hFq3900 5 e.toNat rfl).trans (yup_na (by decide))))))); omega) (by omega) (by omega)) (fun rq3964 mq3964 nq3964 hq3964 => ?_)
            obtain ⟨rfl, hTq3964, hFq3964, hq3964⟩ := hq3964
            have hF3966 := hF3952.tr hFq3964 wAt_wMt316
            refine y_if 114 102 c70_99 rfl rfl (yz_eq (by omega)) (fun hb3967 => ?_) (fun hb3967 => ?_)
            · refine y_iconst 115 c70_114 rfl ?_
              refine y_istore 116 c70_115 rfl rfl ?_
              refine y_aload 117 c70_116 rfl rfl rfl ?_
              refine y_aload 118 c70_117 rfl rfl rfl ?_
              refine y_getS 121 (B := 316) c70_118 rfl kf2_1 (by rw [show mq3964 2 1 = 1 from by have e : mq3964 2 1 = m 2 1 := ((hFq3964 2 1 rfl).trans ((hFq3941 2 1 rfl).trans ((hFq3927 2 1 rfl).trans ((yup_na (by omega)).trans ((yup_nk (by decide)).trans ((hFq3900 2 1 rfl).trans (yup_nk (by decide)))))))); omega]; rfl) ?_
              refine y_getX 124 (m 316 16) c70_121 rfl kf316_16 ((hFq3964 316 16 rfl).trans ((hFq3941 316 16 rfl).trans ((hFq3927 316 16 rfl).trans ((yup_na (by omega)).trans ((yup_na (by decide)).trans ((hFq3900 316 16 rfl).trans (yup_na (by decide)))))))) ?_
              refine y_putI 127 c70_124 rfl (ff326_5 (by omega)) (y_fit0 _) ?_
              have hT3968 := hTq3964.up (326 + ((mq3900 316 10) - 1).toNat) 5 (m 316 16) 0 40 (ft326_5 (by omega)) (by omega)
              have hF3969 := hF3966.up (326 + ((mq3900 316 10) - 1).toNat) 5 (m 316 16) (wMt316_m (by omega))
              refine y_iload 128 c70_127 rfl rfl ?_
              have es3970 : (yup mq3964 (326 + ((mq3900 316 10) - 1).toNat) 5 (m 316 16)) 2 2 = mq3964 2 2 := (yup_na (by omega))
              have tb3971 := hTq3964.atp 2 2 0 320 rfl
              have es3972 : (yup mq3964 (326 + ((mq3900 316 10) - 1).toNat) 5 (m 316 16)) 316 16 = m 316 16 := ((yup_na (by omega)).trans ((hFq3964 316 16 rfl).trans ((hFq3941 316 16 rfl).trans ((hFq3927 316 16 rfl).trans ((yup_na (by omega)).trans ((yup_na (by decide)).trans ((hFq3900 316 16 rfl).trans (yup_na (by decide)))))))))
              have es3973 : (yup mq3964 (326 + ((mq3900 316 10) - 1).toNat) 5 (m 316 16)) 316 12 = m 316 12 := ((yup_na (by omega)).trans ((hFq3964 316 12 rfl).trans ((hFq3941 316 12 rfl).trans ((hFq3927 316 12 rfl).trans ((yup_na (by omega)).trans ((yup_na (by decide)).trans ((hFq3900 316 12 rfl).trans (yup_na (by decide)))))))))
              have tb3974 := hT.atp 316 12 0 12 rfl
              have es3975 : (yup mq3964 (326 + ((mq3900 316 10) - 1).toNat) 5 (m 316 16)) 316 13 = m 316 13 := ((yup_na (by omega)).trans ((hFq3964 316 13 rfl).trans ((hFq3941 316 13 rfl).trans ((hFq3927 316 13 rfl).trans ((yup_na (by omega)).trans ((yup_na (by decide)).trans ((hFq3900 316 13 rfl).trans (yup_na (by decide)))))))))
              have tb3976 := hT.atp 316 13 0 8 rfl
              have es3977 : (yup mq3964 (326 + ((mq3900 316 10) - 1).toNat) 5 (m 316 16)) 316 10 = mq3900 316 10 := ((yup_na (by omega)).trans ((hFq3964 316 10 rfl).trans ((hFq3941 316 10 rfl).trans ((hFq3927 316 10 rfl).trans ((yup_na (by omega)).trans (yup_na (by decide)))))))
              refine y_retI c70_128 (y_fit1 (by omega)) ⟨rfl, hT3968, hF3969, by omega, fun z hz => ((yup_na (by omega)).trans ((hFq3964 325 z rfl).trans ((hFq3941 325 z rfl).trans ((hFq3927 325 z rfl).trans ((yup_na (by omega)).trans ((yup_na (by decide)).trans ((hFq3900 325 z rfl).trans (yup_na (by decide))))))))), fun hM => ((hMq3941 ((((hMq3900 ((hM).na (by decide))).na (by decide)).fr (fun _ _ => yup_nk (by decide)) (fun _ _ => yup_nk (by decide))).fr (fun k hk => hFq3927 _ _ wAt_n326) (fun k hk => hFq3927 _ _ wAt_n326))).fr (fun k hk => hFq3964 _ _ wAt_n326) (fun k hk => hFq3964 _ _ wAt_n326)).fr (fun _ _ => yup_nk (by decide)) (fun _ _ => yup_nk (by decide)), fun h1 => ?_⟩
              omega
            · refine y_aload 103 c70_102 rfl rfl rfl ?_
              refine y_iconst 104 c70_103 rfl ?_
              have tb3979 := hTq3964.atp 2 2 0 320 rfl
              have es3980 : mq3964 2 1 = m 2 1 := ((hFq3964 2 1 rfl).trans ((hFq3941 2 1 rfl).trans ((hFq3927 2 1 rfl).trans ((yup_na (by omega)).trans ((yup_nk (by decide)).trans ((hFq3900 2 1 rfl).trans (yup_nk (by decide))))))))
              have es3981 : mq3964 316 10 = mq3900 316 10 := ((hFq3964 316 10 rfl).trans ((hFq3941 316 10 rfl).trans ((hFq3927 316 10 rfl).trans ((yup_na (by omega)).trans (yup_na (by decide))))))
              have es3982 : mq3964 316 12 = m 316 12 := ((hFq3964 316 12 rfl).trans ((hFq3941 316 12 rfl).trans ((hFq3927 316 12 rfl).trans ((yup_na (by omega)).trans ((yup_na (by decide)).trans ((hFq3900 316 12 rfl).trans (yup_na (by decide))))))))
              have tb3983 := hT.atp 316 12 0 12 rfl
              have es3984 : mq3964 316 13 = m 316 13 := ((hFq3964 316 13 rfl).trans ((hFq3941 316 13 rfl).trans ((hFq3927 316 13 rfl).trans ((yup_na (by omega)).trans ((yup_na (by decide)).trans ((hFq3900 316 13 rfl).trans (yup_na (by decide))))))))
              have tb3985 := hT.atp 316 13 0 8 rfl
              have es3986 : mq3964 316 16 = m 316 16 := ((hFq3964 316 16 rfl).trans ((hFq3941 316 16 rfl).trans ((hFq3927 316 16 rfl).trans ((yup_na (by omega)).trans ((yup_na (by decide)).trans ((hFq3900 316 16 rfl).trans (yup_na (by decide))))))))
              refine y_callIB 107 [.ref 2, yI 0] [] c70_104 rfl rfl rfl rfl rfl (ycanO km69 ko2) (t69_316 hTq3964 he (by have e1 : mq3964 5 e.toNat = m 5 e.toNat := ((hFq3964 5 e.toNat rfl).trans ((hFq3941 5 e.toNat rfl).trans ((hFq3927 5 e.toNat rfl).trans ((yup_na (by omega)).trans ((yup_na (by decide)).trans ((hFq3900 5 e.toNat rfl).trans (yup_na (by decide)))))))); omega) (by omega) (by omega) (by omega)) (fun rq3978 mq3978 nq3978 hq3978 => ?_)
              obtain ⟨rfl, hTq3978, hFq3978, hq3978, hZq3978, hGq3978⟩ := hq3978
              have es16q3978 : mq3964 316 16 = m 316 16 := ((hFq3964 316 16 rfl).trans ((hFq3941 316 16 rfl).trans ((hFq3927 316 16 rfl).trans ((yup_na (by omega)).trans ((yup_na (by decide)).trans ((hFq3900 316 16 rfl).trans (yup_na (by decide))))))))
              have hF3987 := hF3966.tr hFq3978 (by rw [es16q3978]; exact wBo316_wMt316)
              refine y_if 114 110 c70_107 rfl rfl (yz_eq (by omega)) (fun hb3988 => ?_) (fun hb3988 => ?_)
              · refine y_iconst 115 c70_114 rfl ?_
                refine y_istore 116 c70_115 rfl rfl ?_
                refine y_aload 117 c70_116 rfl rfl rfl ?_
                refine y_aload 118 c70_117 rfl rfl rfl ?_
                refine y_getS 121 (B := 316) c70_118 rfl kf2_1 (by rw [show mq3978 2 1 = 1 from by have e : mq3978 2 1 = m 2 1 := ((hFq3978 2 1 ((wBo316_lt (by decide)).trans rfl)).trans ((hFq3964 2 1 rfl).trans ((hFq3941 2 1 rfl).trans ((hFq3927 2 1 rfl).trans ((yup_na (by omega)).trans ((yup_nk (by decide)).trans ((hFq3900 2 1 rfl).trans (yup_nk (by decide))))))))); omega]; rfl) ?_
                refine y_getX 124 (mq3978 316 16) c70_121 rfl kf316_16 rfl ?_
                have tb3989 := hTq3978.atp 316 16 0 40 rfl
                refine y_putI 127 c70_124 rfl (ff326_5 (by omega)) (y_fit0 _) ?_
                have hT3990 := hTq3978.up (326 + ((mq3900 316 10) - 1).toNat) 5 (mq3978 316 16) 0 40 (ft326_5 (by omega)) (by omega)
                have hF3991 := hF3987.up (326 + ((mq3900 316 10) - 1).toNat) 5 (mq3978 316 16) (wMt316_m (by omega))
                refine y_iload 128 c70_127 rfl rfl ?_
                have es3992 : (yup mq3978 (326 + ((mq3900 316 10) - 1).toNat) 5 (mq3978 316 16)) 2 2 = mq3978 2 2 := (yup_na (by omega))
                have tb3993 := hTq3978.atp 2 2 0 320 rfl
                have es3994 : (yup mq3978 (326 + ((mq3900 316 10) - 1).toNat) 5 (mq3978 316 16)) 316 16 = mq3978 316 16 := (yup_na (by omega))
                have es3995 : (yup mq3978 (326 + ((mq3900 316 10) - 1).toNat) 5 (mq3978 316 16)) 316 12 = mq3978 316 12 := (yup_na (by omega))
                have tb3996 := hTq3978.atp 316 12 0 12 rfl
                have es3997 : (yup mq3978 (326 + ((mq3900 316 10) - 1).toNat) 5 (mq3978 316 16)) 316 13 = mq3978 316 13 := (yup_na (by omega))
                have tb3998 := hTq3978.atp 316 13 0 8 rfl
                have es3999 : (yup mq3978 (326 + ((mq3900 316 10) - 1).toNat) 5 (mq3978 316 16)) 316 10 = mq3900 316 10 := ((yup_na (by omega)).trans ((hFq3978 316 10 ((wBo316_lt (by decide)).trans rfl)).trans ((hFq3964 316 10 rfl).trans ((hFq3941 316 10 rfl).trans ((hFq3927 316 10 rfl).trans ((yup_na (by omega)).trans (yup_na (by decide))))))))
                refine y_retI c70_128 (y_fit1 (by omega)) ⟨rfl, hT3990, hF3991, by omega, fun z hz => ((yup_na (by omega)).trans ((hZq3978 z (by omega)).trans ((hFq3964 325 z rfl).trans ((hFq3941 325 z rfl).trans ((hFq3927 325 z rfl).trans ((yup_na (by omega)).trans ((yup_na (by decide)).trans ((hFq3900 325 z rfl).trans (yup_na (by decide)))))))))), fun hM => (((hMq3941 ((((hMq3900 ((hM).na (by decide))).na (by decide)).fr (fun _ _ => yup_nk (by decide)) (fun _ _ => yup_nk (by decide))).fr (fun k hk => hFq3927 _ _ wAt_n326) (fun k hk => hFq3927 _ _ wAt_n326))).fr (fun k hk => hFq3964 _ _ wAt_n326) (fun k hk => hFq3964 _ _ wAt_n326)).fr (fun k hk => hFq3978 _ _ (wBo316_n326 (by omega))) (fun k hk => hFq3978 _ _ (wBo316_n326 (by omega)))).fr (fun _ _ => yup_nk (by decide)) (fun _ _ => yup_nk (by decide)), fun h1 => ?_⟩
                omega
              · refine y_iconst 111 c70_110 rfl ?_
                refine y_goto 115 c70_111 rfl ?_
                refine y_istore 116 c70_115 rfl rfl ?_
                refine y_aload 117 c70_116 rfl rfl rfl ?_
                refine y_aload 118 c70_117 rfl rfl rfl ?_
                refine y_getS 121 (B := 316) c70_118 rfl kf2_1 (by rw [show mq3978 2 1 = 1 from by have e : mq3978 2 1 = m 2 1 := ((hFq3978 2 1 ((wBo316_lt (by decide)).trans rfl)).trans ((hFq3964 2 1 rfl).trans ((hFq3941 2 1 rfl).trans ((hFq3927 2 1 rfl).trans ((yup_na (by omega)).trans ((yup_nk (by decide)).trans ((hFq3900 2 1 rfl).trans (yup_nk (by decide))))))))); omega]; rfl) ?_
                refine y_getX 124 (mq3978 316 16) c70_121 rfl kf316_16 rfl ?_
                have tb4000 := hTq3978.atp 316 16 0 40 rfl
                refine y_putI 127 c70_124 rfl (ff326_5 (by omega)) (y_fit0 _) ?_
                have hT4001 := hTq3978.up (326 + ((mq3900 316 10) - 1).toNat) 5 (mq3978 316 16) 0 40 (ft326_5 (by omega)) (by omega)
                have hF4002 := hF3987.up (326 + ((mq3900 316 10) - 1).toNat) 5 (mq3978 316 16) (wMt316_m (by omega))
                refine y_iload 128 c70_127 rfl rfl ?_
                have es4003 : (yup mq3978 (326 + ((mq3900 316 10) - 1).toNat) 5 (mq3978 316 16)) 2 2 = mq3978 2 2 := (yup_na (by omega))
                have tb4004 := hTq3978.atp 2 2 0 320 rfl
                have es4005 : (yup mq3978 (326 + ((mq3900 316 10) - 1).toNat) 5 (mq3978 316 16)) 316 16 = mq3978 316 16 := (yup_na (by omega))
                have es4006 : (yup mq3978 (326 + ((mq3900 316 10) - 1).toNat) 5 (mq3978 316 16)) 316 12 = mq3978 316 12 := (yup_na (by omega))
                have tb4007 := hTq3978.atp 316 12 0 12 rfl
                have es4008 : (yup mq3978 (326 + ((mq3900 316 10) - 1).toNat) 5 (mq3978 316 16)) 316 13 = mq3978 316 13 := (yup_na (by omega))
                have tb4009 := hTq3978.atp 316 13 0 8 rfl
                have es4010 : (yup mq3978 (326 + ((mq3900 316 10) - 1).toNat) 5 (mq3978 316 16)) 316 10 = mq3900 316 10 := ((yup_na (by omega)).trans ((hFq3978 316 10 ((wBo316_lt (by decide)).trans rfl)).trans ((hFq3964 316 10 rfl).trans ((hFq3941 316 10 rfl).trans ((hFq3927 316 10 rfl).trans ((yup_na (by omega)).trans (yup_na (by decide))))))))
                refine y_retI c70_128 (y_fit1 (by omega)) ⟨rfl, hT4001, hF4002, by omega, fun z hz => ((yup_na (by omega)).trans ((hZq3978 z (by omega)).trans ((hFq3964 325 z rfl).trans ((hFq3941 325 z rfl).trans ((hFq3927 325 z rfl).trans ((yup_na (by omega)).trans ((yup_na (by decide)).trans ((hFq3900 325 z rfl).trans (yup_na (by decide)))))))))), fun hM => (((hMq3941 ((((hMq3900 ((hM).na (by decide))).na (by decide)).fr (fun _ _ => yup_nk (by decide)) (fun _ _ => yup_nk (by decide))).fr (fun k hk => hFq3927 _ _ wAt_n326) (fun k hk => hFq3927 _ _ wAt_n326))).fr (fun k hk => hFq3964 _ _ wAt_n326) (fun k hk => hFq3964 _ _ wAt_n326)).fr (fun k hk => hFq3978 _ _ (wBo316_n326 (by omega))) (fun k hk => hFq3978 _ _ (wBo316_n326 (by omega)))).fr (fun _ _ => yup_nk (by decide)) (fun _ _ => yup_nk (by decide)), fun h1 => ?_⟩
                obtain ⟨g1, n1⟩ := hGq3978 (by omega)
                have g2 := g1.fr (m' := yup mq3978 (326 + ((mq3900 316 10) - 1).toNat) 5 (mq3978 316 16)) (c3 := (yup mq3978 (326 + ((mq3900 316 10) - 1).toNat) 5 (mq3978 316 16)) 316 12) (fun j ja jb q _ => yup_na (by omega)) (fun z za zb => yup_na (by omega)) (by omega)
                have n2 := n1.fr (m' := yup mq3978 (326 + ((mq3900 316 10) - 1).toNat) 5 (mq3978 316 16)) (c2 := (yup mq3978 (326 + ((mq3900 316 10) - 1).toNat) 5 (mq3978 316 16)) 316 16) (fun j ja jb q => yup_na (by omega)) (by omega)
                refine ⟨by omega, cast (by congr 1 <;> omega) g2, cast (by congr 1 <;> omega) n2, fun j hj => ((yup_na (by omega)).trans ((hFq3978 _ _ (wBo316_n326 (by omega))).trans ((hFq3964 _ _ wAt_n326).trans ((hFq3941 _ _ wPr316_5).trans ((hFq3927 _ _ wAt_n326).trans ((yup_nk (by decide)).trans ((yup_na (by omega)).trans ((hNq3900 j).trans (yup_na (by omega)))))))))), ?_⟩
                rw [show (m 316 10).toNat = ((mq3900 316 10) - 1).toNat by omega, yup_eq]; omega
      · exfalso; omega
