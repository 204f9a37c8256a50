/-! CONTRACTS: methods. Printed by wip/whole/gen90.py -/
theorem t8_go {L : Nat} {xs : Nat → Int32} {d nn : Nat} {m : yM} : YC (gZ L xs) (d + 6) 8 [.retAddr 21] m nn (qP m nn (fun r => -2147483648 ≤ r ∧ r < 2147483648)) := by
  intro h hL
  exact ⟨.inl (some (yI 239)), h, m, nn, ⟨rfl, 400, rfl⟩, hL, 239, rfl, by omega, rfl, rfl⟩
theorem t54k_256 {L : Nat} {xs : Nat → Int32} {d nn : Nat} {m : yM} {e : Int} (hT : Ty gT m) (he : 0 ≤ e ∧ e ≤ 320) (hE : m 5 e.toNat = 0) (ha : m 2 2 ≤ e) (hp : m 2 1 = 0) {k : Int} (hk : k = m 256 10 - 1) (hk0 : 0 ≤ k ∧ k ≤ 9) (hp3 : m (266 + k.toNat) 3 ≤ 1) (hr : m (266 + k.toNat) 2 + 2 + m (266 + k.toNat) 3 = m 256 15) : YC (gZ L xs) (d + 2) 54 [.ref 2] m nn (qI (fun r m' n' => n' = nn ∧ Ty gT m' ∧ Fr wPr256 m m' ∧ ((r = 0 ∨ r = 1) ∧ m' 2 2 ≤ e ∧ m' (266 + k.toNat) 2 = m (266 + k.toNat) 2 ∧ (r = 1 → m' (266 + k.toNat) 3 = m (266 + k.toNat) 3 + 1 ∧ m' 256 15 = m 256 15 + 1)) ∧ (MP 266 m → MP 266 m'))) := by
  subst hk
  exact t54_256 hT he hE ha hp (by omega) hp3 hr
set_option maxRecDepth 100000 in
theorem t55_256 {L : Nat} {xs : Nat → Int32} {d nn : Nat} {m : yM} {e : Int} (hT : Ty gT m) (he : 0 ≤ e ∧ e ≤ 320) (hE : m 5 e.toNat = 0) (ha : m 2 2 ≤ e) (hp : m 2 1 = 0) {k : Int} (hk : k = m 256 10 - 1) (hk0 : 0 ≤ k ∧ k ≤ 9) (hp3 : m (266 + k.toNat) 3 = 0) (hr : m (266 + k.toNat) 2 + 2 = m 256 15) : YC (gZ L xs) (d + 3) 55 [.ref 2] m nn (qI (fun r m' n' => n' = nn ∧ Ty gT m' ∧ Fr wPr256 m m' ∧ ((r = 0 ∨ r = 1) ∧ m' 2 2 ≤ e) ∧ (MP 266 m → MP 266 m'))) := by
  have tb2 := hT.atp 2 2 0 320 rfl
  refine YC.mkB [some (.ref 2)] kn55 rfl rfl ?_
  have hF : Fr wPr256 m m := Fr.rf
  refine y_aload 1 c55_0 rfl rfl rfl ?_
  have tb3675 := hT.atp 2 2 0 320 rfl
  refine y_callP 4 [.ref 2] [] c55_1 rfl rfl rfl rfl rfl (ycanO km38 ko2) (t38 hT he hE (by omega)) (fun r3676 hr3676 => ?_)
  refine y_iconst 6 c55_4 rfl ?_
  refine y_icmp 11 9 c55_6 rfl rfl (yc_ne (by omega) (by omega)) (fun hb3677 => ?_) (fun hb3677 => ?_)
  · refine y_aload 12 c55_11 rfl rfl rfl ?_
    have tb3679 := hT.atp 2 1 ((-1)) 1 rfl
    have tb3680 := hT.atp 256 10 0 10 rfl
    have tb3681 := hT.atp 256 15 0 48 rfl
    have tb3682 := hT.atp (266 + k.toNat) 2 0 46 (ft266_2 (by omega))
    have tb3683 := hT.atp (266 + k.toNat) 3 0 2 (ft266_3 (by omega))
    refine y_callIB 15 [.ref 2] [] c55_12 rfl rfl rfl rfl rfl (ycanO km54 ko2) (t54k_256 (k := k) hT he hE (by omega) (by omega) (by omega) (by omega) (by omega) (by omega)) (fun rq3678 mq3678 nq3678 hq3678 => ?_)
    obtain ⟨rfl, hTq3678, hFq3678, hq3678, hMq3678⟩ := hq3678
    have hF3684 := hF.tr hFq3678 (fun _ _ e => e)
    refine y_if 20 18 c55_15 rfl rfl (yz_ne (by omega)) (fun hb3685 => ?_) (fun hb3685 => ?_)
    · refine y_aload 21 c55_20 rfl rfl rfl ?_
      have tb3686 := hTq3678.atp 2 2 0 320 rfl
      refine y_callP 24 [.ref 2] [] c55_21 rfl rfl rfl rfl rfl (ycanO km38 ko2) (t38 hTq3678 he (by have e1 : mq3678 5 e.toNat = m 5 e.toNat := (hFq3678 5 e.toNat rfl); omega) (by omega)) (fun r3687 hr3687 => ?_)
      refine y_iconst 26 c55_24 rfl ?_
      refine y_icmp 31 29 c55_26 rfl rfl (yc_eq (by omega) (by omega)) (fun hb3688 => ?_) (fun hb3688 => ?_)
      · refine y_aload 32 c55_31 rfl rfl rfl ?_
        refine y_dup 33 c55_32 rfl rfl ?_
        refine y_getX 36 (mq3678 2 2) c55_33 rfl kf2_2 rfl ?_
        refine y_iconst 37 c55_36 rfl ?_
        refine y_iadd 38 c55_37 rfl ?_
        refine y_putI 41 c55_38 rfl kf2_2 (y_fit0 _) ?_
        have hT3689 := hTq3678.up 2 2 ((mq3678 2 2) + 1) 0 320 rfl (by omega)
        have hF3690 := hF3684.up 2 2 ((mq3678 2 2) + 1) rfl
        refine y_aload 42 c55_41 rfl rfl rfl ?_
        have es3692 : (yup mq3678 2 2 ((mq3678 2 2) + 1)) 2 2 = (mq3678 2 2) + 1 := rfl
        have es3693 : (yup mq3678 2 2 ((mq3678 2 2) + 1)) 2 1 = m 2 1 := ((yup_nk (by decide)).trans (hFq3678 2 1 rfl))
        have es3694 : (yup mq3678 2 2 ((mq3678 2 2) + 1)) 256 10 = m 256 10 := ((yup_na (by decide)).trans (hFq3678 256 10 rfl))
        have es3695 : (yup mq3678 2 2 ((mq3678 2 2) + 1)) 256 15 = mq3678 256 15 := rfl
        have tb3696 := hTq3678.atp 256 15 0 48 rfl
        have es3697 : (yup mq3678 2 2 ((mq3678 2 2) + 1)) (266 + k.toNat) 2 = mq3678 (266 + k.toNat) 2 := (yup_na (by omega))
        have tb3698 := hTq3678.atp (266 + k.toNat) 2 0 46 (ft266_2 (by omega))
        have es3699 : (yup mq3678 2 2 ((mq3678 2 2) + 1)) (266 + k.toNat) 3 = mq3678 (266 + k.toNat) 3 := (yup_na (by omega))
        have tb3700 := hTq3678.atp (266 + k.toNat) 3 0 2 (ft266_3 (by omega))
        refine y_callIB 45 [.ref 2] [] c55_42 rfl rfl rfl rfl rfl (ycanO km54 ko2) (t54k_256 (k := k) hT3689 he (by have e1 : (yup mq3678 2 2 ((mq3678 2 2) + 1)) 5 e.toNat = m 5 e.toNat := ((yup_na (by decide)).trans (hFq3678 5 e.toNat rfl)); omega) (by omega) (by omega) (by omega) (by omega) (by omega) (by omega)) (fun rq3691 mq3691 nq3691 hq3691 => ?_)
        obtain ⟨rfl, hTq3691, hFq3691, hq3691, hMq3691⟩ := hq3691
        have hF3701 := hF3690.tr hFq3691 (fun _ _ e => e)
        have tb3702 := hTq3691.atp 2 2 0 320 rfl
        exact y_retI c55_45 (y_fit1 (by omega)) ⟨rfl, hTq3691, hF3701, by omega, fun hM => hMq3691 ((hMq3678 (hM)).na (by decide))⟩
      · refine y_iconst 30 c55_29 rfl ?_
        exact y_retI c55_30 (y_fit1 (by omega)) ⟨rfl, hTq3678, hF3684, by omega, fun hM => hMq3678 (hM)⟩
    · refine y_iconst 19 c55_18 rfl ?_
      have tb3703 := hTq3678.atp 2 2 0 320 rfl
      exact y_retI c55_19 (y_fit1 (by omega)) ⟨rfl, hTq3678, hF3684, by omega, fun hM => hMq3678 (hM)⟩
  · refine y_iconst 10 c55_9 rfl ?_
    exact y_retI c55_10 (y_fit1 (by omega)) ⟨rfl, hT, hF, by omega, fun hM => hM⟩
def wMt0256 (a q : Nat) : Bool := (a == 2 && (q == 2 || q == 4)) || (a == 256 && (q == 10 || (decide (12 ≤ q) && decide (q ≤ 16)))) || a == 261 || a == 265 || decide (266 ≤ a ∧ a < 276)
def wMt256 (c a q : Nat) : Bool := ((a == 2 && (q == 2 || q == 4)) || (a == 256 && (q == 10 || (decide (12 ≤ q) && decide (q ≤ 16)))) || a == 261 || a == 265 || decide (266 ≤ a ∧ a < 276)) || decide (276 + c ≤ a ∧ a < 316)
theorem wMt256_lt {c a q : Nat} (h : a < 276) : wMt256 c a q = wMt0256 a q := by
  have e : decide (276 + c ≤ a ∧ a < 316) = false := by simp; omega
  simp only [wMt256, wMt0256, e, Bool.or_false]
theorem wMt256_m {c k q : Nat} (h : k < 10) : wMt256 c (266 + k) q = true := by
  simp [wMt256]
  omega
theorem wMt256_n {c j q : Nat} (h : j < c) : wMt256 c (276 + j) q = false := by
  cases e : wMt256 c (276 + j) q with
  | false => rfl
  | true => simp [wMt256] at e <;> omega
theorem wFa_wMt256 {c : Nat} : ∀ a q, wFa a q = true → wMt256 c a q = true := by
  intro a q h
  simp [wFa] at h
  simp [wMt256]
  omega
theorem wAt_wMt256 {c : Nat} : ∀ a q, wAt a q = true → wMt256 c a q = true := by
  intro a q h
  simp [wAt] at h
  simp [wMt256]
  omega
theorem wPr256_wMt256 {c : Nat} : ∀ a q, wPr256 a q = true → wMt256 c a q = true := by
  intro a q h
  simp [wPr256] at h
  simp [wMt256]
  omega
theorem wMe256_wMt256 {c : Nat} : ∀ a q, wMe256 a q = true → wMt256 c a q = true := by
  intro a q h
  simp [wMe256] at h
  simp [wMt256]
  omega
theorem wBo256_wMt256 {c : Nat} : ∀ a q, wBo256 c a q = true → wMt256 c a q = true := by
  intro a q h
  simp [wBo256] at h
  simp [wMt256]
  omega
theorem wPr256_n276 {j q : Nat} : wPr256 (276 + j) q = false := by
  cases h : wPr256 (276 + j) q with
  | false => rfl
  | true => simp [wPr256] at h <;> omega
theorem wMe256_n276 {j q : Nat} : wMe256 (276 + j) q = false := by
  cases h : wMe256 (276 + j) q with
  | false => rfl
  | true => simp [wMe256] at h <;> omega
theorem wBo256_n266 {c j q : Nat} (h : j < 10) : wBo256 c (266 + j) q = false := by
  cases h : wBo256 c (266 + j) q with
  | false => rfl
  | true => simp [wBo256] at h <;> omega
theorem wPr256_5 {j : Nat} : wPr256 (266 + j) 5 = false := by
  cases h : wPr256 (266 + j) 5 with
  | false => rfl
  | true => simp [wPr256] at h <;> omega
set_option maxRecDepth 100000 in
theorem t70_256 {L : Nat} {xs : Nat → Int32} {d nn : Nat} {m : yM} {e : Int} (hT : Ty gT m) (he : 0 ≤ e ∧ e ≤ 320) (hE : m 5 e.toNat = 0) (ha : m 2 2 ≤ e) (hp : m 2 1 = 0) (hc : 1 ≤ m 256 9) (hlt : m 2 2 < e) : YC (gZ L xs) (d + 13) 70 [.ref 2] m nn (qI (fun r m' n' => n' = nn ∧ Ty gT m' ∧ Fr (wMt256 (m 256 16).toNat) m m' ∧ ((r = 0 ∨ r = 1) ∧ m' 2 2 ≤ e ∧ m 256 16 ≤ m' 256 16 ∧ m 256 12 ≤ m' 256 12 ∧ m 256 13 ≤ m' 256 13 ∧ m 256 10 ≤ m' 256 10) ∧ (∀ z : Nat, (z : Int) < m 256 13 → m' 265 z = m 265 z) ∧ (MP 266 m → MP 266 m') ∧ (r = 1 → m' 256 10 = m 256 10 + 1 ∧ RG 276 265 m' (m 256 16) (m' 256 16) (m 256 12) (m' 256 12) (m 256 13) (m' 256 13) ∧ EN 276 m' (m 256 16) (m' 256 16) (m' 256 16) ∧ (∀ j : Nat, (j : Int) < m 256 10 → m' (266 + j) 5 = m (266 + j) 5) ∧ m' (266 + (m 256 10).toNat) 5 ≤ m' 256 16))) := by
  have tb2 := hT.atp 2 2 0 320 rfl
  have tb12 := hT.atp 256 12 0 12 rfl
  have tb13 := hT.atp 256 13 0 8 rfl
  have tb16 := hT.atp 256 16 0 40 rfl
  have tb10 := hT.atp 256 10 0 10 rfl
  refine YC.mkB [some (.ref 2), none, none] kn70 rfl rfl ?_
  have hF : Fr (wMt256 (m 256 16).toNat) m m := Fr.rf
  refine y_aload 1 c70_0 rfl rfl rfl ?_
  refine y_dup 2 c70_1 rfl rfl ?_
  refine y_getX 5 (m 2 2) c70_2 rfl kf2_2 rfl ?_
  have tb3704 := hT.atp 2 2 0 320 rfl
  refine y_iconst 6 c70_5 rfl ?_
  refine y_iadd 7 c70_6 rfl ?_
  refine y_putI 10 c70_7 rfl kf2_2 (y_fit0 _) ?_
  have hT3705 := hT.up 2 2 ((m 2 2) + 1) 0 320 rfl (by omega)
  have hF3706 := hF.up 2 2 ((m 2 2) + 1) rfl
  refine y_aload 11 c70_10 rfl rfl rfl ?_
  have es3707 : (yup m 2 2 ((m 2 2) + 1)) 2 2 = (m 2 2) + 1 := rfl
  refine y_callP 14 [.ref 2] [] c70_11 rfl rfl rfl rfl rfl (ycanO km38 ko2) (t38 hT3705 he (by have e1 : (yup m 2 2 ((m 2 2) + 1)) 5 e.toNat = m 5 e.toNat := (yup_na (by decide)); omega) (by omega)) (fun r3708 hr3708 => ?_)
  refine y_iconst 16 c70_14 rfl ?_
  refine y_icmp 33 19 c70_16 rfl rfl (yc_ne (by omega) (by omega)) (fun hb3709 => ?_) (fun hb3709 => ?_)
  · refine y_aload 34 c70_33 rfl rfl rfl ?_
    have es3711 : (yup m 2 2 ((m 2 2) + 1)) 2 2 = (m 2 2) + 1 := rfl
    refine y_callIB 37 [.ref 2] [] c70_34 rfl rfl rfl rfl rfl (ycanO km43 ko2) (t43 hT3705) (fun rq3710 mq3710 nq3710 hq3710 => ?_)
    obtain ⟨rfl, hTq3710, hFq3710, hq3710⟩ := hq3710
    have hF3712 := hF3706.tr hFq3710 wFa_wMt256
    have es3713 : mq3710 2 2 = (m 2 2) + 1 := ((hFq3710 2 2 rfl).trans (yup_eq _ _ _ _))
    have es3714 : mq3710 256 16 = m 256 16 := ((hFq3710 256 16 rfl).trans (yup_na (by decide)))
    have tb3715 := hT.atp 256 16 0 40 rfl
    have es3716 : mq3710 256 12 = m 256 12 := ((hFq3710 256 12 rfl).trans (yup_na (by decide)))
    have tb3717 := hT.atp 256 12 0 12 rfl
    have es3718 : mq3710 256 13 = m 256 13 := ((hFq3710 256 13 rfl).trans (yup_na (by decide)))
    have tb3719 := hT.atp 256 13 0 8 rfl
    have es3720 : mq3710 256 10 = m 256 10 := ((hFq3710 256 10 rfl).trans (yup_na (by decide)))
    have tb3721 := hT.atp 256 10 0 10 rfl
    refine y_retI c70_37 (y_fit1 (by omega)) ⟨rfl, hTq3710, hF3712, by omega, fun z hz => ((hFq3710 265 z rfl).trans (yup_na (by decide))), fun hM => ((hM).na (by decide)).fr (fun k hk => hFq3710 _ _ wFa_n266) (fun k hk => hFq3710 _ _ wFa_n266), fun h1 => ?_⟩
    omega
  · refine y_aload 20 c70_19 rfl rfl rfl ?_
    refine y_getS 23 (B := 256) c70_20 rfl kf2_1 (by rw [show (yup m 2 2 ((m 2 2) + 1)) 2 1 = 0 from by have e : (yup m 2 2 ((m 2 2) + 1)) 2 1 = m 2 1 := rfl; omega]; rfl) ?_
    refine y_aload 24 c70_23 rfl rfl rfl ?_
    refine y_callP 27 [.ref 2] [.ref 256] c70_24 rfl rfl rfl rfl rfl (ycanO km39 ko2) (t39 hT3705) (fun r3722 hr3722 => ?_)
    have es3724 : (yup m 2 2 ((m 2 2) + 1)) 256 9 = m 256 9 := rfl
    have tb3725 := hT.atp 256 9 0 6 rfl
    have es3726 : (yup m 2 2 ((m 2 2) + 1)) 256 10 = m 256 10 := rfl
    have tb3727 := hT.atp 256 10 0 10 rfl
    have es3728 : (yup m 2 2 ((m 2 2) + 1)) 256 15 = m 256 15 := rfl
    have tb3729 := hT.atp 256 15 0 48 rfl
    have e10 : (yup m 2 2 ((m 2 2) + 1)) 256 10 = m 256 10 := rfl
    refine y_callIB 30 [.ref 256, yI r3722] [] c70_27 rfl rfl rfl rfl rfl (ycanO km51 ko256) (t51_256 hT3705 (by omega) (by omega)) (fun rq3723 mq3723 nq3723 hq3723 => ?_)
    obtain ⟨rfl, hTq3723, hFq3723, hq3723⟩ := hq3723
    rw [e10] at hq3723
    rcases hq3723 with ⟨rfl, rfl⟩ | ⟨rfl, hq3723, h15, hr2, hr3, hMq3723, hNq3723⟩
    · refine y_if 38 33 c70_30 rfl rfl (yz_ne (by omega)) (fun hb3730 => ?_) (fun hb3730 => ?_)
      · exfalso; omega
      · refine y_aload 34 c70_33 rfl rfl rfl ?_
        have es3732 : (yup m 2 2 ((m 2 2) + 1)) 2 2 = (m 2 2) + 1 := rfl
        refine y_callIB 37 [.ref 2] [] c70_34 rfl rfl rfl rfl rfl (ycanO km43 ko2) (t43 hT3705) (fun rq3731 mq3731 nq3731 hq3731 => ?_)
        obtain ⟨rfl, hTq3731, hFq3731, hq3731⟩ := hq3731
        have hF3733 := hF3706.tr hFq3731 wFa_wMt256
        have es3734 : mq3731 2 2 = (m 2 2) + 1 := ((hFq3731 2 2 rfl).trans (yup_eq _ _ _ _))
        have es3735 : mq3731 256 16 = m 256 16 := ((hFq3731 256 16 rfl).trans (yup_na (by decide)))
        have tb3736 := hT.atp 256 16 0 40 rfl
        have es3737 : mq3731 256 12 = m 256 12 := ((hFq3731 256 12 rfl).trans (yup_na (by decide)))
        have tb3738 := hT.atp 256 12 0 12 rfl
        have es3739 : mq3731 256 13 = m 256 13 := ((hFq3731 256 13 rfl).trans (yup_na (by decide)))
        have tb3740 := hT.atp 256 13 0 8 rfl
        have es3741 : mq3731 256 10 = m 256 10 := ((hFq3731 256 10 rfl).trans (yup_na (by decide)))
        refine y_retI c70_37 (y_fit1 (by omega)) ⟨rfl, hTq3731, hF3733, by omega, fun z hz => ((hFq3731 265 z rfl).trans (yup_na (by decide))), fun hM => ((hM).na (by decide)).fr (fun k hk => hFq3731 _ _ wFa_n266) (fun k hk => hFq3731 _ _ wFa_n266), fun h1 => ?_⟩
        omega
    · have hF3742 := hF3706.tr hFq3723 wMe256_wMt256
      have hk1 : m 256 10 ≤ 9 := by have := hTq3723.atp 256 10 0 10 rfl; omega
      refine y_if 38 33 c70_30 rfl rfl (yz_ne (by omega)) (fun hb3743 => ?_) (fun hb3743 => ?_)
      · refine y_aload 39 c70_38 rfl rfl rfl ?_
        refine y_dup 40 c70_39 rfl rfl ?_
        refine y_getX 43 ((m 2 2) + 1) c70_40 rfl kf2_2 ((hFq3723 2 2 rfl).trans (yup_eq _ _ _ _)) ?_
        refine y_iconst 44 c70_43 rfl ?_
        refine y_iadd 45 c70_44 rfl ?_
        refine y_putI 48 c70_45 rfl kf2_2 (y_fit0 _) ?_
        have hT3744 := hTq3723.up 2 2 (((m 2 2) + 1) + 1) 0 320 rfl (by omega)
        have hF3745 := hF3742.up 2 2 (((m 2 2) + 1) + 1) rfl
        refine y_aload 49 c70_48 rfl rfl rfl ?_
        refine y_getS 52 (B := 256) c70_49 rfl kf2_1 (by rw [show (yup mq3723 2 2 (((m 2 2) + 1) + 1)) 2 1 = 0 from by have e : (yup mq3723 2 2 (((m 2 2) + 1) + 1)) 2 1 = m 2 1 := ((yup_nk (by decide)).trans ((hFq3723 2 1 rfl).trans (yup_nk (by decide)))); omega]; rfl) ?_
        refine y_getR 55 c70_52 rfl kf256_5 ?_
        refine y_aload 56 c70_55 rfl rfl rfl ?_
        refine y_getS 59 (B := 256) c70_56 rfl kf2_1 (by rw [show (yup mq3723 2 2 (((m 2 2) + 1) + 1)) 2 1 = 0 from by have e : (yup mq3723 2 2 (((m 2 2) + 1) + 1)) 2 1 = m 2 1 := ((yup_nk (by decide)).trans ((hFq3723 2 1 rfl).trans (yup_nk (by decide)))); omega]; rfl) ?_
        refine y_getX 62 (mq3723 256 10) c70_59 rfl kf256_10 rfl ?_
        have tb3746 := hTq3723.atp 256 10 0 10 rfl
        refine y_iconst 63 c70_62 rfl ?_
        refine y_isub 64 c70_63 rfl ?_
        refine y_aaload 65 c70_64 rfl kr262 (by omega) ?_
        refine y_astore 66 c70_65 rfl rfl rfl ?_
        refine y_aload 67 c70_66 rfl rfl rfl ?_
        refine y_aload 68 c70_67 rfl rfl rfl ?_
        refine y_getS 71 (B := 256) c70_68 rfl kf2_1 (by rw [show (yup mq3723 2 2 (((m 2 2) + 1) + 1)) 2 1 = 0 from by have e : (yup mq3723 2 2 (((m 2 2) + 1) + 1)) 2 1 = m 2 1 := ((yup_nk (by decide)).trans ((hFq3723 2 1 rfl).trans (yup_nk (by decide)))); omega]; rfl) ?_
        refine y_getX 74 (m 256 16) c70_71 rfl kf256_16 ((yup_na (by decide)).trans ((hFq3723 256 16 rfl).trans (yup_na (by decide)))) ?_
        have tb3747 := hT.atp 256 16 0 40 rfl
        refine y_putI 77 c70_74 rfl (ff266_4 (by omega)) (y_fit0 _) ?_
        have hT3748 := hT3744.up (266 + ((mq3723 256 10) - 1).toNat) 4 (m 256 16) 0 40 (ft266_4 (by omega)) (by omega)
        have hF3749 := hF3745.up (266 + ((mq3723 256 10) - 1).toNat) 4 (m 256 16) (wMt256_m (by omega))
        refine y_aload 78 c70_77 rfl rfl rfl ?_
        refine y_iconst 80 c70_78 rfl ?_
        have es3751 : (yup (yup mq3723 2 2 (((m 2 2) + 1) + 1)) (266 + ((mq3723 256 10) - 1).toNat) 4 (m 256 16)) 2 2 = ((m 2 2) + 1) + 1 := ((yup_na (by omega)).trans (yup_eq _ _ _ _))
        refine y_callIB 83 [.ref 2, yI 40] [] c70_80 rfl rfl rfl rfl rfl (ycanO km37 ko2) (t37 hT3748 he (by have e1 : (yup (yup mq3723 2 2 (((m 2 2) + 1) + 1)) (266 + ((mq3723 256 10) - 1).toNat) 4 (m 256 16)) 5 e.toNat = m 5 e.toNat := ((yup_na (by omega)).trans ((yup_na (by decide)).trans ((hFq3723 5 e.toNat rfl).trans (yup_na (by decide))))); omega) (by omega) (by omega)) (fun rq3750 mq3750 nq3750 hq3750 => ?_)
        obtain ⟨rfl, hTq3750, hFq3750, hq3750⟩ := hq3750
        have hF3752 := hF3749.tr hFq3750 wAt_wMt256
        refine y_if 114 86 c70_83 rfl rfl (yz_eq (by omega)) (fun hb3753 => ?_) (fun hb3753 => ?_)
        · refine y_iconst 115 c70_114 rfl ?_
          refine y_istore 116 c70_115 rfl rfl ?_
          refine y_aload 117 c70_116 rfl rfl rfl ?_
          refine y_aload 118 c70_117 rfl rfl rfl ?_
          refine y_getS 121 (B := 256) c70_118 rfl kf2_1 (by rw [show mq3750 2 1 = 0 from by have e : mq3750 2 1 = m 2 1 := ((hFq3750 2 1 rfl).trans ((yup_na (by omega)).trans ((yup_nk (by decide)).trans ((hFq3723 2 1 rfl).trans (yup_nk (by decide)))))); omega]; rfl) ?_
          refine y_getX 124 (m 256 16) c70_121 rfl kf256_16 ((hFq3750 256 16 rfl).trans ((yup_na (by omega)).trans ((yup_na (by decide)).trans ((hFq3723 256 16 rfl).trans (yup_na (by decide)))))) ?_
          refine y_putI 127 c70_124 rfl (ff266_5 (by omega)) (y_fit0 _) ?_
          have hT3754 := hTq3750.up (266 + ((mq3723 256 10) - 1).toNat) 5 (m 256 16) 0 40 (ft266_5 (by omega)) (by omega)
          have hF3755 := hF3752.up (266 + ((mq3723 256 10) - 1).toNat) 5 (m 256 16) (wMt256_m (by omega))
          refine y_iload 128 c70_127 rfl rfl ?_
          have es3756 : (yup mq3750 (266 + ((mq3723 256 10) - 1).toNat) 5 (m 256 16)) 2 2 = mq3750 2 2 := (yup_na (by omega))
          have tb3757 := hTq3750.atp 2 2 0 320 rfl
          have es3758 : (yup mq3750 (266 + ((mq3723 256 10) - 1).toNat) 5 (m 256 16)) 256 16 = m 256 16 := ((yup_na (by omega)).trans ((hFq3750 256 16 rfl).trans ((yup_na (by omega)).trans ((yup_na (by decide)).trans ((hFq3723 256 16 rfl).trans (yup_na (by decide)))))))
          have es3759 : (yup mq3750 (266 + ((mq3723 256 10) - 1).toNat) 5 (m 256 16)) 256 12 = m 256 12 := ((yup_na (by omega)).trans ((hFq3750 256 12 rfl).trans ((yup_na (by omega)).trans ((yup_na (by decide)).trans ((hFq3723 256 12 rfl).trans (yup_na (by decide)))))))
          have tb3760 := hT.atp 256 12 0 12 rfl
          have es3761 : (yup mq3750 (266 + ((mq3723 256 10) - 1).toNat) 5 (m 256 16)) 256 13 = m 256 13 := ((yup_na (by omega)).trans ((hFq3750 256 13 rfl).trans ((yup_na (by omega)).trans ((yup_na (by decide)).trans ((hFq3723 256 13 rfl).trans (yup_na (by decide)))))))
          have tb3762 := hT.atp 256 13 0 8 rfl
          have es3763 : (yup mq3750 (266 + ((mq3723 256 10) - 1).toNat) 5 (m 256 16)) 256 10 = mq3723 256 10 := ((yup_na (by omega)).trans ((hFq3750 256 10 rfl).trans ((yup_na (by omega)).trans (yup_na (by decide)))))
          refine y_retI c70_128 (y_fit1 (by omega)) ⟨rfl, hT3754, hF3755, by omega, fun z hz => ((yup_na (by omega)).trans ((hFq3750 265 z rfl).trans ((yup_na (by omega)).trans ((yup_na (by decide)).trans ((hFq3723 265 z rfl).trans (yup_na (by decide))))))), fun hM => ((((hMq3723 ((hM).na (by decide))).na (by decide)).fr (fun _ _ => yup_nk (by decide)) (fun _ _ => yup_nk (by decide))).fr (fun k hk => hFq3750 _ _ wAt_n266) (fun k hk => hFq3750 _ _ wAt_n266)).fr (fun _ _ => yup_nk (by decide)) (fun _ _ => yup_nk (by decide)), fun h1 => ?_⟩
          omega
        · refine y_aload 87 c70_86 rfl rfl rfl ?_
          have tb3765 := hTq3750.atp 2 2 0 320 rfl
          have es3766 : mq3750 2 1 = m 2 1 := ((hFq3750 2 1 rfl).trans ((yup_na (by omega)).trans ((yup_nk (by decide)).trans ((hFq3723 2 1 rfl).trans (yup_nk (by decide))))))
          have tb3767 := hT.atp 2 1 ((-1)) 1 rfl
          have es3768 : mq3750 256 10 = mq3723 256 10 := ((hFq3750 256 10 rfl).trans ((yup_na (by omega)).trans (yup_na (by decide))))
          have es3769 : mq3750 256 15 = mq3723 256 15 := ((hFq3750 256 15 rfl).trans ((yup_na (by omega)).trans (yup_na (by decide))))
          have tb3770 := hTq3723.atp 256 15 0 48 rfl
          refine y_callIB 90 [.ref 2] [] c70_87 rfl rfl rfl rfl rfl (ycanO km55 ko2) (t55_256 (k := m 256 10) hTq3750 he (by have e1 : mq3750 5 e.toNat = m 5 e.toNat := ((hFq3750 5 e.toNat rfl).trans ((yup_na (by omega)).trans ((yup_na (by decide)).trans ((hFq3723 5 e.toNat rfl).trans (yup_na (by decide)))))); omega) (by omega) (by omega) (by omega) (by omega) (by omega) (by omega)) (fun rq3764 mq3764 nq3764 hq3764 => ?_)
          obtain ⟨rfl, hTq3764, hFq3764, hq3764, hMq3764⟩ := hq3764
          have hF3771 := hF3752.tr hFq3764 wPr256_wMt256
          refine y_if 114 93 c70_90 rfl rfl (yz_eq (by omega)) (fun hb3772 => ?_) (fun hb3772 => ?_)
          · refine y_iconst 115 c70_114 rfl ?_
            refine y_istore 116 c70_115 rfl rfl ?_
            refine y_aload 117 c70_116 rfl rfl rfl ?_
            refine y_aload 118 c70_117 rfl rfl rfl ?_
            refine y_getS 121 (B := 256) c70_118 rfl kf2_1 (by rw [show mq3764 2 1 = 0 from by have e : mq3764 2 1 = m 2 1 := ((hFq3764 2 1 rfl).trans ((hFq3750 2 1 rfl).trans ((yup_na (by omega)).trans ((yup_nk (by decide)).trans ((hFq3723 2 1 rfl).trans (yup_nk (by decide))))))); omega]; rfl) ?_
            refine y_getX 124 (m 256 16) c70_121 rfl kf256_16 ((hFq3764 256 16 rfl).trans ((hFq3750 256 16 rfl).trans ((yup_na (by omega)).trans ((yup_na (by decide)).trans ((hFq3723 256 16 rfl).trans (yup_na (by decide))))))) ?_
            refine y_putI 127 c70_124 rfl (ff266_5 (by omega)) (y_fit0 _) ?_
            have hT3773 := hTq3764.up (266 + ((mq3723 256 10) - 1).toNat) 5 (m 256 16) 0 40 (ft266_5 (by omega)) (by omega)
            have hF3774 := hF3771.up (266 + ((mq3723 256 10) - 1).toNat) 5 (m 256 16) (wMt256_m (by omega))
            refine y_iload 128 c70_127 rfl rfl ?_
            have es3775 : (yup mq3764 (266 + ((mq3723 256 10) - 1).toNat) 5 (m 256 16)) 2 2 = mq3764 2 2 := (yup_na (by omega))
            have tb3776 := hTq3764.atp 2 2 0 320 rfl
            have es3777 : (yup mq3764 (266 + ((mq3723 256 10) - 1).toNat) 5 (m 256 16)) 256 16 = m 256 16 := ((yup_na (by omega)).trans ((hFq3764 256 16 rfl).trans ((hFq3750 256 16 rfl).trans ((yup_na (by omega)).trans ((yup_na (by decide)).trans ((hFq3723 256 16 rfl).trans (yup_na (by decide))))))))
            have es3778 : (yup mq3764 (266 + ((mq3723 256 10) - 1).toNat) 5 (m 256 16)) 256 12 = m 256 12 := ((yup_na (by omega)).trans ((hFq3764 256 12 rfl).trans ((hFq3750 256 12 rfl).trans ((yup_na (by omega)).trans ((yup_na (by decide)).trans ((hFq3723 256 12 rfl).trans (yup_na (by decide))))))))
            have tb3779 := hT.atp 256 12 0 12 rfl
            have es3780 : (yup mq3764 (266 + ((mq3723 256 10) - 1).toNat) 5 (m 256 16)) 256 13 = m 256 13 := ((yup_na (by omega)).trans ((hFq3764 256 13 rfl).trans ((hFq3750 256 13 rfl).trans ((yup_na (by omega)).trans ((yup_na (by decide)).trans ((hFq3723 256 13 rfl).trans (yup_na (by decide))))))))
            have tb3781 := hT.atp 256 13 0 8 rfl
            have es3782 : (yup mq3764 (266 + ((mq3723 256 10) - 1).toNat) 5 (m 256 16)) 256 10 = mq3723 256 10 := ((yup_na (by omega)).trans ((hFq3764 256 10 rfl).trans ((hFq3750 256 10 rfl).trans ((yup_na (by omega)).trans (yup_na (by decide))))))
            refine y_retI c70_128 (y_fit1 (by omega)) ⟨rfl, hT3773, hF3774, by omega, fun z hz => ((yup_na (by omega)).trans ((hFq3764 265 z rfl).trans ((hFq3750 265 z rfl).trans ((yup_na (by omega)).trans ((yup_na (by decide)).trans ((hFq3723 265 z rfl).trans (yup_na (by decide)))))))), fun hM => (hMq3764 ((((hMq3723 ((hM).na (by decide))).na (by decide)).fr (fun _ _ => yup_nk (by decide)) (fun _ _ => yup_nk (by decide))).fr (fun k hk => hFq3750 _ _ wAt_n266) (fun k hk => hFq3750 _ _ wAt_n266))).fr (fun _ _ => yup_nk (by decide)) (fun _ _ => yup_nk (by decide)), fun h1 => ?_⟩
            omega
          · refine y_aload 94 c70_93 rfl rfl rfl ?_
            refine y_iconst 96 c70_94 rfl ?_
            have tb3784 := hTq3764.atp 2 2 0 320 rfl
            refine y_callIB 99 [.ref 2, yI 41] [] c70_96 rfl rfl rfl rfl rfl (ycanO km37 ko2) (t37 hTq3764 he (by have e1 : mq3764 5 e.toNat = m 5 e.toNat := ((hFq3764 5 e.toNat rfl).trans ((hFq3750 5 e.toNat rfl).trans ((yup_na (by omega)).trans ((yup_na (by decide)).trans ((hFq3723 5 e.toNat rfl).trans (yup_na (by decide))))))); omega) (by omega) (by omega)) (fun rq3783 mq3783 nq3783 hq3783 => ?_)
            obtain ⟨rfl, hTq3783, hFq3783, hq3783⟩ := hq3783
            have hF3785 := hF3771.tr hFq3783 wAt_wMt256
            refine y_if 114 102 c70_99 rfl rfl (yz_eq (by omega)) (fun hb3786 => ?_) (fun hb3786 => ?_)
            · refine y_iconst 115 c70_114 rfl ?_
              refine y_istore 116 c70_115 rfl rfl ?_
              refine y_aload 117 c70_116 rfl rfl rfl ?_
              refine y_aload 118 c70_117 rfl rfl rfl ?_
              refine y_getS 121 (B := 256) c70_118 rfl kf2_1 (by rw [show mq3783 2 1 = 0 from by have e : mq3783 2 1 = m 2 1 := ((hFq3783 2 1 rfl).trans ((hFq3764 2 1 rfl).trans ((hFq3750 2 1 rfl).trans ((yup_na (by omega)).trans ((yup_nk (by decide)).trans ((hFq3723 2 1 rfl).trans (yup_nk (by decide)))))))); omega]; rfl) ?_
              refine y_getX 124 (m 256 16) c70_121 rfl kf256_16 ((hFq3783 256 16 rfl).trans ((hFq3764 256 16 rfl).trans ((hFq3750 256 16 rfl).trans ((yup_na (by omega)).trans ((yup_na (by decide)).trans ((hFq3723 256 16 rfl).trans (yup_na (by decide)))))))) ?_
              refine y_putI 127 c70_124 rfl (ff266_5 (by omega)) (y_fit0 _) ?_
              have hT3787 := hTq3783.up (266 + ((mq3723 256 10) - 1).toNat) 5 (m 256 16) 0 40 (ft266_5 (by omega)) (by omega)
              have hF3788 := hF3785.up (266 + ((mq3723 256 10) - 1).toNat) 5 (m 256 16) (wMt256_m (by omega))
              refine y_iload 128 c70_127 rfl rfl ?_
              have es3789 : (yup mq3783 (266 + ((mq3723 256 10) - 1).toNat) 5 (m 256 16)) 2 2 = mq3783 2 2 := (yup_na (by omega))
              have tb3790 := hTq3783.atp 2 2 0 320 rfl
              have es3791 : (yup mq3783 (266 + ((mq3723 256 10) - 1).toNat) 5 (m 256 16)) 256 16 = m 256 16 := ((yup_na (by omega)).trans ((hFq3783 256 16 rfl).trans ((hFq3764 256 16 rfl).trans ((hFq3750 256 16 rfl).trans ((yup_na (by omega)).trans ((yup_na (by decide)).trans ((hFq3723 256 16 rfl).trans (yup_na (by decide)))))))))
              have es3792 : (yup mq3783 (266 + ((mq3723 256 10) - 1).toNat) 5 (m 256 16)) 256 12 = m 256 12 := ((yup_na (by omega)).trans ((hFq3783 256 12 rfl).trans ((hFq3764 256 12 rfl).trans ((hFq3750 256 12 rfl).trans ((yup_na (by omega)).trans ((yup_na (by decide)).trans ((hFq3723 256 12 rfl).trans (yup_na (by decide)))))))))
              have tb3793 := hT.atp 256 12 0 12 rfl
              have es3794 : (yup mq3783 (266 + ((mq3723 256 10) - 1).toNat) 5 (m 256 16)) 256 13 = m 256 13 := ((yup_na (by omega)).trans ((hFq3783 256 13 rfl).trans ((hFq3764 256 13 rfl).trans ((hFq3750 256 13 rfl).trans ((yup_na (by omega)).trans ((yup_na (by decide)).trans ((hFq3723 256 13 rfl).trans (yup_na (by decide)))))))))
              have tb3795 := hT.atp 256 13 0 8 rfl
              have es3796 : (yup mq3783 (266 + ((mq3723 256 10) - 1).toNat) 5 (m 256 16)) 256 10 = mq3723 256 10 := ((yup_na (by omega)).trans ((hFq3783 256 10 rfl).trans ((hFq3764 256 10 rfl).trans ((hFq3750 256 10 rfl).trans ((yup_na (by omega)).trans (yup_na (by decide)))))))
              refine y_retI c70_128 (y_fit1 (by omega)) ⟨rfl, hT3787, hF3788, by omega, fun z hz => ((yup_na (by omega)).trans ((hFq3783 265 z rfl).trans ((hFq3764 265 z rfl).trans ((hFq3750 265 z rfl).trans ((yup_na (by omega)).trans ((yup_na (by decide)).trans ((hFq3723 265 z rfl).trans (yup_na (by decide))))))))), fun hM => ((hMq3764 ((((hMq3723 ((hM).na (by decide))).na (by decide)).fr (fun _ _ => yup_nk (by decide)) (fun _ _ => yup_nk (by decide))).fr (fun k hk => hFq3750 _ _ wAt_n266) (fun k hk => hFq3750 _ _ wAt_n266))).fr (fun k hk => hFq3783 _ _ wAt_n266) (fun k hk => hFq3783 _ _ wAt_n266)).fr (fun _ _ => yup_nk (by decide)) (fun _ _ => yup_nk (by decide)), fun h1 => ?_⟩
              omega
            · refine y_aload 103 c70_102 rfl rfl rfl ?_
              refine y_iconst 104 c70_103 rfl ?_
              have tb3798 := hTq3783.atp 2 2 0 320 rfl
              have es3799 : mq3783 2 1 = m 2 1 := ((hFq3783 2 1 rfl).trans ((hFq3764 2 1 rfl).trans ((hFq3750 2 1 rfl).trans ((yup_na (by omega)).trans ((yup_nk (by decide)).trans ((hFq3723 2 1 rfl).trans (yup_nk (by decide))))))))
              have es3800 : mq3783 256 10 = mq3723 256 10 := ((hFq3783 256 10 rfl).trans ((hFq3764 256 10 rfl).trans ((hFq3750 256 10 rfl).trans ((yup_na (by omega)).trans (yup_na (by decide))))))
              have es3801 : mq3783 256 12 = m 256 12 := ((hFq3783 256 12 rfl).trans ((hFq3764 256 12 rfl).trans ((hFq3750 256 12 rfl).trans ((yup_na (by omega)).trans ((yup_na (by decide)).trans ((hFq3723 256 12 rfl).trans (yup_na (by decide))))))))
              have tb3802 := hT.atp 256 12 0 12 rfl
              have es3803 : mq3783 256 13 = m 256 13 := ((hFq3783 256 13 rfl).trans ((hFq3764 256 13 rfl).trans ((hFq3750 256 13 rfl).trans ((yup_na (by omega)).trans ((yup_na (by decide)).trans ((hFq3723 256 13 rfl).trans (yup_na (by decide))))))))
              have tb3804 := hT.atp 256 13 0 8 rfl
              have es3805 : mq3783 256 16 = m 256 16 := ((hFq3783 256 16 rfl).trans ((hFq3764 256 16 rfl).trans ((hFq3750 256 16 rfl).trans ((yup_na (by omega)).trans ((yup_na (by decide)).trans ((hFq3723 256 16 rfl).trans (yup_na (by decide))))))))
              refine y_callIB 107 [.ref 2, yI 0] [] c70_104 rfl rfl rfl rfl rfl (ycanO km69 ko2) (t69_256 hTq3783 he (by have e1 : mq3783 5 e.toNat = m 5 e.toNat := ((hFq3783 5 e.toNat rfl).trans ((hFq3764 5 e.toNat rfl).trans ((hFq3750 5 e.toNat rfl).trans ((yup_na (by omega)).trans ((yup_na (by decide)).trans ((hFq3723 5 e.toNat rfl).trans (yup_na (by decide)))))))); omega) (by omega) (by omega) (by omega)) (fun rq3797 mq3797 nq3797 hq3797 => ?_)
              obtain ⟨rfl, hTq3797, hFq3797, hq3797, hZq3797, hGq3797⟩ := hq3797
              have es16q3797 : mq3783 256 16 = m 256 16 := ((hFq3783 256 16 rfl).trans ((hFq3764 256 16 rfl).trans ((hFq3750 256 16 rfl).trans ((yup_na (by omega)).trans ((yup_na (by decide)).trans ((hFq3723 256 16 rfl).trans (yup_na (by decide))))))))
              have hF3806 := hF3785.tr hFq3797 (by rw [es16q3797]; exact wBo256_wMt256)
              refine y_if 114 110 c70_107 rfl rfl (yz_eq (by omega)) (fun hb3807 => ?_) (fun hb3807 => ?_)
              · refine y_iconst 115 c70_114 rfl ?_
                refine y_istore 116 c70_115 rfl rfl ?_
                refine y_aload 117 c70_116 rfl rfl rfl ?_
                refine y_aload 118 c70_117 rfl rfl rfl ?_
                refine y_getS 121 (B := 256) c70_118 rfl kf2_1 (by rw [show mq3797 2 1 = 0 from by have e : mq3797 2 1 = m 2 1 := ((hFq3797 2 1 ((wBo256_lt (by decide)).trans rfl)).trans ((hFq3783 2 1 rfl).trans ((hFq3764 2 1 rfl).trans ((hFq3750 2 1 rfl).trans ((yup_na (by omega)).trans ((yup_nk (by decide)).trans ((hFq3723 2 1 rfl).trans (yup_nk (by decide))))))))); omega]; rfl) ?_
                refine y_getX 124 (mq3797 256 16) c70_121 rfl kf256_16 rfl ?_
                have tb3808 := hTq3797.atp 256 16 0 40 rfl
                refine y_putI 127 c70_124 rfl (ff266_5 (by omega)) (y_fit0 _) ?_
                have hT3809 := hTq3797.up (266 + ((mq3723 256 10) - 1).toNat) 5 (mq3797 256 16) 0 40 (ft266_5 (by omega)) (by omega)
                have hF3810 := hF3806.up (266 + ((mq3723 256 10) - 1).toNat) 5 (mq3797 256 16) (wMt256_m (by omega))
                refine y_iload 128 c70_127 rfl rfl ?_
                have es3811 : (yup mq3797 (266 + ((mq3723 256 10) - 1).toNat) 5 (mq3797 256 16)) 2 2 = mq3797 2 2 := (yup_na (by omega))
                have tb3812 := hTq3797.atp 2 2 0 320 rfl
                have es3813 : (yup mq3797 (266 + ((mq3723 256 10) - 1).toNat) 5 (mq3797 256 16)) 256 16 = mq3797 256 16 := (yup_na (by omega))
                have es3814 : (yup mq3797 (266 + ((mq3723 256 10) - 1).toNat) 5 (mq3797 256 16)) 256 12 = mq3797 256 12 := (yup_na (by omega))
                have tb3815 := hTq3797.atp 256 12 0 12 rfl
                have es3816 : (yup mq3797 (266 + ((mq3723 256 10) - 1).toNat) 5 (mq3797 256 16)) 256 13 = mq3797 256 13 := (yup_na (by omega))
                have tb3817 := hTq3797.atp 256 13 0 8 rfl
                have es3818 : (yup mq3797 (266 + ((mq3723 256 10) - 1).toNat) 5 (mq3797 256 16)) 256 10 = mq3723 256 10 := ((yup_na (by omega)).trans ((hFq3797 256 10 ((wBo256_lt (by decide)).trans rfl)).trans ((hFq3783 256 10 rfl).trans ((hFq3764 256 10 rfl).trans ((hFq3750 256 10 rfl).trans ((yup_na (by omega)).trans (yup_na (by decide))))))))
                refine y_retI c70_128 (y_fit1 (by omega)) ⟨rfl, hT3809, hF3810, by omega, fun z hz => ((yup_na (by omega)).trans ((hZq3797 z (by omega)).trans ((hFq3783 265 z rfl).trans ((hFq3764 265 z rfl).trans ((hFq3750 265 z rfl).trans ((yup_na (by omega)).trans ((yup_na (by decide)).trans ((hFq3723 265 z rfl).trans (yup_na (by decide)))))))))), fun hM => (((hMq3764 ((((hMq3723 ((hM).na (by decide))).na (by decide)).fr (fun _ _ => yup_nk (by decide)) (fun _ _ => yup_nk (by decide))).fr (fun k hk => hFq3750 _ _ wAt_n266) (fun k hk => hFq3750 _ _ wAt_n266))).fr (fun k hk => hFq3783 _ _ wAt_n266) (fun k hk => hFq3783 _ _ wAt_n266)).fr (fun k hk => hFq3797 _ _ (wBo256_n266 (by omega))) (fun k hk => hFq3797 _ _ (wBo256_n266 (by omega)))).fr (fun _ _ => yup_nk (by decide)) (fun _ _ => yup_nk (by decide)), fun h1 => ?_⟩
                omega
              · refine y_iconst 111 c70_110 rfl ?_
                refine y_goto 115 c70_111 rfl ?_
                refine y_istore 116 c70_115 rfl rfl ?_
                refine y_aload 117 c70_116 rfl rfl rfl ?_
                refine y_aload 118 c70_117 rfl rfl rfl ?_
                refine y_getS 121 (B := 256) c70_118 rfl kf2_1 (by rw [show mq3797 2 1 = 0 from by have e : mq3797 2 1 = m 2 1 := ((hFq3797 2 1 ((wBo256_lt (by decide)).trans rfl)).trans ((hFq3783 2 1 rfl).trans ((hFq3764 2 1 rfl).trans ((hFq3750 2 1 rfl).trans ((yup_na (by omega)).trans ((yup_nk (by decide)).trans ((hFq3723 2 1 rfl).trans (yup_nk (by decide))))))))); omega]; rfl) ?_
                refine y_getX 124 (mq3797 256 16) c70_121 rfl kf256_16 rfl ?_
                have tb3819 := hTq3797.atp 256 16 0 40 rfl
                refine y_putI 127 c70_124 rfl (ff266_5 (by omega)) (y_fit0 _) ?_
                have hT3820 := hTq3797.up (266 + ((mq3723 256 10) - 1).toNat) 5 (mq3797 256 16) 0 40 (ft266_5 (by omega)) (by omega)
                have hF3821 := hF3806.up (266 + ((mq3723 256 10) - 1).toNat) 5 (mq3797 256 16) (wMt256_m (by omega))
                refine y_iload 128 c70_127 rfl rfl ?_
                have es3822 : (yup mq3797 (266 + ((mq3723 256 10) - 1).toNat) 5 (mq3797 256 16)) 2 2 = mq3797 2 2 := (yup_na (by omega))
                have tb3823 := hTq3797.atp 2 2 0 320 rfl
                have es3824 : (yup mq3797 (266 + ((mq3723 256 10) - 1).toNat) 5 (mq3797 256 16)) 256 16 = mq3797 256 16 := (yup_na (by omega))
                have es3825 : (yup mq3797 (266 + ((mq3723 256 10) - 1).toNat) 5 (mq3797 256 16)) 256 12 = mq3797 256 12 := (yup_na (by omega))
                have tb3826 := hTq3797.atp 256 12 0 12 rfl
                have es3827 : (yup mq3797 (266 + ((mq3723 256 10) - 1).toNat) 5 (mq3797 256 16)) 256 13 = mq3797 256 13 := (yup_na (by omega))
                have tb3828 := hTq3797.atp 256 13 0 8 rfl
                have es3829 : (yup mq3797 (266 + ((mq3723 256 10) - 1).toNat) 5 (mq3797 256 16)) 256 10 = mq3723 256 10 := ((yup_na (by omega)).trans ((hFq3797 256 10 ((wBo256_lt (by decide)).trans rfl)).trans ((hFq3783 256 10 rfl).trans ((hFq3764 256 10 rfl).trans ((hFq3750 256 10 rfl).trans ((yup_na (by omega)).trans (yup_na (by decide))))))))
                refine y_retI c70_128 (y_fit1 (by omega)) ⟨rfl, hT3820, hF3821, by omega, fun z hz => ((yup_na (by omega)).trans ((hZq3797 z (by omega)).trans ((hFq3783 265 z rfl).trans ((hFq3764 265 z rfl).trans ((hFq3750 265 z rfl).trans ((yup_na (by omega)).trans ((yup_na (by decide)).trans ((hFq3723 265 z rfl).trans (yup_na (by decide)))))))))), fun hM => (((hMq3764 ((((hMq3723 ((hM).na (by decide))).na (by decide)).fr (fun _ _ => yup_nk (by decide)) (fun _ _ => yup_nk (by decide))).fr (fun k hk => hFq3750 _ _ wAt_n266) (fun k hk => hFq3750 _ _ wAt_n266))).fr (fun k hk => hFq3783 _ _ wAt_n266) (fun k hk => hFq3783 _ _ wAt_n266)).fr (fun k hk => hFq3797 _ _ (wBo256_n266 (by omega))) (fun k hk => hFq3797 _ _ (wBo256_n266 (by omega)))).fr (fun _ _ => yup_nk (by decide)) (fun _ _ => yup_nk (by decide)), fun h1 => ?_⟩
                obtain ⟨g1, n1⟩ := hGq3797 (by omega)
                have g2 := g1.fr (m' := yup mq3797 (266 + ((mq3723 256 10) - 1).toNat) 5 (mq3797 256 16)) (c3 := (yup mq3797 (266 + ((mq3723 256 10) - 1).toNat) 5 (mq3797 256 16)) 256 12) (fun j ja jb q _ => yup_na (by omega)) (fun z za zb => yup_na (by omega)) (by omega)
                have n2 := n1.fr (m' := yup mq3797 (266 + ((mq3723 256 10) - 1).toNat) 5 (mq3797 256 16)) (c2 := (yup mq3797 (266 + ((mq3723 256 10) - 1).toNat) 5 (mq3797 256 16)) 256 16) (fun j ja jb q => yup_na (by omega)) (by omega)
                refine ⟨by omega, cast (by congr 1 <;> omega) g2, cast (by congr 1 <;> omega) n2, fun j hj => ((yup_na (by omega)).trans ((hFq3797 _ _ (wBo256_n266 (by omega))).trans ((hFq3783 _ _ wAt_n266).trans ((hFq3764 _ _ wPr256_5).trans ((hFq3750 _ _ wAt_n266).trans ((yup_nk (by decide)).trans ((yup_na (by omega)).trans ((hNq3723 j).trans (yup_na (by omega)))))))))), ?_⟩
                rw [yup_eq]; omega
      · exfalso; omega
