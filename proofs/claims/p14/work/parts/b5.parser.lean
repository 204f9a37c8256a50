/-! CONTRACTS: printed by wip/whole/gen80.py and on -/
theorem wFa_n266 {j q : Nat} : wFa (266 + j) q = false := by
  cases h : wFa (266 + j) q with
  | false => rfl
  | true => simp [wFa] at h <;> omega
theorem wAt_n266 {j q : Nat} : wAt (266 + j) q = false := by
  cases h : wAt (266 + j) q with
  | false => rfl
  | true => simp [wAt] at h <;> omega
theorem wVr256_n266 {j q : Nat} : wVr256 (266 + j) q = false := by
  cases h : wVr256 (266 + j) q with
  | false => rfl
  | true => simp [wVr256] at h <;> omega
theorem wVa256_n266 {j q : Nat} : wVa256 (266 + j) q = false := by
  cases h : wVa256 (266 + j) q with
  | false => rfl
  | true => simp [wVa256] at h <;> omega
theorem wFa_n276 {j q : Nat} : wFa (276 + j) q = false := by
  cases h : wFa (276 + j) q with
  | false => rfl
  | true => simp [wFa] at h <;> omega
theorem wAt_n276 {j q : Nat} : wAt (276 + j) q = false := by
  cases h : wAt (276 + j) q with
  | false => rfl
  | true => simp [wAt] at h <;> omega
theorem wVr256_n276 {j q : Nat} : wVr256 (276 + j) q = false := by
  cases h : wVr256 (276 + j) q with
  | false => rfl
  | true => simp [wVr256] at h <;> omega
theorem wVa256_n276 {j q : Nat} : wVa256 (276 + j) q = false := by
  cases h : wVa256 (276 + j) q with
  | false => rfl
  | true => simp [wVa256] at h <;> omega
theorem wFa_n326 {j q : Nat} : wFa (326 + j) q = false := by
  cases h : wFa (326 + j) q with
  | false => rfl
  | true => simp [wFa] at h <;> omega
theorem wAt_n326 {j q : Nat} : wAt (326 + j) q = false := by
  cases h : wAt (326 + j) q with
  | false => rfl
  | true => simp [wAt] at h <;> omega
theorem wVr316_n326 {j q : Nat} : wVr316 (326 + j) q = false := by
  cases h : wVr316 (326 + j) q with
  | false => rfl
  | true => simp [wVr316] at h <;> omega
theorem wVa316_n326 {j q : Nat} : wVa316 (326 + j) q = false := by
  cases h : wVa316 (326 + j) q with
  | false => rfl
  | true => simp [wVa316] at h <;> omega
theorem wFa_n336 {j q : Nat} : wFa (336 + j) q = false := by
  cases h : wFa (336 + j) q with
  | false => rfl
  | true => simp [wFa] at h <;> omega
theorem wAt_n336 {j q : Nat} : wAt (336 + j) q = false := by
  cases h : wAt (336 + j) q with
  | false => rfl
  | true => simp [wAt] at h <;> omega
theorem wVr316_n336 {j q : Nat} : wVr316 (336 + j) q = false := by
  cases h : wVr316 (336 + j) q with
  | false => rfl
  | true => simp [wVr316] at h <;> omega
theorem wVa316_n336 {j q : Nat} : wVa316 (336 + j) q = false := by
  cases h : wVa316 (336 + j) q with
  | false => rfl
  | true => simp [wVa316] at h <;> omega
def wSv0256 (a q : Nat) : Bool := (a == 2 && (q == 2 || q == 4)) || (a == 256 && q == 15) || a == 261
def wSv256 (k a q : Nat) : Bool := ((a == 2 && (q == 2 || q == 4)) || (a == 256 && q == 15) || a == 261) || a == 276 + k
theorem wSv256_lt {k a q : Nat} (h : a < 276) : wSv256 k a q = wSv0256 a q := by
  have e : (a == 276 + k) = false := by simp; omega
  simp only [wSv256, wSv0256, e, Bool.or_false]
def wSc0256 (a q : Nat) : Bool := (a == 2 && (q == 2 || q == 4)) || (a == 256 && (q == 12 || q == 15)) || a == 261
def wSc256 (k a q : Nat) : Bool := ((a == 2 && (q == 2 || q == 4)) || (a == 256 && (q == 12 || q == 15)) || a == 261) || a == 276 + k
theorem wSc256_lt {k a q : Nat} (h : a < 276) : wSc256 k a q = wSc0256 a q := by
  have e : (a == 276 + k) = false := by simp; omega
  simp only [wSc256, wSc0256, e, Bool.or_false]
theorem wSv256_s {k j q : Nat} (h : j = k) : wSv256 k (276 + j) q = true := by
  simp [wSv256, h]
theorem wFa_wSv256 {k : Nat} : ∀ a q, wFa a q = true → wSv256 k a q = true := by
  intro a q h
  simp [wFa] at h
  simp [wSv256]
  omega
theorem wAt_wSv256 {k : Nat} : ∀ a q, wAt a q = true → wSv256 k a q = true := by
  intro a q h
  simp [wAt] at h
  simp [wSv256]
  omega
theorem wVr256_wSv256 {k : Nat} : ∀ a q, wVr256 a q = true → wSv256 k a q = true := by
  intro a q h
  simp [wVr256] at h
  simp [wSv256]
  omega
theorem wSc256_s {k j q : Nat} (h : j = k) : wSc256 k (276 + j) q = true := by
  simp [wSc256, h]
theorem wFa_wSc256 {k : Nat} : ∀ a q, wFa a q = true → wSc256 k a q = true := by
  intro a q h
  simp [wFa] at h
  simp [wSc256]
  omega
theorem wAt_wSc256 {k : Nat} : ∀ a q, wAt a q = true → wSc256 k a q = true := by
  intro a q h
  simp [wAt] at h
  simp [wSc256]
  omega
theorem wVr256_wSc256 {k : Nat} : ∀ a q, wVr256 a q = true → wSc256 k a q = true := by
  intro a q h
  simp [wVr256] at h
  simp [wSc256]
  omega
theorem wSv256_wSc256 {k : Nat} : ∀ a q, wSv256 k a q = true → wSc256 k a q = true := by
  intro a q h
  simp [wSv256] at h
  simp [wSc256]
  omega
set_option maxRecDepth 100000 in
theorem t60_256 {L : Nat} {xs : Nat → Int32} {d nn : Nat} {m : yM} {e : Int} (hT : Ty gT m) (he : 0 ≤ e ∧ e ≤ 320) (hE : m 5 e.toNat = 0) (ha : m 2 2 ≤ e) (hp : m 2 1 = 0) {k : Int} (hk : 0 ≤ k ∧ k ≤ 39) (hm : 1 ≤ m 256 10) (hlt : m 2 2 < e) : YC (gZ L xs) (d + 2) 60 [.ref 2, .ref (276 + k.toNat)] m nn (qI (fun r m' n' => n' = nn ∧ Ty gT m' ∧ Fr (wSv256 k.toNat) m m' ∧ (r = 0 ∨ r = 1) ∧ m' 2 2 ≤ e ∧ (r = 1 → m' (276 + k.toNat) 0 = 2 ∧ 0 ≤ m' (276 + k.toNat) 2 ∧ 0 ≤ m' (276 + k.toNat) 3))) := by
  have tb2 := hT.atp 2 2 0 320 rfl
  refine YC.mkB [some (.ref 2), some (.ref (276 + k.toNat))] kn60 rfl rfl ?_
  have hF : Fr (wSv256 k.toNat) m m := Fr.rf
  refine y_aload 1 c60_0 rfl rfl rfl ?_
  refine y_iconst 2 c60_1 rfl ?_
  refine y_putI 5 c60_2 rfl (ff276_0 (by omega)) (y_fit0 _) ?_
  have hT808 := hT.up (276 + k.toNat) 0 2 0 9 (ft276_0 (by omega)) (by omega)
  have hF809 := hF.up (276 + k.toNat) 0 2 (wSv256_s (by omega))
  refine y_aload 6 c60_5 rfl rfl rfl ?_
  refine y_aload 7 c60_6 rfl rfl rfl ?_
  refine y_getS 10 (B := 256) c60_7 rfl kf2_1 (by rw [show (yup m (276 + k.toNat) 0 2) 2 1 = 0 from by have e : (yup m (276 + k.toNat) 0 2) 2 1 = m 2 1 := (yup_na (by omega)); omega]; rfl) ?_
  refine y_getR 13 c60_10 rfl kf256_5 ?_
  refine y_aload 14 c60_13 rfl rfl rfl ?_
  refine y_getX 17 (m (276 + k.toNat) 1) c60_14 rfl (ff276_1 (by omega)) (yup_nk (by decide)) ?_
  have tb810 := hT.atp (276 + k.toNat) 1 0 9 (ft276_1 (by omega))
  refine y_aaload 18 c60_17 rfl kr262 (by omega) ?_
  refine y_getX 21 (m (266 + (m (276 + k.toNat) 1).toNat) 2) c60_18 rfl (ff266_2 (by omega)) (yup_na (by omega)) ?_
  have tb811 := hT.atp (266 + (m (276 + k.toNat) 1).toNat) 2 0 46 (ft266_2 (by omega))
  refine y_putI 24 c60_21 rfl (ff276_2 (by omega)) (y_fit0 _) ?_
  have hT812 := hT808.up (276 + k.toNat) 2 (m (266 + (m (276 + k.toNat) 1).toNat) 2) ((-1)) 47 (ft276_2 (by omega)) (by omega)
  have hF813 := hF809.up (276 + k.toNat) 2 (m (266 + (m (276 + k.toNat) 1).toNat) 2) (wSv256_s (by omega))
  refine y_aload 25 c60_24 rfl rfl rfl ?_
  refine y_dup 26 c60_25 rfl rfl ?_
  refine y_getX 29 (m 2 2) c60_26 rfl kf2_2 ((yup_na (by omega)).trans (yup_na (by omega))) ?_
  have tb814 := hT.atp 2 2 0 320 rfl
  refine y_iconst 30 c60_29 rfl ?_
  refine y_iadd 31 c60_30 rfl ?_
  refine y_putI 34 c60_31 rfl kf2_2 (y_fit0 _) ?_
  have hT815 := hT812.up 2 2 ((m 2 2) + 1) 0 320 rfl (by omega)
  have hF816 := hF813.up 2 2 ((m 2 2) + 1) rfl
  refine y_aload 35 c60_34 rfl rfl rfl ?_
  refine y_aload 36 c60_35 rfl rfl rfl ?_
  have es818 : (yup (yup (yup m (276 + k.toNat) 0 2) (276 + k.toNat) 2 (m (266 + (m (276 + k.toNat) 1).toNat) 2)) 2 2 ((m 2 2) + 1)) 2 2 = (m 2 2) + 1 := rfl
  have es819 : (yup (yup (yup m (276 + k.toNat) 0 2) (276 + k.toNat) 2 (m (266 + (m (276 + k.toNat) 1).toNat) 2)) 2 2 ((m 2 2) + 1)) 2 1 = m 2 1 := ((yup_nk (by decide)).trans ((yup_na (by omega)).trans (yup_na (by omega))))
  have tb820 := hT.atp 2 1 ((-1)) 1 rfl
  have es821 : (yup (yup (yup m (276 + k.toNat) 0 2) (276 + k.toNat) 2 (m (266 + (m (276 + k.toNat) 1).toNat) 2)) 2 2 ((m 2 2) + 1)) 256 10 = m 256 10 := ((yup_na (by decide)).trans ((yup_na (by omega)).trans (yup_na (by omega))))
  have tb822 := hT.atp 256 10 0 10 rfl
  have es823 : (yup (yup (yup m (276 + k.toNat) 0 2) (276 + k.toNat) 2 (m (266 + (m (276 + k.toNat) 1).toNat) 2)) 2 2 ((m 2 2) + 1)) 256 15 = m 256 15 := ((yup_na (by decide)).trans ((yup_na (by omega)).trans (yup_na (by omega))))
  have tb824 := hT.atp 256 15 0 48 rfl
  refine y_callIB 39 [.ref 2] [.ref (276 + k.toNat)] c60_36 rfl rfl rfl rfl rfl (ycanO km58 ko2) (t58_256 hT815 he (by have e1 : (yup (yup (yup m (276 + k.toNat) 0 2) (276 + k.toNat) 2 (m (266 + (m (276 + k.toNat) 1).toNat) 2)) 2 2 ((m 2 2) + 1)) 5 e.toNat = m 5 e.toNat := ((yup_na (by decide)).trans ((yup_na (by omega)).trans (yup_na (by omega)))); omega) (by omega) (by omega) (by omega)) (fun rq817 mq817 nq817 hq817 => ?_)
  obtain ⟨rfl, hTq817, hFq817, hq817⟩ := hq817
  have hF825 := hF816.tr hFq817 wVr256_wSv256
  refine y_putI 42 c60_39 rfl (ff276_3 (by omega)) (y_fit0 _) ?_
  have hT826 := hTq817.up (276 + k.toNat) 3 rq817 ((-1)) 47 (ft276_3 (by omega)) (by omega)
  have hF827 := hF825.up (276 + k.toNat) 3 rq817 (wSv256_s (by omega))
  refine y_aload 43 c60_42 rfl rfl rfl ?_
  refine y_getX 46 rq817 c60_43 rfl (ff276_3 (by omega)) (yup_eq _ _ _ _) ?_
  refine y_iconst 47 c60_46 rfl ?_
  refine y_icmp 54 50 c60_47 rfl rfl (yc_eq (by omega) (by omega)) (fun hb828 => ?_) (fun hb828 => ?_)
  · refine y_iconst 55 c60_54 rfl ?_
    have es829 : (yup mq817 (276 + k.toNat) 3 rq817) 2 2 = mq817 2 2 := (yup_na (by omega))
    have tb830 := hTq817.atp 2 2 0 320 rfl
    have es831 : (yup mq817 (276 + k.toNat) 3 rq817) (276 + k.toNat) 0 = 2 := ((yup_nk (by decide)).trans ((hFq817 (276 + k.toNat) 0 wVr256_n276).trans ((yup_na (by omega)).trans ((yup_nk (by decide)).trans (yup_eq _ _ _ _)))))
    have es832 : (yup mq817 (276 + k.toNat) 3 rq817) (276 + k.toNat) 2 = m (266 + (m (276 + k.toNat) 1).toNat) 2 := ((yup_nk (by decide)).trans ((hFq817 (276 + k.toNat) 2 wVr256_n276).trans ((yup_na (by omega)).trans (yup_eq _ _ _ _))))
    have es833 : (yup mq817 (276 + k.toNat) 3 rq817) (276 + k.toNat) 3 = rq817 := (yup_eq _ _ _ _)
    exact y_retI c60_55 (y_fit1 (by omega)) ⟨rfl, hT826, hF827, by omega⟩
  · refine y_iconst 51 c60_50 rfl ?_
    refine y_goto 55 c60_51 rfl ?_
    have es834 : (yup mq817 (276 + k.toNat) 3 rq817) 2 2 = mq817 2 2 := (yup_na (by omega))
    have tb835 := hTq817.atp 2 2 0 320 rfl
    have es836 : (yup mq817 (276 + k.toNat) 3 rq817) (276 + k.toNat) 0 = 2 := ((yup_nk (by decide)).trans ((hFq817 (276 + k.toNat) 0 wVr256_n276).trans ((yup_na (by omega)).trans ((yup_nk (by decide)).trans (yup_eq _ _ _ _)))))
    have es837 : (yup mq817 (276 + k.toNat) 3 rq817) (276 + k.toNat) 2 = m (266 + (m (276 + k.toNat) 1).toNat) 2 := ((yup_nk (by decide)).trans ((hFq817 (276 + k.toNat) 2 wVr256_n276).trans ((yup_na (by omega)).trans (yup_eq _ _ _ _))))
    have es838 : (yup mq817 (276 + k.toNat) 3 rq817) (276 + k.toNat) 3 = rq817 := (yup_eq _ _ _ _)
    exact y_retI c60_55 (y_fit1 (by omega)) ⟨rfl, hT826, hF827, by omega⟩
set_option maxRecDepth 100000 in
theorem t62_256 {L : Nat} {xs : Nat → Int32} {d nn : Nat} {m : yM} {e : Int} (hT : Ty gT m) (he : 0 ≤ e ∧ e ≤ 320) (hE : m 5 e.toNat = 0) (ha : m 2 2 ≤ e) (hp : m 2 1 = 0) {k : Int} (hk : 0 ≤ k ∧ k ≤ 39) (hm : 1 ≤ m 256 10) {v : Int} (hv : v ≠ 0 ∧ -2147483648 ≤ v ∧ v < 2147483648) : YC (gZ L xs) (d + 1) 62 [.ref 2, yI v, .ref (276 + k.toNat)] m nn (qI (fun r m' n' => n' = nn ∧ Ty gT m' ∧ Fr (wSv256 k.toNat) m m' ∧ (r = 0 ∨ r = 1) ∧ m' 2 2 ≤ e ∧ m' (276 + k.toNat) 0 = m (276 + k.toNat) 0 ∧ m' (276 + k.toNat) 2 = m (276 + k.toNat) 2 ∧ m' (276 + k.toNat) 3 = m (276 + k.toNat) 3 ∧ m' (276 + k.toNat) 6 = m (276 + k.toNat) 6 ∧ m' (276 + k.toNat) 8 = m (276 + k.toNat) 8)) := by
  have tb2 := hT.atp 2 2 0 320 rfl
  refine YC.mkB [some (.ref 2), some (yI v), some (.ref (276 + k.toNat))] kn62 rfl rfl ?_
  have hF : Fr (wSv256 k.toNat) m m := Fr.rf
  refine y_aload 1 c62_0 rfl rfl rfl ?_
  refine y_iload 2 c62_1 rfl rfl ?_
  have tb840 := hT.atp 2 2 0 320 rfl
  refine y_callIB 5 [.ref 2, yI v] [] c62_2 rfl rfl rfl rfl rfl (ycanO km37 ko2) (t37 hT he hE (by omega) (by omega)) (fun rq839 mq839 nq839 hq839 => ?_)
  obtain ⟨rfl, hTq839, hFq839, hq839⟩ := hq839
  have hF841 := hF.tr hFq839 wAt_wSv256
  refine y_if 10 8 c62_5 rfl rfl (yz_ne (by omega)) (fun hb842 => ?_) (fun hb842 => ?_)
  · refine y_aload 11 c62_10 rfl rfl rfl ?_
    refine y_aload 12 c62_11 rfl rfl rfl ?_
    refine y_getR 15 c62_12 rfl kf2_0 ?_
    refine y_getR 18 c62_15 rfl kf3_3 ?_
    refine y_aload 19 c62_18 rfl rfl rfl ?_
    refine y_getX 22 (mq839 2 2) c62_19 rfl kf2_2 rfl ?_
    have tb843 := hTq839.atp 2 2 0 320 rfl
    refine y_iaT 23 ((-2147483648)) 2147483647 c62_22 rfl ka7 (by omega) hTq839 rfl (fun v844 hv844 gv844 => ?_)
    refine y_putI 26 c62_23 rfl (ff276_4 (by omega)) (y_fit0 _) ?_
    have hT845 := hTq839.up (276 + k.toNat) 4 v844 ((-2147483648)) 2147483647 (ft276_4 (by omega)) (by omega)
    have hF846 := hF841.up (276 + k.toNat) 4 v844 (wSv256_s (by omega))
    refine y_aload 27 c62_26 rfl rfl rfl ?_
    refine y_aload 28 c62_27 rfl rfl rfl ?_
    refine y_getR 31 c62_28 rfl kf2_0 ?_
    refine y_getR 34 c62_31 rfl kf3_2 ?_
    refine y_aload 35 c62_34 rfl rfl rfl ?_
    refine y_getX 38 (mq839 2 2) c62_35 rfl kf2_2 (yup_na (by omega)) ?_
    refine y_iaT 39 0 320 c62_38 rfl ka6 (by omega) hT845 rfl (fun v847 hv847 gv847 => ?_)
    refine y_putI 42 c62_39 rfl (ff276_5 (by omega)) (y_fit0 _) ?_
    have hT848 := hT845.up (276 + k.toNat) 5 v847 0 320 (ft276_5 (by omega)) (by omega)
    have hF849 := hF846.up (276 + k.toNat) 5 v847 (wSv256_s (by omega))
    refine y_aload 43 c62_42 rfl rfl rfl ?_
    refine y_iconst 45 c62_43 rfl ?_
    have es851 : (yup (yup mq839 (276 + k.toNat) 4 v844) (276 + k.toNat) 5 v847) 2 2 = mq839 2 2 := ((yup_na (by omega)).trans (yup_na (by omega)))
    refine y_callIB 48 [.ref 2, yI 11] [] c62_45 rfl rfl rfl rfl rfl (ycanO km37 ko2) (t37 hT848 he (by have e1 : (yup (yup mq839 (276 + k.toNat) 4 v844) (276 + k.toNat) 5 v847) 5 e.toNat = m 5 e.toNat := ((yup_na (by omega)).trans ((yup_na (by omega)).trans (hFq839 5 e.toNat rfl))); omega) (by omega) (by omega)) (fun rq850 mq850 nq850 hq850 => ?_)
    obtain ⟨rfl, hTq850, hFq850, hq850⟩ := hq850
    have hF852 := hF849.tr hFq850 wAt_wSv256
    have tb853 := hTq850.atp 2 2 0 320 rfl
    have es854 : mq850 (276 + k.toNat) 0 = m (276 + k.toNat) 0 := ((hFq850 (276 + k.toNat) 0 wAt_n276).trans ((yup_nk (by decide)).trans ((yup_nk (by decide)).trans (hFq839 (276 + k.toNat) 0 wAt_n276))))
    have tb855 := hT.atp (276 + k.toNat) 0 0 9 (ft276_0 (by omega))
    have es856 : mq850 (276 + k.toNat) 2 = m (276 + k.toNat) 2 := ((hFq850 (276 + k.toNat) 2 wAt_n276).trans ((yup_nk (by decide)).trans ((yup_nk (by decide)).trans (hFq839 (276 + k.toNat) 2 wAt_n276))))
    have tb857 := hT.atp (276 + k.toNat) 2 ((-1)) 47 (ft276_2 (by omega))
    have es858 : mq850 (276 + k.toNat) 3 = m (276 + k.toNat) 3 := ((hFq850 (276 + k.toNat) 3 wAt_n276).trans ((yup_nk (by decide)).trans ((yup_nk (by decide)).trans (hFq839 (276 + k.toNat) 3 wAt_n276))))
    have tb859 := hT.atp (276 + k.toNat) 3 ((-1)) 47 (ft276_3 (by omega))
    have es860 : mq850 (276 + k.toNat) 6 = m (276 + k.toNat) 6 := ((hFq850 (276 + k.toNat) 6 wAt_n276).trans ((yup_nk (by decide)).trans ((yup_nk (by decide)).trans (hFq839 (276 + k.toNat) 6 wAt_n276))))
    have tb861 := hT.atp (276 + k.toNat) 6 ((-1)) 11 (ft276_6 (by omega))
    have es862 : mq850 (276 + k.toNat) 8 = m (276 + k.toNat) 8 := ((hFq850 (276 + k.toNat) 8 wAt_n276).trans ((yup_nk (by decide)).trans ((yup_nk (by decide)).trans (hFq839 (276 + k.toNat) 8 wAt_n276))))
    have tb863 := hT.atp (276 + k.toNat) 8 0 2 (ft276_8 (by omega))
    exact y_retI c62_48 (y_fit1 (by omega)) ⟨rfl, hTq850, hF852, by omega⟩
  · refine y_iconst 9 c62_8 rfl ?_
    have tb864 := hTq839.atp 2 2 0 320 rfl
    have es865 : mq839 (276 + k.toNat) 0 = m (276 + k.toNat) 0 := (hFq839 (276 + k.toNat) 0 wAt_n276)
    have tb866 := hT.atp (276 + k.toNat) 0 0 9 (ft276_0 (by omega))
    have es867 : mq839 (276 + k.toNat) 2 = m (276 + k.toNat) 2 := (hFq839 (276 + k.toNat) 2 wAt_n276)
    have tb868 := hT.atp (276 + k.toNat) 2 ((-1)) 47 (ft276_2 (by omega))
    have es869 : mq839 (276 + k.toNat) 3 = m (276 + k.toNat) 3 := (hFq839 (276 + k.toNat) 3 wAt_n276)
    have tb870 := hT.atp (276 + k.toNat) 3 ((-1)) 47 (ft276_3 (by omega))
    have es871 : mq839 (276 + k.toNat) 6 = m (276 + k.toNat) 6 := (hFq839 (276 + k.toNat) 6 wAt_n276)
    have tb872 := hT.atp (276 + k.toNat) 6 ((-1)) 11 (ft276_6 (by omega))
    have es873 : mq839 (276 + k.toNat) 8 = m (276 + k.toNat) 8 := (hFq839 (276 + k.toNat) 8 wAt_n276)
    have tb874 := hT.atp (276 + k.toNat) 8 0 2 (ft276_8 (by omega))
    exact y_retI c62_9 (y_fit1 (by omega)) ⟨rfl, hTq839, hF841, by omega⟩
set_option maxRecDepth 100000 in
theorem t67_256 {L : Nat} {xs : Nat → Int32} {d nn : Nat} {m : yM} {e : Int} (hT : Ty gT m) (he : 0 ≤ e ∧ e ≤ 320) (hE : m 5 e.toNat = 0) (ha : m 2 2 ≤ e) (hp : m 2 1 = 0) {k : Int} (hk : 0 ≤ k ∧ k ≤ 39) (hm : 1 ≤ m 256 10) (hs : 0 ≤ m (276 + k.toNat) 3) : YC (gZ L xs) (d + 2) 67 [.ref 2, .ref (276 + k.toNat)] m nn (qI (fun r m' n' => n' = nn ∧ Ty gT m' ∧ Fr (wSv256 k.toNat) m m' ∧ (r = 0 ∨ r = 1) ∧ m' 2 2 ≤ e ∧ (r = 1 → m' (276 + k.toNat) 0 = 3 ∧ 0 ≤ m' (276 + k.toNat) 2 ∧ 0 ≤ m' (276 + k.toNat) 3))) := by
  have tb2 := hT.atp 2 2 0 320 rfl
  refine YC.mkB [some (.ref 2), some (.ref (276 + k.toNat))] kn67 rfl rfl ?_
  have hF : Fr (wSv256 k.toNat) m m := Fr.rf
  refine y_aload 1 c67_0 rfl rfl rfl ?_
  refine y_iconst 2 c67_1 rfl ?_
  refine y_putI 5 c67_2 rfl (ff276_0 (by omega)) (y_fit0 _) ?_
  have hT875 := hT.up (276 + k.toNat) 0 3 0 9 (ft276_0 (by omega)) (by omega)
  have hF876 := hF.up (276 + k.toNat) 0 3 (wSv256_s (by omega))
  refine y_aload 6 c67_5 rfl rfl rfl ?_
  refine y_aload 7 c67_6 rfl rfl rfl ?_
  refine y_getX 10 (m (276 + k.toNat) 3) c67_7 rfl (ff276_3 (by omega)) (yup_nk (by decide)) ?_
  have tb877 := hT.atp (276 + k.toNat) 3 ((-1)) 47 (ft276_3 (by omega))
  refine y_putI 13 c67_10 rfl (ff276_2 (by omega)) (y_fit0 _) ?_
  have hT878 := hT875.up (276 + k.toNat) 2 (m (276 + k.toNat) 3) ((-1)) 47 (ft276_2 (by omega)) (by omega)
  have hF879 := hF876.up (276 + k.toNat) 2 (m (276 + k.toNat) 3) (wSv256_s (by omega))
  refine y_aload 14 c67_13 rfl rfl rfl ?_
  refine y_iconst 16 c67_14 rfl ?_
  have es881 : (yup (yup m (276 + k.toNat) 0 3) (276 + k.toNat) 2 (m (276 + k.toNat) 3)) 2 2 = m 2 2 := ((yup_na (by omega)).trans (yup_na (by omega)))
  have tb882 := hT.atp 2 2 0 320 rfl
  refine y_callIB 19 [.ref 2, yI 61] [] c67_16 rfl rfl rfl rfl rfl (ycanO km37 ko2) (t37 hT878 he (by have e1 : (yup (yup m (276 + k.toNat) 0 3) (276 + k.toNat) 2 (m (276 + k.toNat) 3)) 5 e.toNat = m 5 e.toNat := ((yup_na (by omega)).trans (yup_na (by omega))); omega) (by omega) (by omega)) (fun rq880 mq880 nq880 hq880 => ?_)
  obtain ⟨rfl, hTq880, hFq880, hq880⟩ := hq880
  have hF883 := hF879.tr hFq880 wAt_wSv256
  refine y_if 24 22 c67_19 rfl rfl (yz_ne (by omega)) (fun hb884 => ?_) (fun hb884 => ?_)
  · refine y_aload 25 c67_24 rfl rfl rfl ?_
    refine y_aload 26 c67_25 rfl rfl rfl ?_
    have tb886 := hTq880.atp 2 2 0 320 rfl
    have es887 : mq880 2 1 = m 2 1 := ((hFq880 2 1 rfl).trans ((yup_na (by omega)).trans (yup_na (by omega))))
    have tb888 := hT.atp 2 1 ((-1)) 1 rfl
    have es889 : mq880 256 10 = m 256 10 := ((hFq880 256 10 rfl).trans ((yup_na (by omega)).trans (yup_na (by omega))))
    have tb890 := hT.atp 256 10 0 10 rfl
    have es891 : mq880 256 15 = m 256 15 := ((hFq880 256 15 rfl).trans ((yup_na (by omega)).trans (yup_na (by omega))))
    have tb892 := hT.atp 256 15 0 48 rfl
    refine y_callIB 29 [.ref 2] [.ref (276 + k.toNat)] c67_26 rfl rfl rfl rfl rfl (ycanO km58 ko2) (t58_256 hTq880 he (by have e1 : mq880 5 e.toNat = m 5 e.toNat := ((hFq880 5 e.toNat rfl).trans ((yup_na (by omega)).trans (yup_na (by omega)))); omega) (by omega) (by omega) (by omega)) (fun rq885 mq885 nq885 hq885 => ?_)
    obtain ⟨rfl, hTq885, hFq885, hq885⟩ := hq885
    have hF893 := hF883.tr hFq885 wVr256_wSv256
    refine y_putI 32 c67_29 rfl (ff276_3 (by omega)) (y_fit0 _) ?_
    have hT894 := hTq885.up (276 + k.toNat) 3 rq885 ((-1)) 47 (ft276_3 (by omega)) (by omega)
    have hF895 := hF893.up (276 + k.toNat) 3 rq885 (wSv256_s (by omega))
    refine y_aload 33 c67_32 rfl rfl rfl ?_
    refine y_getX 36 rq885 c67_33 rfl (ff276_3 (by omega)) (yup_eq _ _ _ _) ?_
    refine y_iconst 37 c67_36 rfl ?_
    refine y_icmp 44 40 c67_37 rfl rfl (yc_eq (by omega) (by omega)) (fun hb896 => ?_) (fun hb896 => ?_)
    · refine y_iconst 45 c67_44 rfl ?_
      have es897 : (yup mq885 (276 + k.toNat) 3 rq885) 2 2 = mq885 2 2 := (yup_na (by omega))
      have tb898 := hTq885.atp 2 2 0 320 rfl
      have es899 : (yup mq885 (276 + k.toNat) 3 rq885) (276 + k.toNat) 0 = 3 := ((yup_nk (by decide)).trans ((hFq885 (276 + k.toNat) 0 wVr256_n276).trans ((hFq880 (276 + k.toNat) 0 wAt_n276).trans ((yup_nk (by decide)).trans (yup_eq _ _ _ _)))))
      have es900 : (yup mq885 (276 + k.toNat) 3 rq885) (276 + k.toNat) 2 = m (276 + k.toNat) 3 := ((yup_nk (by decide)).trans ((hFq885 (276 + k.toNat) 2 wVr256_n276).trans ((hFq880 (276 + k.toNat) 2 wAt_n276).trans (yup_eq _ _ _ _))))
      have es901 : (yup mq885 (276 + k.toNat) 3 rq885) (276 + k.toNat) 3 = rq885 := (yup_eq _ _ _ _)
      exact y_retI c67_45 (y_fit1 (by omega)) ⟨rfl, hT894, hF895, by omega⟩
    · refine y_iconst 41 c67_40 rfl ?_
      refine y_goto 45 c67_41 rfl ?_
      have es902 : (yup mq885 (276 + k.toNat) 3 rq885) 2 2 = mq885 2 2 := (yup_na (by omega))
      have tb903 := hTq885.atp 2 2 0 320 rfl
      have es904 : (yup mq885 (276 + k.toNat) 3 rq885) (276 + k.toNat) 0 = 3 := ((yup_nk (by decide)).trans ((hFq885 (276 + k.toNat) 0 wVr256_n276).trans ((hFq880 (276 + k.toNat) 0 wAt_n276).trans ((yup_nk (by decide)).trans (yup_eq _ _ _ _)))))
      have es905 : (yup mq885 (276 + k.toNat) 3 rq885) (276 + k.toNat) 2 = m (276 + k.toNat) 3 := ((yup_nk (by decide)).trans ((hFq885 (276 + k.toNat) 2 wVr256_n276).trans ((hFq880 (276 + k.toNat) 2 wAt_n276).trans (yup_eq _ _ _ _))))
      have es906 : (yup mq885 (276 + k.toNat) 3 rq885) (276 + k.toNat) 3 = rq885 := (yup_eq _ _ _ _)
      exact y_retI c67_45 (y_fit1 (by omega)) ⟨rfl, hT894, hF895, by omega⟩
  · refine y_iconst 23 c67_22 rfl ?_
    have tb907 := hTq880.atp 2 2 0 320 rfl
    have es908 : mq880 (276 + k.toNat) 0 = 3 := ((hFq880 (276 + k.toNat) 0 wAt_n276).trans ((yup_nk (by decide)).trans (yup_eq _ _ _ _)))
    have es909 : mq880 (276 + k.toNat) 2 = m (276 + k.toNat) 3 := ((hFq880 (276 + k.toNat) 2 wAt_n276).trans (yup_eq _ _ _ _))
    have es910 : mq880 (276 + k.toNat) 3 = m (276 + k.toNat) 3 := ((hFq880 (276 + k.toNat) 3 wAt_n276).trans ((yup_nk (by decide)).trans (yup_nk (by decide))))
    exact y_retI c67_23 (y_fit1 (by omega)) ⟨rfl, hTq880, hF883, by omega⟩
set_option maxRecDepth 100000 in
theorem t66_256 {L : Nat} {xs : Nat → Int32} {d nn : Nat} {m : yM} {e : Int} (hT : Ty gT m) (he : 0 ≤ e ∧ e ≤ 320) (hE : m 5 e.toNat = 0) (ha : m 2 2 ≤ e) (hp : m 2 1 = 0) {k : Int} (hk : 0 ≤ k ∧ k ≤ 39) (hm : 1 ≤ m 256 10) (h8 : m (276 + k.toNat) 8 = 0) (hlt : m 2 2 < e) : YC (gZ L xs) (d + 2) 66 [.ref 2, .ref (276 + k.toNat)] m nn (qI (fun r m' n' => n' = nn ∧ Ty gT m' ∧ Fr (wSc256 k.toNat) m m' ∧ (r = 0 ∨ r = 1) ∧ m' 2 2 ≤ e ∧ m 256 12 ≤ m' 256 12 ∧ (r = 1 → m' (276 + k.toNat) 0 = 4 ∧ m' (276 + k.toNat) 2 = m (276 + k.toNat) 2 ∧ m' (276 + k.toNat) 3 = m (276 + k.toNat) 3 ∧ m' (276 + k.toNat) 6 = m 256 12 ∧ m' 256 12 = m 256 12 + 1 ∧ (1 ≤ m' (276 + k.toNat) 8 → 0 ≤ m' (276 + k.toNat) 9) ∧ (2 ≤ m' (276 + k.toNat) 8 → 0 ≤ m' (276 + k.toNat) 10)))) := by
  have tb2 := hT.atp 2 2 0 320 rfl
  refine YC.mkB [some (.ref 2), some (.ref (276 + k.toNat))] kn66 rfl rfl ?_
  have hF : Fr (wSc256 k.toNat) m m := Fr.rf
  refine y_aload 1 c66_0 rfl rfl rfl ?_
  refine y_getS 4 (B := 256) c66_1 rfl kf2_1 (by rw [show m 2 1 = 0 from by have e : m 2 1 = m 2 1 := rfl; omega]; rfl) ?_
  refine y_aload 5 c66_4 rfl rfl rfl ?_
  have tb912 := hT.atp 256 12 0 12 rfl
  refine y_callIB 8 [.ref 256, .ref (276 + k.toNat)] [] c66_5 rfl rfl rfl rfl rfl (ycanO km65 ko256) (t65_256 hT (by omega)) (fun rq911 mq911 nq911 hq911 => ?_)
  obtain ⟨rfl, hq911⟩ := hq911
  rcases hq911 with ⟨rfl, rfl, hq911⟩ | ⟨rfl, rfl, hq911⟩
  · refine y_if 21 11 c66_8 rfl rfl (yz_ne (by omega)) (fun hb913 => ?_) (fun hb913 => ?_)
    · exfalso; omega
    · refine y_aload 12 c66_11 rfl rfl rfl ?_
      refine y_aload 13 c66_12 rfl rfl rfl ?_
      refine y_getX 16 (m (276 + k.toNat) 5) c66_13 rfl (ff276_5 (by omega)) rfl ?_
      have tb914 := hT.atp (276 + k.toNat) 5 0 320 (ft276_5 (by omega))
      refine y_putI 19 c66_16 rfl kf2_4 (y_fit0 _) ?_
      have hT915 := hT.up 2 4 (m (276 + k.toNat) 5) 0 320 rfl (by omega)
      have hF916 := hF.up 2 4 (m (276 + k.toNat) 5) rfl
      refine y_iconst 20 c66_19 rfl ?_
      have es917 : (yup m 2 4 (m (276 + k.toNat) 5)) 2 2 = m 2 2 := rfl
      have tb918 := hT.atp 2 2 0 320 rfl
      have es919 : (yup m 2 4 (m (276 + k.toNat) 5)) 256 12 = m 256 12 := rfl
      have es920 : (yup m 2 4 (m (276 + k.toNat) 5)) (276 + k.toNat) 0 = m (276 + k.toNat) 0 := (yup_na (by omega))
      have tb921 := hT.atp (276 + k.toNat) 0 0 9 (ft276_0 (by omega))
      have es922 : (yup m 2 4 (m (276 + k.toNat) 5)) (276 + k.toNat) 2 = m (276 + k.toNat) 2 := (yup_na (by omega))
      have tb923 := hT.atp (276 + k.toNat) 2 ((-1)) 47 (ft276_2 (by omega))
      have es924 : (yup m 2 4 (m (276 + k.toNat) 5)) (276 + k.toNat) 3 = m (276 + k.toNat) 3 := (yup_na (by omega))
      have tb925 := hT.atp (276 + k.toNat) 3 ((-1)) 47 (ft276_3 (by omega))
      have es926 : (yup m 2 4 (m (276 + k.toNat) 5)) (276 + k.toNat) 6 = m (276 + k.toNat) 6 := (yup_na (by omega))
      have tb927 := hT.atp (276 + k.toNat) 6 ((-1)) 11 (ft276_6 (by omega))
      have es928 : (yup m 2 4 (m (276 + k.toNat) 5)) (276 + k.toNat) 8 = m (276 + k.toNat) 8 := (yup_na (by omega))
      have tb929 := hT.atp (276 + k.toNat) 8 0 2 (ft276_8 (by omega))
      have es930 : (yup m 2 4 (m (276 + k.toNat) 5)) (276 + k.toNat) 9 = m (276 + k.toNat) 9 := (yup_na (by omega))
      have tb931 := hT.atp (276 + k.toNat) 9 ((-1)) 47 (ft276_9 (by omega))
      have es932 : (yup m 2 4 (m (276 + k.toNat) 5)) (276 + k.toNat) 10 = m (276 + k.toNat) 10 := (yup_na (by omega))
      have tb933 := hT.atp (276 + k.toNat) 10 ((-1)) 47 (ft276_10 (by omega))
      exact y_retI c66_20 (y_fit1 (by omega)) ⟨rfl, hT915, hF916, by omega⟩
  · have hT934 := hT.up (276 + k.toNat) 0 4 0 9 (ft276_0 (by omega)) (by omega)
    have hF935 := hF.up (276 + k.toNat) 0 4 (wSc256_s (by omega))
    have hT936 := hT934.up (276 + k.toNat) 6 (m 256 12) ((-1)) 11 (ft276_6 (by omega)) (by omega)
    have hF937 := hF935.up (276 + k.toNat) 6 (m 256 12) (wSc256_s (by omega))
    have hT938 := hT936.up 256 12 ((m 256 12) + 1) 0 12 rfl (by omega)
    have hF939 := hF937.up 256 12 ((m 256 12) + 1) rfl
    refine y_if 21 11 c66_8 rfl rfl (yz_ne (by omega)) (fun hb940 => ?_) (fun hb940 => ?_)
    · refine y_aload 22 c66_21 rfl rfl rfl ?_
      refine y_dup 23 c66_22 rfl rfl ?_
      refine y_getX 26 (m 2 2) c66_23 rfl kf2_2 ((yup_na (by decide)).trans ((yup_na (by omega)).trans (yup_na (by omega)))) ?_
      have tb941 := hT.atp 2 2 0 320 rfl
      refine y_iconst 27 c66_26 rfl ?_
      refine y_iadd 28 c66_27 rfl ?_
      refine y_putI 31 c66_28 rfl kf2_2 (y_fit0 _) ?_
      have hT942 := hT938.up 2 2 ((m 2 2) + 1) 0 320 rfl (by omega)
      have hF943 := hF939.up 2 2 ((m 2 2) + 1) rfl
      refine y_aload 32 c66_31 rfl rfl rfl ?_
      have es944 : (yup (yup (yup (yup m (276 + k.toNat) 0 4) (276 + k.toNat) 6 (m 256 12)) 256 12 ((m 256 12) + 1)) 2 2 ((m 2 2) + 1)) 2 2 = (m 2 2) + 1 := rfl
      refine y_callP 35 [.ref 2] [] c66_32 rfl rfl rfl rfl rfl (ycanO km38 ko2) (t38 hT942 he (by have e1 : (yup (yup (yup (yup m (276 + k.toNat) 0 4) (276 + k.toNat) 6 (m 256 12)) 256 12 ((m 256 12) + 1)) 2 2 ((m 2 2) + 1)) 5 e.toNat = m 5 e.toNat := ((yup_na (by decide)).trans ((yup_na (by decide)).trans ((yup_na (by omega)).trans (yup_na (by omega))))); omega) (by omega)) (fun r945 hr945 => ?_)
      refine y_iconst 37 c66_35 rfl ?_
      refine y_icmp 63 40 c66_37 rfl rfl (yc_eq (by omega) (by omega)) (fun hb946 => ?_) (fun hb946 => ?_)
      · refine y_aload 64 c66_63 rfl rfl rfl ?_
        refine y_getX 67 (m (276 + k.toNat) 8) c66_64 rfl (ff276_8 (by omega)) ((yup_na (by omega)).trans ((yup_na (by omega)).trans ((yup_nk (by decide)).trans (yup_nk (by decide))))) ?_
        have tb947 := hT.atp (276 + k.toNat) 8 0 2 (ft276_8 (by omega))
        refine y_iconst 68 c66_67 rfl ?_
        refine y_icmp 113 71 c66_68 rfl rfl (yc_ne (by omega) (by omega)) (fun hb948 => ?_) (fun hb948 => ?_)
        · refine y_aload 114 c66_113 rfl rfl rfl ?_
          refine y_iconst 116 c66_114 rfl ?_
          have es950 : (yup (yup (yup (yup m (276 + k.toNat) 0 4) (276 + k.toNat) 6 (m 256 12)) 256 12 ((m 256 12) + 1)) 2 2 ((m 2 2) + 1)) 2 2 = (m 2 2) + 1 := rfl
          refine y_callIB 119 [.ref 2, yI 41] [] c66_116 rfl rfl rfl rfl rfl (ycanO km37 ko2) (t37 hT942 he (by have e1 : (yup (yup (yup (yup m (276 + k.toNat) 0 4) (276 + k.toNat) 6 (m 256 12)) 256 12 ((m 256 12) + 1)) 2 2 ((m 2 2) + 1)) 5 e.toNat = m 5 e.toNat := ((yup_na (by decide)).trans ((yup_na (by decide)).trans ((yup_na (by omega)).trans (yup_na (by omega))))); omega) (by omega) (by omega)) (fun rq949 mq949 nq949 hq949 => ?_)
          obtain ⟨rfl, hTq949, hFq949, hq949⟩ := hq949
          have hF951 := hF943.tr hFq949 wAt_wSc256
          have tb952 := hTq949.atp 2 2 0 320 rfl
          have es953 : mq949 256 12 = (m 256 12) + 1 := ((hFq949 256 12 rfl).trans ((yup_na (by decide)).trans (yup_eq _ _ _ _)))
          have es954 : mq949 (276 + k.toNat) 0 = 4 := ((hFq949 (276 + k.toNat) 0 wAt_n276).trans ((yup_na (by omega)).trans ((yup_na (by omega)).trans ((yup_nk (by decide)).trans (yup_eq _ _ _ _)))))
          have es955 : mq949 (276 + k.toNat) 2 = m (276 + k.toNat) 2 := ((hFq949 (276 + k.toNat) 2 wAt_n276).trans ((yup_na (by omega)).trans ((yup_na (by omega)).trans ((yup_nk (by decide)).trans (yup_nk (by decide))))))
          have tb956 := hT.atp (276 + k.toNat) 2 ((-1)) 47 (ft276_2 (by omega))
          have es957 : mq949 (276 + k.toNat) 3 = m (276 + k.toNat) 3 := ((hFq949 (276 + k.toNat) 3 wAt_n276).trans ((yup_na (by omega)).trans ((yup_na (by omega)).trans ((yup_nk (by decide)).trans (yup_nk (by decide))))))
          have tb958 := hT.atp (276 + k.toNat) 3 ((-1)) 47 (ft276_3 (by omega))
          have es959 : mq949 (276 + k.toNat) 6 = m 256 12 := ((hFq949 (276 + k.toNat) 6 wAt_n276).trans ((yup_na (by omega)).trans ((yup_na (by omega)).trans (yup_eq _ _ _ _))))
          have es960 : mq949 (276 + k.toNat) 8 = m (276 + k.toNat) 8 := ((hFq949 (276 + k.toNat) 8 wAt_n276).trans ((yup_na (by omega)).trans ((yup_na (by omega)).trans ((yup_nk (by decide)).trans (yup_nk (by decide))))))
          have es961 : mq949 (276 + k.toNat) 9 = m (276 + k.toNat) 9 := ((hFq949 (276 + k.toNat) 9 wAt_n276).trans ((yup_na (by omega)).trans ((yup_na (by omega)).trans ((yup_nk (by decide)).trans (yup_nk (by decide))))))
          have tb962 := hT.atp (276 + k.toNat) 9 ((-1)) 47 (ft276_9 (by omega))
          have es963 : mq949 (276 + k.toNat) 10 = m (276 + k.toNat) 10 := ((hFq949 (276 + k.toNat) 10 wAt_n276).trans ((yup_na (by omega)).trans ((yup_na (by omega)).trans ((yup_nk (by decide)).trans (yup_nk (by decide))))))
          have tb964 := hT.atp (276 + k.toNat) 10 ((-1)) 47 (ft276_10 (by omega))
          exact y_retI c66_119 (y_fit1 (by omega)) ⟨rfl, hTq949, hF951, by omega⟩
        · refine y_aload 72 c66_71 rfl rfl rfl ?_
          have es965 : (yup (yup (yup (yup m (276 + k.toNat) 0 4) (276 + k.toNat) 6 (m 256 12)) 256 12 ((m 256 12) + 1)) 2 2 ((m 2 2) + 1)) 2 2 = (m 2 2) + 1 := rfl
          refine y_callP 75 [.ref 2] [] c66_72 rfl rfl rfl rfl rfl (ycanO km38 ko2) (t38 hT942 he (by have e1 : (yup (yup (yup (yup m (276 + k.toNat) 0 4) (276 + k.toNat) 6 (m 256 12)) 256 12 ((m 256 12) + 1)) 2 2 ((m 2 2) + 1)) 5 e.toNat = m 5 e.toNat := ((yup_na (by decide)).trans ((yup_na (by decide)).trans ((yup_na (by omega)).trans (yup_na (by omega))))); omega) (by omega)) (fun r966 hr966 => ?_)
          refine y_iconst 77 c66_75 rfl ?_
          refine y_icmp 113 80 c66_77 rfl rfl (yc_ne (by omega) (by omega)) (fun hb967 => ?_) (fun hb967 => ?_)
          · refine y_aload 114 c66_113 rfl rfl rfl ?_
            refine y_iconst 116 c66_114 rfl ?_
            have es969 : (yup (yup (yup (yup m (276 + k.toNat) 0 4) (276 + k.toNat) 6 (m 256 12)) 256 12 ((m 256 12) + 1)) 2 2 ((m 2 2) + 1)) 2 2 = (m 2 2) + 1 := rfl
            refine y_callIB 119 [.ref 2, yI 41] [] c66_116 rfl rfl rfl rfl rfl (ycanO km37 ko2) (t37 hT942 he (by have e1 : (yup (yup (yup (yup m (276 + k.toNat) 0 4) (276 + k.toNat) 6 (m 256 12)) 256 12 ((m 256 12) + 1)) 2 2 ((m 2 2) + 1)) 5 e.toNat = m 5 e.toNat := ((yup_na (by decide)).trans ((yup_na (by decide)).trans ((yup_na (by omega)).trans (yup_na (by omega))))); omega) (by omega) (by omega)) (fun rq968 mq968 nq968 hq968 => ?_)
            obtain ⟨rfl, hTq968, hFq968, hq968⟩ := hq968
            have hF970 := hF943.tr hFq968 wAt_wSc256
            have tb971 := hTq968.atp 2 2 0 320 rfl
            have es972 : mq968 256 12 = (m 256 12) + 1 := ((hFq968 256 12 rfl).trans ((yup_na (by decide)).trans (yup_eq _ _ _ _)))
            have es973 : mq968 (276 + k.toNat) 0 = 4 := ((hFq968 (276 + k.toNat) 0 wAt_n276).trans ((yup_na (by omega)).trans ((yup_na (by omega)).trans ((yup_nk (by decide)).trans (yup_eq _ _ _ _)))))
            have es974 : mq968 (276 + k.toNat) 2 = m (276 + k.toNat) 2 := ((hFq968 (276 + k.toNat) 2 wAt_n276).trans ((yup_na (by omega)).trans ((yup_na (by omega)).trans ((yup_nk (by decide)).trans (yup_nk (by decide))))))
            have tb975 := hT.atp (276 + k.toNat) 2 ((-1)) 47 (ft276_2 (by omega))
            have es976 : mq968 (276 + k.toNat) 3 = m (276 + k.toNat) 3 := ((hFq968 (276 + k.toNat) 3 wAt_n276).trans ((yup_na (by omega)).trans ((yup_na (by omega)).trans ((yup_nk (by decide)).trans (yup_nk (by decide))))))
            have tb977 := hT.atp (276 + k.toNat) 3 ((-1)) 47 (ft276_3 (by omega))
            have es978 : mq968 (276 + k.toNat) 6 = m 256 12 := ((hFq968 (276 + k.toNat) 6 wAt_n276).trans ((yup_na (by omega)).trans ((yup_na (by omega)).trans (yup_eq _ _ _ _))))
            have es979 : mq968 (276 + k.toNat) 8 = m (276 + k.toNat) 8 := ((hFq968 (276 + k.toNat) 8 wAt_n276).trans ((yup_na (by omega)).trans ((yup_na (by omega)).trans ((yup_nk (by decide)).trans (yup_nk (by decide))))))
            have es980 : mq968 (276 + k.toNat) 9 = m (276 + k.toNat) 9 := ((hFq968 (276 + k.toNat) 9 wAt_n276).trans ((yup_na (by omega)).trans ((yup_na (by omega)).trans ((yup_nk (by decide)).trans (yup_nk (by decide))))))
            have tb981 := hT.atp (276 + k.toNat) 9 ((-1)) 47 (ft276_9 (by omega))
            have es982 : mq968 (276 + k.toNat) 10 = m (276 + k.toNat) 10 := ((hFq968 (276 + k.toNat) 10 wAt_n276).trans ((yup_na (by omega)).trans ((yup_na (by omega)).trans ((yup_nk (by decide)).trans (yup_nk (by decide))))))
            have tb983 := hT.atp (276 + k.toNat) 10 ((-1)) 47 (ft276_10 (by omega))
            exact y_retI c66_119 (y_fit1 (by omega)) ⟨rfl, hTq968, hF970, by omega⟩
          · refine y_aload 81 c66_80 rfl rfl rfl ?_
            refine y_dup 82 c66_81 rfl rfl ?_
            refine y_getX 85 ((m 2 2) + 1) c66_82 rfl kf2_2 rfl ?_
            refine y_iconst 86 c66_85 rfl ?_
            refine y_iadd 87 c66_86 rfl ?_
            refine y_putI 90 c66_87 rfl kf2_2 (y_fit0 _) ?_
            have hT984 := hT942.up 2 2 (((m 2 2) + 1) + 1) 0 320 rfl (by omega)
            have hF985 := hF943.up 2 2 (((m 2 2) + 1) + 1) rfl
            refine y_aload 91 c66_90 rfl rfl rfl ?_
            refine y_aload 92 c66_91 rfl rfl rfl ?_
            have es987 : (yup (yup (yup (yup (yup m (276 + k.toNat) 0 4) (276 + k.toNat) 6 (m 256 12)) 256 12 ((m 256 12) + 1)) 2 2 ((m 2 2) + 1)) 2 2 (((m 2 2) + 1) + 1)) 2 2 = ((m 2 2) + 1) + 1 := rfl
            have es988 : (yup (yup (yup (yup (yup m (276 + k.toNat) 0 4) (276 + k.toNat) 6 (m 256 12)) 256 12 ((m 256 12) + 1)) 2 2 ((m 2 2) + 1)) 2 2 (((m 2 2) + 1) + 1)) 2 1 = m 2 1 := ((yup_nk (by decide)).trans ((yup_nk (by decide)).trans ((yup_na (by decide)).trans ((yup_na (by omega)).trans (yup_na (by omega))))))
            have tb989 := hT.atp 2 1 ((-1)) 1 rfl
            have es990 : (yup (yup (yup (yup (yup m (276 + k.toNat) 0 4) (276 + k.toNat) 6 (m 256 12)) 256 12 ((m 256 12) + 1)) 2 2 ((m 2 2) + 1)) 2 2 (((m 2 2) + 1) + 1)) 256 10 = m 256 10 := ((yup_na (by decide)).trans ((yup_na (by decide)).trans ((yup_nk (by decide)).trans ((yup_na (by omega)).trans (yup_na (by omega))))))
            have tb991 := hT.atp 256 10 0 10 rfl
            have es992 : (yup (yup (yup (yup (yup m (276 + k.toNat) 0 4) (276 + k.toNat) 6 (m 256 12)) 256 12 ((m 256 12) + 1)) 2 2 ((m 2 2) + 1)) 2 2 (((m 2 2) + 1) + 1)) 256 15 = m 256 15 := ((yup_na (by decide)).trans ((yup_na (by decide)).trans ((yup_nk (by decide)).trans ((yup_na (by omega)).trans (yup_na (by omega))))))
            have tb993 := hT.atp 256 15 0 48 rfl
            refine y_callIB 95 [.ref 2] [.ref (276 + k.toNat)] c66_92 rfl rfl rfl rfl rfl (ycanO km58 ko2) (t58_256 hT984 he (by have e1 : (yup (yup (yup (yup (yup m (276 + k.toNat) 0 4) (276 + k.toNat) 6 (m 256 12)) 256 12 ((m 256 12) + 1)) 2 2 ((m 2 2) + 1)) 2 2 (((m 2 2) + 1) + 1)) 5 e.toNat = m 5 e.toNat := ((yup_na (by decide)).trans ((yup_na (by decide)).trans ((yup_na (by decide)).trans ((yup_na (by omega)).trans (yup_na (by omega)))))); omega) (by omega) (by omega) (by omega)) (fun rq986 mq986 nq986 hq986 => ?_)
            obtain ⟨rfl, hTq986, hFq986, hq986⟩ := hq986
            have hF994 := hF985.tr hFq986 wVr256_wSc256
            refine y_putI 98 c66_95 rfl (ff276_10 (by omega)) (y_fit0 _) ?_
            have hT995 := hTq986.up (276 + k.toNat) 10 rq986 ((-1)) 47 (ft276_10 (by omega)) (by omega)
            have hF996 := hF994.up (276 + k.toNat) 10 rq986 (wSc256_s (by omega))
            refine y_aload 99 c66_98 rfl rfl rfl ?_
            refine y_iconst 100 c66_99 rfl ?_
            refine y_putI 103 c66_100 rfl (ff276_8 (by omega)) (y_fit0 _) ?_
            have hT997 := hT995.up (276 + k.toNat) 8 2 0 2 (ft276_8 (by omega)) (by omega)
            have hF998 := hF996.up (276 + k.toNat) 8 2 (wSc256_s (by omega))
            refine y_aload 104 c66_103 rfl rfl rfl ?_
            refine y_getX 107 rq986 c66_104 rfl (ff276_10 (by omega)) ((yup_nk (by decide)).trans (yup_eq _ _ _ _)) ?_
            refine y_iconst 108 c66_107 rfl ?_
            refine y_icmp 113 111 c66_108 rfl rfl (yc_ne (by omega) (by omega)) (fun hb999 => ?_) (fun hb999 => ?_)
            · refine y_aload 114 c66_113 rfl rfl rfl ?_
              refine y_iconst 116 c66_114 rfl ?_
              have es1001 : (yup (yup mq986 (276 + k.toNat) 10 rq986) (276 + k.toNat) 8 2) 2 2 = mq986 2 2 := ((yup_na (by omega)).trans (yup_na (by omega)))
              have tb1002 := hTq986.atp 2 2 0 320 rfl
              refine y_callIB 119 [.ref 2, yI 41] [] c66_116 rfl rfl rfl rfl rfl (ycanO km37 ko2) (t37 hT997 he (by have e1 : (yup (yup mq986 (276 + k.toNat) 10 rq986) (276 + k.toNat) 8 2) 5 e.toNat = m 5 e.toNat := ((yup_na (by omega)).trans ((yup_na (by omega)).trans ((hFq986 5 e.toNat rfl).trans ((yup_na (by decide)).trans ((yup_na (by decide)).trans ((yup_na (by decide)).trans ((yup_na (by omega)).trans (yup_na (by omega))))))))); omega) (by omega) (by omega)) (fun rq1000 mq1000 nq1000 hq1000 => ?_)
              obtain ⟨rfl, hTq1000, hFq1000, hq1000⟩ := hq1000
              have hF1003 := hF998.tr hFq1000 wAt_wSc256
              have tb1004 := hTq1000.atp 2 2 0 320 rfl
              have es1005 : mq1000 256 12 = (m 256 12) + 1 := ((hFq1000 256 12 rfl).trans ((yup_na (by omega)).trans ((yup_na (by omega)).trans ((hFq986 256 12 rfl).trans ((yup_na (by decide)).trans ((yup_na (by decide)).trans (yup_eq _ _ _ _)))))))
              have es1006 : mq1000 (276 + k.toNat) 0 = 4 := ((hFq1000 (276 + k.toNat) 0 wAt_n276).trans ((yup_nk (by decide)).trans ((yup_nk (by decide)).trans ((hFq986 (276 + k.toNat) 0 wVr256_n276).trans ((yup_na (by omega)).trans ((yup_na (by omega)).trans ((yup_na (by omega)).trans ((yup_nk (by decide)).trans (yup_eq _ _ _ _)))))))))
              have es1007 : mq1000 (276 + k.toNat) 2 = m (276 + k.toNat) 2 := ((hFq1000 (276 + k.toNat) 2 wAt_n276).trans ((yup_nk (by decide)).trans ((yup_nk (by decide)).trans ((hFq986 (276 + k.toNat) 2 wVr256_n276).trans ((yup_na (by omega)).trans ((yup_na (by omega)).trans ((yup_na (by omega)).trans ((yup_nk (by decide)).trans (yup_nk (by decide))))))))))
              have tb1008 := hT.atp (276 + k.toNat) 2 ((-1)) 47 (ft276_2 (by omega))
              have es1009 : mq1000 (276 + k.toNat) 3 = m (276 + k.toNat) 3 := ((hFq1000 (276 + k.toNat) 3 wAt_n276).trans ((yup_nk (by decide)).trans ((yup_nk (by decide)).trans ((hFq986 (276 + k.toNat) 3 wVr256_n276).trans ((yup_na (by omega)).trans ((yup_na (by omega)).trans ((yup_na (by omega)).trans ((yup_nk (by decide)).trans (yup_nk (by decide))))))))))
              have tb1010 := hT.atp (276 + k.toNat) 3 ((-1)) 47 (ft276_3 (by omega))
              have es1011 : mq1000 (276 + k.toNat) 6 = m 256 12 := ((hFq1000 (276 + k.toNat) 6 wAt_n276).trans ((yup_nk (by decide)).trans ((yup_nk (by decide)).trans ((hFq986 (276 + k.toNat) 6 wVr256_n276).trans ((yup_na (by omega)).trans ((yup_na (by omega)).trans ((yup_na (by omega)).trans (yup_eq _ _ _ _))))))))
              have es1012 : mq1000 (276 + k.toNat) 8 = 2 := ((hFq1000 (276 + k.toNat) 8 wAt_n276).trans (yup_eq _ _ _ _))
              have es1013 : mq1000 (276 + k.toNat) 9 = m (276 + k.toNat) 9 := ((hFq1000 (276 + k.toNat) 9 wAt_n276).trans ((yup_nk (by decide)).trans ((yup_nk (by decide)).trans ((hFq986 (276 + k.toNat) 9 wVr256_n276).trans ((yup_na (by omega)).trans ((yup_na (by omega)).trans ((yup_na (by omega)).trans ((yup_nk (by decide)).trans (yup_nk (by decide))))))))))
              have tb1014 := hT.atp (276 + k.toNat) 9 ((-1)) 47 (ft276_9 (by omega))
              have es1015 : mq1000 (276 + k.toNat) 10 = rq986 := ((hFq1000 (276 + k.toNat) 10 wAt_n276).trans ((yup_nk (by decide)).trans (yup_eq _ _ _ _)))
              exact y_retI c66_119 (y_fit1 (by omega)) ⟨rfl, hTq1000, hF1003, by omega⟩
            · refine y_iconst 112 c66_111 rfl ?_
              have es1016 : (yup (yup mq986 (276 + k.toNat) 10 rq986) (276 + k.toNat) 8 2) 2 2 = mq986 2 2 := ((yup_na (by omega)).trans (yup_na (by omega)))
              have tb1017 := hTq986.atp 2 2 0 320 rfl
              have es1018 : (yup (yup mq986 (276 + k.toNat) 10 rq986) (276 + k.toNat) 8 2) 256 12 = (m 256 12) + 1 := ((yup_na (by omega)).trans ((yup_na (by omega)).trans ((hFq986 256 12 rfl).trans ((yup_na (by decide)).trans ((yup_na (by decide)).trans (yup_eq _ _ _ _))))))
              have es1019 : (yup (yup mq986 (276 + k.toNat) 10 rq986) (276 + k.toNat) 8 2) (276 + k.toNat) 0 = 4 := ((yup_nk (by decide)).trans ((yup_nk (by decide)).trans ((hFq986 (276 + k.toNat) 0 wVr256_n276).trans ((yup_na (by omega)).trans ((yup_na (by omega)).trans ((yup_na (by omega)).trans ((yup_nk (by decide)).trans (yup_eq _ _ _ _))))))))
              have es1020 : (yup (yup mq986 (276 + k.toNat) 10 rq986) (276 + k.toNat) 8 2) (276 + k.toNat) 2 = m (276 + k.toNat) 2 := ((yup_nk (by decide)).trans ((yup_nk (by decide)).trans ((hFq986 (276 + k.toNat) 2 wVr256_n276).trans ((yup_na (by omega)).trans ((yup_na (by omega)).trans ((yup_na (by omega)).trans ((yup_nk (by decide)).trans (yup_nk (by decide)))))))))
              have tb1021 := hT.atp (276 + k.toNat) 2 ((-1)) 47 (ft276_2 (by omega))
              have es1022 : (yup (yup mq986 (276 + k.toNat) 10 rq986) (276 + k.toNat) 8 2) (276 + k.toNat) 3 = m (276 + k.toNat) 3 := ((yup_nk (by decide)).trans ((yup_nk (by decide)).trans ((hFq986 (276 + k.toNat) 3 wVr256_n276).trans ((yup_na (by omega)).trans ((yup_na (by omega)).trans ((yup_na (by omega)).trans ((yup_nk (by decide)).trans (yup_nk (by decide)))))))))
              have tb1023 := hT.atp (276 + k.toNat) 3 ((-1)) 47 (ft276_3 (by omega))
              have es1024 : (yup (yup mq986 (276 + k.toNat) 10 rq986) (276 + k.toNat) 8 2) (276 + k.toNat) 6 = m 256 12 := ((yup_nk (by decide)).trans ((yup_nk (by decide)).trans ((hFq986 (276 + k.toNat) 6 wVr256_n276).trans ((yup_na (by omega)).trans ((yup_na (by omega)).trans ((yup_na (by omega)).trans (yup_eq _ _ _ _)))))))
              have es1025 : (yup (yup mq986 (276 + k.toNat) 10 rq986) (276 + k.toNat) 8 2) (276 + k.toNat) 8 = 2 := (yup_eq _ _ _ _)
              have es1026 : (yup (yup mq986 (276 + k.toNat) 10 rq986) (276 + k.toNat) 8 2) (276 + k.toNat) 9 = m (276 + k.toNat) 9 := ((yup_nk (by decide)).trans ((yup_nk (by decide)).trans ((hFq986 (276 + k.toNat) 9 wVr256_n276).trans ((yup_na (by omega)).trans ((yup_na (by omega)).trans ((yup_na (by omega)).trans ((yup_nk (by decide)).trans (yup_nk (by decide)))))))))
              have tb1027 := hT.atp (276 + k.toNat) 9 ((-1)) 47 (ft276_9 (by omega))
              have es1028 : (yup (yup mq986 (276 + k.toNat) 10 rq986) (276 + k.toNat) 8 2) (276 + k.toNat) 10 = rq986 := ((yup_nk (by decide)).trans (yup_eq _ _ _ _))
              exact y_retI c66_112 (y_fit1 (by omega)) ⟨rfl, hT997, hF998, by omega⟩
      · refine y_aload 41 c66_40 rfl rfl rfl ?_
        refine y_aload 42 c66_41 rfl rfl rfl ?_
        have es1030 : (yup (yup (yup (yup m (276 + k.toNat) 0 4) (276 + k.toNat) 6 (m 256 12)) 256 12 ((m 256 12) + 1)) 2 2 ((m 2 2) + 1)) 2 2 = (m 2 2) + 1 := rfl
        have es1031 : (yup (yup (yup (yup m (276 + k.toNat) 0 4) (276 + k.toNat) 6 (m 256 12)) 256 12 ((m 256 12) + 1)) 2 2 ((m 2 2) + 1)) 2 1 = m 2 1 := ((yup_nk (by decide)).trans ((yup_na (by decide)).trans ((yup_na (by omega)).trans (yup_na (by omega)))))
        have tb1032 := hT.atp 2 1 ((-1)) 1 rfl
        have es1033 : (yup (yup (yup (yup m (276 + k.toNat) 0 4) (276 + k.toNat) 6 (m 256 12)) 256 12 ((m 256 12) + 1)) 2 2 ((m 2 2) + 1)) 256 10 = m 256 10 := ((yup_na (by decide)).trans ((yup_nk (by decide)).trans ((yup_na (by omega)).trans (yup_na (by omega)))))
        have tb1034 := hT.atp 256 10 0 10 rfl
        have es1035 : (yup (yup (yup (yup m (276 + k.toNat) 0 4) (276 + k.toNat) 6 (m 256 12)) 256 12 ((m 256 12) + 1)) 2 2 ((m 2 2) + 1)) 256 15 = m 256 15 := ((yup_na (by decide)).trans ((yup_nk (by decide)).trans ((yup_na (by omega)).trans (yup_na (by omega)))))
        have tb1036 := hT.atp 256 15 0 48 rfl
        refine y_callIB 45 [.ref 2] [.ref (276 + k.toNat)] c66_42 rfl rfl rfl rfl rfl (ycanO km58 ko2) (t58_256 hT942 he (by have e1 : (yup (yup (yup (yup m (276 + k.toNat) 0 4) (276 + k.toNat) 6 (m 256 12)) 256 12 ((m 256 12) + 1)) 2 2 ((m 2 2) + 1)) 5 e.toNat = m 5 e.toNat := ((yup_na (by decide)).trans ((yup_na (by decide)).trans ((yup_na (by omega)).trans (yup_na (by omega))))); omega) (by omega) (by omega) (by omega)) (fun rq1029 mq1029 nq1029 hq1029 => ?_)
        obtain ⟨rfl, hTq1029, hFq1029, hq1029⟩ := hq1029
        have hF1037 := hF943.tr hFq1029 wVr256_wSc256
        refine y_putI 48 c66_45 rfl (ff276_9 (by omega)) (y_fit0 _) ?_
        have hT1038 := hTq1029.up (276 + k.toNat) 9 rq1029 ((-1)) 47 (ft276_9 (by omega)) (by omega)
        have hF1039 := hF1037.up (276 + k.toNat) 9 rq1029 (wSc256_s (by omega))
        refine y_aload 49 c66_48 rfl rfl rfl ?_
        refine y_iconst 50 c66_49 rfl ?_
        refine y_putI 53 c66_50 rfl (ff276_8 (by omega)) (y_fit0 _) ?_
        have hT1040 := hT1038.up (276 + k.toNat) 8 1 0 2 (ft276_8 (by omega)) (by omega)
        have hF1041 := hF1039.up (276 + k.toNat) 8 1 (wSc256_s (by omega))
        refine y_aload 54 c66_53 rfl rfl rfl ?_
        refine y_getX 57 rq1029 c66_54 rfl (ff276_9 (by omega)) ((yup_nk (by decide)).trans (yup_eq _ _ _ _)) ?_
        refine y_iconst 58 c66_57 rfl ?_
        refine y_icmp 63 61 c66_58 rfl rfl (yc_ne (by omega) (by omega)) (fun hb1042 => ?_) (fun hb1042 => ?_)
        · refine y_aload 64 c66_63 rfl rfl rfl ?_
          refine y_getX 67 1 c66_64 rfl (ff276_8 (by omega)) (yup_eq _ _ _ _) ?_
          refine y_iconst 68 c66_67 rfl ?_
          refine y_icmp 113 71 c66_68 rfl rfl (yc_ne (by omega) (by omega)) (fun hb1043 => ?_) (fun hb1043 => ?_)
          · exfalso; omega
          · refine y_aload 72 c66_71 rfl rfl rfl ?_
            have es1044 : (yup (yup mq1029 (276 + k.toNat) 9 rq1029) (276 + k.toNat) 8 1) 2 2 = mq1029 2 2 := ((yup_na (by omega)).trans (yup_na (by omega)))
            have tb1045 := hTq1029.atp 2 2 0 320 rfl
            refine y_callP 75 [.ref 2] [] c66_72 rfl rfl rfl rfl rfl (ycanO km38 ko2) (t38 hT1040 he (by have e1 : (yup (yup mq1029 (276 + k.toNat) 9 rq1029) (276 + k.toNat) 8 1) 5 e.toNat = m 5 e.toNat := ((yup_na (by omega)).trans ((yup_na (by omega)).trans ((hFq1029 5 e.toNat rfl).trans ((yup_na (by decide)).trans ((yup_na (by decide)).trans ((yup_na (by omega)).trans (yup_na (by omega)))))))); omega) (by omega)) (fun r1046 hr1046 => ?_)
            refine y_iconst 77 c66_75 rfl ?_
            refine y_icmp 113 80 c66_77 rfl rfl (yc_ne (by omega) (by omega)) (fun hb1047 => ?_) (fun hb1047 => ?_)
            · refine y_aload 114 c66_113 rfl rfl rfl ?_
              refine y_iconst 116 c66_114 rfl ?_
              have es1049 : (yup (yup mq1029 (276 + k.toNat) 9 rq1029) (276 + k.toNat) 8 1) 2 2 = mq1029 2 2 := ((yup_na (by omega)).trans (yup_na (by omega)))
              refine y_callIB 119 [.ref 2, yI 41] [] c66_116 rfl rfl rfl rfl rfl (ycanO km37 ko2) (t37 hT1040 he (by have e1 : (yup (yup mq1029 (276 + k.toNat) 9 rq1029) (276 + k.toNat) 8 1) 5 e.toNat = m 5 e.toNat := ((yup_na (by omega)).trans ((yup_na (by omega)).trans ((hFq1029 5 e.toNat rfl).trans ((yup_na (by decide)).trans ((yup_na (by decide)).trans ((yup_na (by omega)).trans (yup_na (by omega)))))))); omega) (by omega) (by omega)) (fun rq1048 mq1048 nq1048 hq1048 => ?_)
              obtain ⟨rfl, hTq1048, hFq1048, hq1048⟩ := hq1048
              have hF1050 := hF1041.tr hFq1048 wAt_wSc256
              have tb1051 := hTq1048.atp 2 2 0 320 rfl
              have es1052 : mq1048 256 12 = (m 256 12) + 1 := ((hFq1048 256 12 rfl).trans ((yup_na (by omega)).trans ((yup_na (by omega)).trans ((hFq1029 256 12 rfl).trans ((yup_na (by decide)).trans (yup_eq _ _ _ _))))))
              have es1053 : mq1048 (276 + k.toNat) 0 = 4 := ((hFq1048 (276 + k.toNat) 0 wAt_n276).trans ((yup_nk (by decide)).trans ((yup_nk (by decide)).trans ((hFq1029 (276 + k.toNat) 0 wVr256_n276).trans ((yup_na (by omega)).trans ((yup_na (by omega)).trans ((yup_nk (by decide)).trans (yup_eq _ _ _ _))))))))
              have es1054 : mq1048 (276 + k.toNat) 2 = m (276 + k.toNat) 2 := ((hFq1048 (276 + k.toNat) 2 wAt_n276).trans ((yup_nk (by decide)).trans ((yup_nk (by decide)).trans ((hFq1029 (276 + k.toNat) 2 wVr256_n276).trans ((yup_na (by omega)).trans ((yup_na (by omega)).trans ((yup_nk (by decide)).trans (yup_nk (by decide)))))))))
              have tb1055 := hT.atp (276 + k.toNat) 2 ((-1)) 47 (ft276_2 (by omega))
              have es1056 : mq1048 (276 + k.toNat) 3 = m (276 + k.toNat) 3 := ((hFq1048 (276 + k.toNat) 3 wAt_n276).trans ((yup_nk (by decide)).trans ((yup_nk (by decide)).trans ((hFq1029 (276 + k.toNat) 3 wVr256_n276).trans ((yup_na (by omega)).trans ((yup_na (by omega)).trans ((yup_nk (by decide)).trans (yup_nk (by decide)))))))))
              have tb1057 := hT.atp (276 + k.toNat) 3 ((-1)) 47 (ft276_3 (by omega))
              have es1058 : mq1048 (276 + k.toNat) 6 = m 256 12 := ((hFq1048 (276 + k.toNat) 6 wAt_n276).trans ((yup_nk (by decide)).trans ((yup_nk (by decide)).trans ((hFq1029 (276 + k.toNat) 6 wVr256_n276).trans ((yup_na (by omega)).trans ((yup_na (by omega)).trans (yup_eq _ _ _ _)))))))
              have es1059 : mq1048 (276 + k.toNat) 8 = 1 := ((hFq1048 (276 + k.toNat) 8 wAt_n276).trans (yup_eq _ _ _ _))
              have es1060 : mq1048 (276 + k.toNat) 9 = rq1029 := ((hFq1048 (276 + k.toNat) 9 wAt_n276).trans ((yup_nk (by decide)).trans (yup_eq _ _ _ _)))
              have es1061 : mq1048 (276 + k.toNat) 10 = m (276 + k.toNat) 10 := ((hFq1048 (276 + k.toNat) 10 wAt_n276).trans ((yup_nk (by decide)).trans ((yup_nk (by decide)).trans ((hFq1029 (276 + k.toNat) 10 wVr256_n276).trans ((yup_na (by omega)).trans ((yup_na (by omega)).trans ((yup_nk (by decide)).trans (yup_nk (by decide)))))))))
              have tb1062 := hT.atp (276 + k.toNat) 10 ((-1)) 47 (ft276_10 (by omega))
              exact y_retI c66_119 (y_fit1 (by omega)) ⟨rfl, hTq1048, hF1050, by omega⟩
            · refine y_aload 81 c66_80 rfl rfl rfl ?_
              refine y_dup 82 c66_81 rfl rfl ?_
              refine y_getX 85 (mq1029 2 2) c66_82 rfl kf2_2 ((yup_na (by omega)).trans (yup_na (by omega))) ?_
              refine y_iconst 86 c66_85 rfl ?_
              refine y_iadd 87 c66_86 rfl ?_
              refine y_putI 90 c66_87 rfl kf2_2 (y_fit0 _) ?_
              have hT1063 := hT1040.up 2 2 ((mq1029 2 2) + 1) 0 320 rfl (by omega)
              have hF1064 := hF1041.up 2 2 ((mq1029 2 2) + 1) rfl
              refine y_aload 91 c66_90 rfl rfl rfl ?_
              refine y_aload 92 c66_91 rfl rfl rfl ?_
              have es1066 : (yup (yup (yup mq1029 (276 + k.toNat) 9 rq1029) (276 + k.toNat) 8 1) 2 2 ((mq1029 2 2) + 1)) 2 2 = (mq1029 2 2) + 1 := rfl
              have es1067 : (yup (yup (yup mq1029 (276 + k.toNat) 9 rq1029) (276 + k.toNat) 8 1) 2 2 ((mq1029 2 2) + 1)) 2 1 = m 2 1 := ((yup_nk (by decide)).trans ((yup_na (by omega)).trans ((yup_na (by omega)).trans ((hFq1029 2 1 rfl).trans ((yup_nk (by decide)).trans ((yup_na (by decide)).trans ((yup_na (by omega)).trans (yup_na (by omega)))))))))
              have es1068 : (yup (yup (yup mq1029 (276 + k.toNat) 9 rq1029) (276 + k.toNat) 8 1) 2 2 ((mq1029 2 2) + 1)) 256 10 = m 256 10 := ((yup_na (by decide)).trans ((yup_na (by omega)).trans ((yup_na (by omega)).trans ((hFq1029 256 10 rfl).trans ((yup_na (by decide)).trans ((yup_nk (by decide)).trans ((yup_na (by omega)).trans (yup_na (by omega)))))))))
              have es1069 : (yup (yup (yup mq1029 (276 + k.toNat) 9 rq1029) (276 + k.toNat) 8 1) 2 2 ((mq1029 2 2) + 1)) 256 15 = mq1029 256 15 := ((yup_na (by decide)).trans ((yup_na (by omega)).trans (yup_na (by omega))))
              have tb1070 := hTq1029.atp 256 15 0 48 rfl
              refine y_callIB 95 [.ref 2] [.ref (276 + k.toNat)] c66_92 rfl rfl rfl rfl rfl (ycanO km58 ko2) (t58_256 hT1063 he (by have e1 : (yup (yup (yup mq1029 (276 + k.toNat) 9 rq1029) (276 + k.toNat) 8 1) 2 2 ((mq1029 2 2) + 1)) 5 e.toNat = m 5 e.toNat := ((yup_na (by decide)).trans ((yup_na (by omega)).trans ((yup_na (by omega)).trans ((hFq1029 5 e.toNat rfl).trans ((yup_na (by decide)).trans ((yup_na (by decide)).trans ((yup_na (by omega)).trans (yup_na (by omega))))))))); omega) (by omega) (by omega) (by omega)) (fun rq1065 mq1065 nq1065 hq1065 => ?_)
              obtain ⟨rfl, hTq1065, hFq1065, hq1065⟩ := hq1065
              have hF1071 := hF1064.tr hFq1065 wVr256_wSc256
              refine y_putI 98 c66_95 rfl (ff276_10 (by omega)) (y_fit0 _) ?_
              have hT1072 := hTq1065.up (276 + k.toNat) 10 rq1065 ((-1)) 47 (ft276_10 (by omega)) (by omega)
              have hF1073 := hF1071.up (276 + k.toNat) 10 rq1065 (wSc256_s (by omega))
              refine y_aload 99 c66_98 rfl rfl rfl ?_
              refine y_iconst 100 c66_99 rfl ?_
              refine y_putI 103 c66_100 rfl (ff276_8 (by omega)) (y_fit0 _) ?_
              have hT1074 := hT1072.up (276 + k.toNat) 8 2 0 2 (ft276_8 (by omega)) (by omega)
              have hF1075 := hF1073.up (276 + k.toNat) 8 2 (wSc256_s (by omega))
              refine y_aload 104 c66_103 rfl rfl rfl ?_
              refine y_getX 107 rq1065 c66_104 rfl (ff276_10 (by omega)) ((yup_nk (by decide)).trans (yup_eq _ _ _ _)) ?_
              refine y_iconst 108 c66_107 rfl ?_
              refine y_icmp 113 111 c66_108 rfl rfl (yc_ne (by omega) (by omega)) (fun hb1076 => ?_) (fun hb1076 => ?_)
              · refine y_aload 114 c66_113 rfl rfl rfl ?_
                refine y_iconst 116 c66_114 rfl ?_
                have es1078 : (yup (yup mq1065 (276 + k.toNat) 10 rq1065) (276 + k.toNat) 8 2) 2 2 = mq1065 2 2 := ((yup_na (by omega)).trans (yup_na (by omega)))
                have tb1079 := hTq1065.atp 2 2 0 320 rfl
                refine y_callIB 119 [.ref 2, yI 41] [] c66_116 rfl rfl rfl rfl rfl (ycanO km37 ko2) (t37 hT1074 he (by have e1 : (yup (yup mq1065 (276 + k.toNat) 10 rq1065) (276 + k.toNat) 8 2) 5 e.toNat = m 5 e.toNat := ((yup_na (by omega)).trans ((yup_na (by omega)).trans ((hFq1065 5 e.toNat rfl).trans ((yup_na (by decide)).trans ((yup_na (by omega)).trans ((yup_na (by omega)).trans ((hFq1029 5 e.toNat rfl).trans ((yup_na (by decide)).trans ((yup_na (by decide)).trans ((yup_na (by omega)).trans (yup_na (by omega)))))))))))); omega) (by omega) (by omega)) (fun rq1077 mq1077 nq1077 hq1077 => ?_)
                obtain ⟨rfl, hTq1077, hFq1077, hq1077⟩ := hq1077
                have hF1080 := hF1075.tr hFq1077 wAt_wSc256
                have tb1081 := hTq1077.atp 2 2 0 320 rfl
                have es1082 : mq1077 256 12 = (m 256 12) + 1 := ((hFq1077 256 12 rfl).trans ((yup_na (by omega)).trans ((yup_na (by omega)).trans ((hFq1065 256 12 rfl).trans ((yup_na (by decide)).trans ((yup_na (by omega)).trans ((yup_na (by omega)).trans ((hFq1029 256 12 rfl).trans ((yup_na (by decide)).trans (yup_eq _ _ _ _))))))))))
                have es1083 : mq1077 (276 + k.toNat) 0 = 4 := ((hFq1077 (276 + k.toNat) 0 wAt_n276).trans ((yup_nk (by decide)).trans ((yup_nk (by decide)).trans ((hFq1065 (276 + k.toNat) 0 wVr256_n276).trans ((yup_na (by omega)).trans ((yup_nk (by decide)).trans ((yup_nk (by decide)).trans ((hFq1029 (276 + k.toNat) 0 wVr256_n276).trans ((yup_na (by omega)).trans ((yup_na (by omega)).trans ((yup_nk (by decide)).trans (yup_eq _ _ _ _))))))))))))
                have es1084 : mq1077 (276 + k.toNat) 2 = m (276 + k.toNat) 2 := ((hFq1077 (276 + k.toNat) 2 wAt_n276).trans ((yup_nk (by decide)).trans ((yup_nk (by decide)).trans ((hFq1065 (276 + k.toNat) 2 wVr256_n276).trans ((yup_na (by omega)).trans ((yup_nk (by decide)).trans ((yup_nk (by decide)).trans ((hFq1029 (276 + k.toNat) 2 wVr256_n276).trans ((yup_na (by omega)).trans ((yup_na (by omega)).trans ((yup_nk (by decide)).trans (yup_nk (by decide)))))))))))))
                have tb1085 := hT.atp (276 + k.toNat) 2 ((-1)) 47 (ft276_2 (by omega))
                have es1086 : mq1077 (276 + k.toNat) 3 = m (276 + k.toNat) 3 := ((hFq1077 (276 + k.toNat) 3 wAt_n276).trans ((yup_nk (by decide)).trans ((yup_nk (by decide)).trans ((hFq1065 (276 + k.toNat) 3 wVr256_n276).trans ((yup_na (by omega)).trans ((yup_nk (by decide)).trans ((yup_nk (by decide)).trans ((hFq1029 (276 + k.toNat) 3 wVr256_n276).trans ((yup_na (by omega)).trans ((yup_na (by omega)).trans ((yup_nk (by decide)).trans (yup_nk (by decide)))))))))))))
                have tb1087 := hT.atp (276 + k.toNat) 3 ((-1)) 47 (ft276_3 (by omega))
                have es1088 : mq1077 (276 + k.toNat) 6 = m 256 12 := ((hFq1077 (276 + k.toNat) 6 wAt_n276).trans ((yup_nk (by decide)).trans ((yup_nk (by decide)).trans ((hFq1065 (276 + k.toNat) 6 wVr256_n276).trans ((yup_na (by omega)).trans ((yup_nk (by decide)).trans ((yup_nk (by decide)).trans ((hFq1029 (276 + k.toNat) 6 wVr256_n276).trans ((yup_na (by omega)).trans ((yup_na (by omega)).trans (yup_eq _ _ _ _)))))))))))
                have es1089 : mq1077 (276 + k.toNat) 8 = 2 := ((hFq1077 (276 + k.toNat) 8 wAt_n276).trans (yup_eq _ _ _ _))
                have es1090 : mq1077 (276 + k.toNat) 9 = rq1029 := ((hFq1077 (276 + k.toNat) 9 wAt_n276).trans ((yup_nk (by decide)).trans ((yup_nk (by decide)).trans ((hFq1065 (276 + k.toNat) 9 wVr256_n276).trans ((yup_na (by omega)).trans ((yup_nk (by decide)).trans (yup_eq _ _ _ _)))))))
                have es1091 : mq1077 (276 + k.toNat) 10 = rq1065 := ((hFq1077 (276 + k.toNat) 10 wAt_n276).trans ((yup_nk (by decide)).trans (yup_eq _ _ _ _)))
                exact y_retI c66_119 (y_fit1 (by omega)) ⟨rfl, hTq1077, hF1080, by omega⟩
              · refine y_iconst 112 c66_111 rfl ?_
                have es1092 : (yup (yup mq1065 (276 + k.toNat) 10 rq1065) (276 + k.toNat) 8 2) 2 2 = mq1065 2 2 := ((yup_na (by omega)).trans (yup_na (by omega)))
                have tb1093 := hTq1065.atp 2 2 0 320 rfl
                have es1094 : (yup (yup mq1065 (276 + k.toNat) 10 rq1065) (276 + k.toNat) 8 2) 256 12 = (m 256 12) + 1 := ((yup_na (by omega)).trans ((yup_na (by omega)).trans ((hFq1065 256 12 rfl).trans ((yup_na (by decide)).trans ((yup_na (by omega)).trans ((yup_na (by omega)).trans ((hFq1029 256 12 rfl).trans ((yup_na (by decide)).trans (yup_eq _ _ _ _)))))))))
                have es1095 : (yup (yup mq1065 (276 + k.toNat) 10 rq1065) (276 + k.toNat) 8 2) (276 + k.toNat) 0 = 4 := ((yup_nk (by decide)).trans ((yup_nk (by decide)).trans ((hFq1065 (276 + k.toNat) 0 wVr256_n276).trans ((yup_na (by omega)).trans ((yup_nk (by decide)).trans ((yup_nk (by decide)).trans ((hFq1029 (276 + k.toNat) 0 wVr256_n276).trans ((yup_na (by omega)).trans ((yup_na (by omega)).trans ((yup_nk (by decide)).trans (yup_eq _ _ _ _)))))))))))
                have es1096 : (yup (yup mq1065 (276 + k.toNat) 10 rq1065) (276 + k.toNat) 8 2) (276 + k.toNat) 2 = m (276 + k.toNat) 2 := ((yup_nk (by decide)).trans ((yup_nk (by decide)).trans ((hFq1065 (276 + k.toNat) 2 wVr256_n276).trans ((yup_na (by omega)).trans ((yup_nk (by decide)).trans ((yup_nk (by decide)).trans ((hFq1029 (276 + k.toNat) 2 wVr256_n276).trans ((yup_na (by omega)).trans ((yup_na (by omega)).trans ((yup_nk (by decide)).trans (yup_nk (by decide))))))))))))
                have tb1097 := hT.atp (276 + k.toNat) 2 ((-1)) 47 (ft276_2 (by omega))
                have es1098 : (yup (yup mq1065 (276 + k.toNat) 10 rq1065) (276 + k.toNat) 8 2) (276 + k.toNat) 3 = m (276 + k.toNat) 3 := ((yup_nk (by decide)).trans ((yup_nk (by decide)).trans ((hFq1065 (276 + k.toNat) 3 wVr256_n276).trans ((yup_na (by omega)).trans ((yup_nk (by decide)).trans ((yup_nk (by decide)).trans ((hFq1029 (276 + k.toNat) 3 wVr256_n276).trans ((yup_na (by omega)).trans ((yup_na (by omega)).trans ((yup_nk (by decide)).trans (yup_nk (by decide))))))))))))
                have tb1099 := hT.atp (276 + k.toNat) 3 ((-1)) 47 (ft276_3 (by omega))
                have es1100 : (yup (yup mq1065 (276 + k.toNat) 10 rq1065) (276 + k.toNat) 8 2) (276 + k.toNat) 6 = m 256 12 := ((yup_nk (by decide)).trans ((yup_nk (by decide)).trans ((hFq1065 (276 + k.toNat) 6 wVr256_n276).trans ((yup_na (by omega)).trans ((yup_nk (by decide)).trans ((yup_nk (by decide)).trans ((hFq1029 (276 + k.toNat) 6 wVr256_n276).trans ((yup_na (by omega)).trans ((yup_na (by omega)).trans (yup_eq _ _ _ _))))))))))
                have es1101 : (yup (yup mq1065 (276 + k.toNat) 10 rq1065) (276 + k.toNat) 8 2) (276 + k.toNat) 8 = 2 := (yup_eq _ _ _ _)
                have es1102 : (yup (yup mq1065 (276 + k.toNat) 10 rq1065) (276 + k.toNat) 8 2) (276 + k.toNat) 9 = rq1029 := ((yup_nk (by decide)).trans ((yup_nk (by decide)).trans ((hFq1065 (276 + k.toNat) 9 wVr256_n276).trans ((yup_na (by omega)).trans ((yup_nk (by decide)).trans (yup_eq _ _ _ _))))))
                have es1103 : (yup (yup mq1065 (276 + k.toNat) 10 rq1065) (276 + k.toNat) 8 2) (276 + k.toNat) 10 = rq1065 := ((yup_nk (by decide)).trans (yup_eq _ _ _ _))
                exact y_retI c66_112 (y_fit1 (by omega)) ⟨rfl, hT1074, hF1075, by omega⟩
        · refine y_iconst 62 c66_61 rfl ?_
          have es1104 : (yup (yup mq1029 (276 + k.toNat) 9 rq1029) (276 + k.toNat) 8 1) 2 2 = mq1029 2 2 := ((yup_na (by omega)).trans (yup_na (by omega)))
          have tb1105 := hTq1029.atp 2 2 0 320 rfl
          have es1106 : (yup (yup mq1029 (276 + k.toNat) 9 rq1029) (276 + k.toNat) 8 1) 256 12 = (m 256 12) + 1 := ((yup_na (by omega)).trans ((yup_na (by omega)).trans ((hFq1029 256 12 rfl).trans ((yup_na (by decide)).trans (yup_eq _ _ _ _)))))
          have es1107 : (yup (yup mq1029 (276 + k.toNat) 9 rq1029) (276 + k.toNat) 8 1) (276 + k.toNat) 0 = 4 := ((yup_nk (by decide)).trans ((yup_nk (by decide)).trans ((hFq1029 (276 + k.toNat) 0 wVr256_n276).trans ((yup_na (by omega)).trans ((yup_na (by omega)).trans ((yup_nk (by decide)).trans (yup_eq _ _ _ _)))))))
          have es1108 : (yup (yup mq1029 (276 + k.toNat) 9 rq1029) (276 + k.toNat) 8 1) (276 + k.toNat) 2 = m (276 + k.toNat) 2 := ((yup_nk (by decide)).trans ((yup_nk (by decide)).trans ((hFq1029 (276 + k.toNat) 2 wVr256_n276).trans ((yup_na (by omega)).trans ((yup_na (by omega)).trans ((yup_nk (by decide)).trans (yup_nk (by decide))))))))
          have tb1109 := hT.atp (276 + k.toNat) 2 ((-1)) 47 (ft276_2 (by omega))
          have es1110 : (yup (yup mq1029 (276 + k.toNat) 9 rq1029) (276 + k.toNat) 8 1) (276 + k.toNat) 3 = m (276 + k.toNat) 3 := ((yup_nk (by decide)).trans ((yup_nk (by decide)).trans ((hFq1029 (276 + k.toNat) 3 wVr256_n276).trans ((yup_na (by omega)).trans ((yup_na (by omega)).trans ((yup_nk (by decide)).trans (yup_nk (by decide))))))))
          have tb1111 := hT.atp (276 + k.toNat) 3 ((-1)) 47 (ft276_3 (by omega))
          have es1112 : (yup (yup mq1029 (276 + k.toNat) 9 rq1029) (276 + k.toNat) 8 1) (276 + k.toNat) 6 = m 256 12 := ((yup_nk (by decide)).trans ((yup_nk (by decide)).trans ((hFq1029 (276 + k.toNat) 6 wVr256_n276).trans ((yup_na (by omega)).trans ((yup_na (by omega)).trans (yup_eq _ _ _ _))))))
          have es1113 : (yup (yup mq1029 (276 + k.toNat) 9 rq1029) (276 + k.toNat) 8 1) (276 + k.toNat) 8 = 1 := (yup_eq _ _ _ _)
          have es1114 : (yup (yup mq1029 (276 + k.toNat) 9 rq1029) (276 + k.toNat) 8 1) (276 + k.toNat) 9 = rq1029 := ((yup_nk (by decide)).trans (yup_eq _ _ _ _))
          have es1115 : (yup (yup mq1029 (276 + k.toNat) 9 rq1029) (276 + k.toNat) 8 1) (276 + k.toNat) 10 = m (276 + k.toNat) 10 := ((yup_nk (by decide)).trans ((yup_nk (by decide)).trans ((hFq1029 (276 + k.toNat) 10 wVr256_n276).trans ((yup_na (by omega)).trans ((yup_na (by omega)).trans ((yup_nk (by decide)).trans (yup_nk (by decide))))))))
          have tb1116 := hT.atp (276 + k.toNat) 10 ((-1)) 47 (ft276_10 (by omega))
          exact y_retI c66_62 (y_fit1 (by omega)) ⟨rfl, hT1040, hF1041, by omega⟩
    · exfalso; omega
def wSv0316 (a q : Nat) : Bool := (a == 2 && (q == 2 || q == 4)) || (a == 316 && q == 15) || a == 321
def wSv316 (k a q : Nat) : Bool := ((a == 2 && (q == 2 || q == 4)) || (a == 316 && q == 15) || a == 321) || a == 336 + k
theorem wSv316_lt {k a q : Nat} (h : a < 336) : wSv316 k a q = wSv0316 a q := by
  have e : (a == 336 + k) = false := by simp; omega
  simp only [wSv316, wSv0316, e, Bool.or_false]
def wSc0316 (a q : Nat) : Bool := (a == 2 && (q == 2 || q == 4)) || (a == 316 && (q == 12 || q == 15)) || a == 321
def wSc316 (k a q : Nat) : Bool := ((a == 2 && (q == 2 || q == 4)) || (a == 316 && (q == 12 || q == 15)) || a == 321) || a == 336 + k
theorem wSc316_lt {k a q : Nat} (h : a < 336) : wSc316 k a q = wSc0316 a q := by
  have e : (a == 336 + k) = false := by simp; omega
  simp only [wSc316, wSc0316, e, Bool.or_false]
theorem wSv316_s {k j q : Nat} (h : j = k) : wSv316 k (336 + j) q = true := by
  simp [wSv316, h]
theorem wFa_wSv316 {k : Nat} : ∀ a q, wFa a q = true → wSv316 k a q = true := by
  intro a q h
  simp [wFa] at h
  simp [wSv316]
  omega
theorem wAt_wSv316 {k : Nat} : ∀ a q, wAt a q = true → wSv316 k a q = true := by
  intro a q h
  simp [wAt] at h
  simp [wSv316]
  omega
theorem wVr316_wSv316 {k : Nat} : ∀ a q, wVr316 a q = true → wSv316 k a q = true := by
  intro a q h
  simp [wVr316] at h
  simp [wSv316]
  omega
theorem wSc316_s {k j q : Nat} (h : j = k) : wSc316 k (336 + j) q = true := by
  simp [wSc316, h]
theorem wFa_wSc316 {k : Nat} : ∀ a q, wFa a q = true → wSc316 k a q = true := by
  intro a q h
  simp [wFa] at h
  simp [wSc316]
  omega
theorem wAt_wSc316 {k : Nat} : ∀ a q, wAt a q = true → wSc316 k a q = true := by
  intro a q h
  simp [wAt] at h
  simp [wSc316]
  omega
theorem wVr316_wSc316 {k : Nat} : ∀ a q, wVr316 a q = true → wSc316 k a q = true := by
  intro a q h
  simp [wVr316] at h
  simp [wSc316]
  omega
theorem wSv316_wSc316 {k : Nat} : ∀ a q, wSv316 k a q = true → wSc316 k a q = true := by
  intro a q h
  simp [wSv316] at h
  simp [wSc316]
  omega
set_option maxRecDepth 100000 in
theorem t60_316 {L : Nat} {xs : Nat → Int32} {d nn : Nat} {m : yM} {e : Int} (hT : Ty gT m) (he : 0 ≤ e ∧ e ≤ 320) (hE : m 5 e.toNat = 0) (ha : m 2 2 ≤ e) (hp : m 2 1 = 1) {k : Int} (hk : 0 ≤ k ∧ k ≤ 39) (hm : 1 ≤ m 316 10) (hlt : m 2 2 < e) : YC (gZ L xs) (d + 2) 60 [.ref 2, .ref (336 + k.toNat)] m nn (qI (fun r m' n' => n' = nn ∧ Ty gT m' ∧ Fr (wSv316 k.toNat) m m' ∧ (r = 0 ∨ r = 1) ∧ m' 2 2 ≤ e ∧ (r = 1 → m' (336 + k.toNat) 0 = 2 ∧ 0 ≤ m' (336 + k.toNat) 2 ∧ 0 ≤ m' (336 + k.toNat) 3))) := by
  have tb2 := hT.atp 2 2 0 320 rfl
  refine YC.mkB [some (.ref 2), some (.ref (336 + k.toNat))] kn60 rfl rfl ?_
  have hF : Fr (wSv316 k.toNat) m m := Fr.rf
  refine y_aload 1 c60_0 rfl rfl rfl ?_
  refine y_iconst 2 c60_1 rfl ?_
  refine y_putI 5 c60_2 rfl (ff336_0 (by omega)) (y_fit0 _) ?_
  have hT1117 := hT.up (336 + k.toNat) 0 2 0 9 (ft336_0 (by omega)) (by omega)
  have hF1118 := hF.up (336 + k.toNat) 0 2 (wSv316_s (by omega))
  refine y_aload 6 c60_5 rfl rfl rfl ?_
  refine y_aload 7 c60_6 rfl rfl rfl ?_
  refine y_getS 10 (B := 316) c60_7 rfl kf2_1 (by rw [show (yup m (336 + k.toNat) 0 2) 2 1 = 1 from by have e : (yup m (336 + k.toNat) 0 2) 2 1 = m 2 1 := (yup_na (by omega)); omega]; rfl) ?_
  refine y_getR 13 c60_10 rfl kf316_5 ?_
  refine y_aload 14 c60_13 rfl rfl rfl ?_
  refine y_getX 17 (m (336 + k.toNat) 1) c60_14 rfl (ff336_1 (by omega)) (yup_nk (by decide)) ?_
  have tb1119 := hT.atp (336 + k.toNat) 1 0 9 (ft336_1 (by omega))
  refine y_aaload 18 c60_17 rfl kr322 (by omega) ?_
  refine y_getX 21 (m (326 + (m (336 + k.toNat) 1).toNat) 2) c60_18 rfl (ff326_2 (by omega)) (yup_na (by omega)) ?_
  have tb1120 := hT.atp (326 + (m (336 + k.toNat) 1).toNat) 2 0 46 (ft326_2 (by omega))
  refine y_putI 24 c60_21 rfl (ff336_2 (by omega)) (y_fit0 _) ?_
  have hT1121 := hT1117.up (336 + k.toNat) 2 (m (326 + (m (336 + k.toNat) 1).toNat) 2) ((-1)) 47 (ft336_2 (by omega)) (by omega)
  have hF1122 := hF1118.up (336 + k.toNat) 2 (m (326 + (m (336 + k.toNat) 1).toNat) 2) (wSv316_s (by omega))
  refine y_aload 25 c60_24 rfl rfl rfl ?_
  refine y_dup 26 c60_25 rfl rfl ?_
  refine y_getX 29 (m 2 2) c60_26 rfl kf2_2 ((yup_na (by omega)).trans (yup_na (by omega))) ?_
  have tb1123 := hT.atp 2 2 0 320 rfl
  refine y_iconst 30 c60_29 rfl ?_
  refine y_iadd 31 c60_30 rfl ?_
  refine y_putI 34 c60_31 rfl kf2_2 (y_fit0 _) ?_
  have hT1124 := hT1121.up 2 2 ((m 2 2) + 1) 0 320 rfl (by omega)
  have hF1125 := hF1122.up 2 2 ((m 2 2) + 1) rfl
  refine y_aload 35 c60_34 rfl rfl rfl ?_
  refine y_aload 36 c60_35 rfl rfl rfl ?_
  have es1127 : (yup (yup (yup m (336 + k.toNat) 0 2) (336 + k.toNat) 2 (m (326 + (m (336 + k.toNat) 1).toNat) 2)) 2 2 ((m 2 2) + 1)) 2 2 = (m 2 2) + 1 := rfl
  have es1128 : (yup (yup (yup m (336 + k.toNat) 0 2) (336 + k.toNat) 2 (m (326 + (m (336 + k.toNat) 1).toNat) 2)) 2 2 ((m 2 2) + 1)) 2 1 = m 2 1 := ((yup_nk (by decide)).trans ((yup_na (by omega)).trans (yup_na (by omega))))
  have tb1129 := hT.atp 2 1 ((-1)) 1 rfl
  have es1130 : (yup (yup (yup m (336 + k.toNat) 0 2) (336 + k.toNat) 2 (m (326 + (m (336 + k.toNat) 1).toNat) 2)) 2 2 ((m 2 2) + 1)) 316 10 = m 316 10 := ((yup_na (by decide)).trans ((yup_na (by omega)).trans (yup_na (by omega))))
  have tb1131 := hT.atp 316 10 0 10 rfl
  have es1132 : (yup (yup (yup m (336 + k.toNat) 0 2) (336 + k.toNat) 2 (m (326 + (m (336 + k.toNat) 1).toNat) 2)) 2 2 ((m 2 2) + 1)) 316 15 = m 316 15 := ((yup_na (by decide)).trans ((yup_na (by omega)).trans (yup_na (by omega))))
  have tb1133 := hT.atp 316 15 0 48 rfl
  refine y_callIB 39 [.ref 2] [.ref (336 + k.toNat)] c60_36 rfl rfl rfl rfl rfl (ycanO km58 ko2) (t58_316 hT1124 he (by have e1 : (yup (yup (yup m (336 + k.toNat) 0 2) (336 + k.toNat) 2 (m (326 + (m (336 + k.toNat) 1).toNat) 2)) 2 2 ((m 2 2) + 1)) 5 e.toNat = m 5 e.toNat := ((yup_na (by decide)).trans ((yup_na (by omega)).trans (yup_na (by omega)))); omega) (by omega) (by omega) (by omega)) (fun rq1126 mq1126 nq1126 hq1126 => ?_)
  obtain ⟨rfl, hTq1126, hFq1126, hq1126⟩ := hq1126
  have hF1134 := hF1125.tr hFq1126 wVr316_wSv316
  refine y_putI 42 c60_39 rfl (ff336_3 (by omega)) (y_fit0 _) ?_
  have hT1135 := hTq1126.up (336 + k.toNat) 3 rq1126 ((-1)) 47 (ft336_3 (by omega)) (by omega)
  have hF1136 := hF1134.up (336 + k.toNat) 3 rq1126 (wSv316_s (by omega))
  refine y_aload 43 c60_42 rfl rfl rfl ?_
  refine y_getX 46 rq1126 c60_43 rfl (ff336_3 (by omega)) (yup_eq _ _ _ _) ?_
  refine y_iconst 47 c60_46 rfl ?_
  refine y_icmp 54 50 c60_47 rfl rfl (yc_eq (by omega) (by omega)) (fun hb1137 => ?_) (fun hb1137 => ?_)
  · refine y_iconst 55 c60_54 rfl ?_
    have es1138 : (yup mq1126 (336 + k.toNat) 3 rq1126) 2 2 = mq1126 2 2 := (yup_na (by omega))
    have tb1139 := hTq1126.atp 2 2 0 320 rfl
    have es1140 : (yup mq1126 (336 + k.toNat) 3 rq1126) (336 + k.toNat) 0 = 2 := ((yup_nk (by decide)).trans ((hFq1126 (336 + k.toNat) 0 wVr316_n336).trans ((yup_na (by omega)).trans ((yup_nk (by decide)).trans (yup_eq _ _ _ _)))))
    have es1141 : (yup mq1126 (336 + k.toNat) 3 rq1126) (336 + k.toNat) 2 = m (326 + (m (336 + k.toNat) 1).toNat) 2 := ((yup_nk (by decide)).trans ((hFq1126 (336 + k.toNat) 2 wVr316_n336).trans ((yup_na (by omega)).trans (yup_eq _ _ _ _))))
    have es1142 : (yup mq1126 (336 + k.toNat) 3 rq1126) (336 + k.toNat) 3 = rq1126 := (yup_eq _ _ _ _)
    exact y_retI c60_55 (y_fit1 (by omega)) ⟨rfl, hT1135, hF1136, by omega⟩
  · refine y_iconst 51 c60_50 rfl ?_
    refine y_goto 55 c60_51 rfl ?_
    have es1143 : (yup mq1126 (336 + k.toNat) 3 rq1126) 2 2 = mq1126 2 2 := (yup_na (by omega))
    have tb1144 := hTq1126.atp 2 2 0 320 rfl
    have es1145 : (yup mq1126 (336 + k.toNat) 3 rq1126) (336 + k.toNat) 0 = 2 := ((yup_nk (by decide)).trans ((hFq1126 (336 + k.toNat) 0 wVr316_n336).trans ((yup_na (by omega)).trans ((yup_nk (by decide)).trans (yup_eq _ _ _ _)))))
    have es1146 : (yup mq1126 (336 + k.toNat) 3 rq1126) (336 + k.toNat) 2 = m (326 + (m (336 + k.toNat) 1).toNat) 2 := ((yup_nk (by decide)).trans ((hFq1126 (336 + k.toNat) 2 wVr316_n336).trans ((yup_na (by omega)).trans (yup_eq _ _ _ _))))
    have es1147 : (yup mq1126 (336 + k.toNat) 3 rq1126) (336 + k.toNat) 3 = rq1126 := (yup_eq _ _ _ _)
    exact y_retI c60_55 (y_fit1 (by omega)) ⟨rfl, hT1135, hF1136, by omega⟩
set_option maxRecDepth 100000 in
theorem t62_316 {L : Nat} {xs : Nat → Int32} {d nn : Nat} {m : yM} {e : Int} (hT : Ty gT m) (he : 0 ≤ e ∧ e ≤ 320) (hE : m 5 e.toNat = 0) (ha : m 2 2 ≤ e) (hp : m 2 1 = 1) {k : Int} (hk : 0 ≤ k ∧ k ≤ 39) (hm : 1 ≤ m 316 10) {v : Int} (hv : v ≠ 0 ∧ -2147483648 ≤ v ∧ v < 2147483648) : YC (gZ L xs) (d + 1) 62 [.ref 2, yI v, .ref (336 + k.toNat)] m nn (qI (fun r m' n' => n' = nn ∧ Ty gT m' ∧ Fr (wSv316 k.toNat) m m' ∧ (r = 0 ∨ r = 1) ∧ m' 2 2 ≤ e ∧ m' (336 + k.toNat) 0 = m (336 + k.toNat) 0 ∧ m' (336 + k.toNat) 2 = m (336 + k.toNat) 2 ∧ m' (336 + k.toNat) 3 = m (336 + k.toNat) 3 ∧ m' (336 + k.toNat) 6 = m (336 + k.toNat) 6 ∧ m' (336 + k.toNat) 8 = m (336 + k.toNat) 8)) := by
  have tb2 := hT.atp 2 2 0 320 rfl
  refine YC.mkB [some (.ref 2), some (yI v), some (.ref (336 + k.toNat))] kn62 rfl rfl ?_
  have hF : Fr (wSv316 k.toNat) m m := Fr.rf
  refine y_aload 1 c62_0 rfl rfl rfl ?_
  refine y_iload 2 c62_1 rfl rfl ?_
  have tb1149 := hT.atp 2 2 0 320 rfl
  refine y_callIB 5 [.ref 2, yI v] [] c62_2 rfl rfl rfl rfl rfl (ycanO km37 ko2) (t37 hT he hE (by omega) (by omega)) (fun rq1148 mq1148 nq1148 hq1148 => ?_)
  obtain ⟨rfl, hTq1148, hFq1148, hq1148⟩ := hq1148
  have hF1150 := hF.tr hFq1148 wAt_wSv316
  refine y_if 10 8 c62_5 rfl rfl (yz_ne (by omega)) (fun hb1151 => ?_) (fun hb1151 => ?_)
  · refine y_aload 11 c62_10 rfl rfl rfl ?_
    refine y_aload 12 c62_11 rfl rfl rfl ?_
    refine y_getR 15 c62_12 rfl kf2_0 ?_
    refine y_getR 18 c62_15 rfl kf3_3 ?_
    refine y_aload 19 c62_18 rfl rfl rfl ?_
    refine y_getX 22 (mq1148 2 2) c62_19 rfl kf2_2 rfl ?_
    have tb1152 := hTq1148.atp 2 2 0 320 rfl
    refine y_iaT 23 ((-2147483648)) 2147483647 c62_22 rfl ka7 (by omega) hTq1148 rfl (fun v1153 hv1153 gv1153 => ?_)
    refine y_putI 26 c62_23 rfl (ff336_4 (by omega)) (y_fit0 _) ?_
    have hT1154 := hTq1148.up (336 + k.toNat) 4 v1153 ((-2147483648)) 2147483647 (ft336_4 (by omega)) (by omega)
    have hF1155 := hF1150.up (336 + k.toNat) 4 v1153 (wSv316_s (by omega))
    refine y_aload 27 c62_26 rfl rfl rfl ?_
    refine y_aload 28 c62_27 rfl rfl rfl ?_
    refine y_getR 31 c62_28 rfl kf2_0 ?_
    refine y_getR 34 c62_31 rfl kf3_2 ?_
    refine y_aload 35 c62_34 rfl rfl rfl ?_
    refine y_getX 38 (mq1148 2 2) c62_35 rfl kf2_2 (yup_na (by omega)) ?_
    refine y_iaT 39 0 320 c62_38 rfl ka6 (by omega) hT1154 rfl (fun v1156 hv1156 gv1156 => ?_)
    refine y_putI 42 c62_39 rfl (ff336_5 (by omega)) (y_fit0 _) ?_
    have hT1157 := hT1154.up (336 + k.toNat) 5 v1156 0 320 (ft336_5 (by omega)) (by omega)
    have hF1158 := hF1155.up (336 + k.toNat) 5 v1156 (wSv316_s (by omega))
    refine y_aload 43 c62_42 rfl rfl rfl ?_
    refine y_iconst 45 c62_43 rfl ?_
    have es1160 : (yup (yup mq1148 (336 + k.toNat) 4 v1153) (336 + k.toNat) 5 v1156) 2 2 = mq1148 2 2 := ((yup_na (by omega)).trans (yup_na (by omega)))
    refine y_callIB 48 [.ref 2, yI 11] [] c62_45 rfl rfl rfl rfl rfl (ycanO km37 ko2) (t37 hT1157 he (by have e1 : (yup (yup mq1148 (336 + k.toNat) 4 v1153) (336 + k.toNat) 5 v1156) 5 e.toNat = m 5 e.toNat := ((yup_na (by omega)).trans ((yup_na (by omega)).trans (hFq1148 5 e.toNat rfl))); omega) (by omega) (by omega)) (fun rq1159 mq1159 nq1159 hq1159 => ?_)
    obtain ⟨rfl, hTq1159, hFq1159, hq1159⟩ := hq1159
    have hF1161 := hF1158.tr hFq1159 wAt_wSv316
    have tb1162 := hTq1159.atp 2 2 0 320 rfl
    have es1163 : mq1159 (336 + k.toNat) 0 = m (336 + k.toNat) 0 := ((hFq1159 (336 + k.toNat) 0 wAt_n336).trans ((yup_nk (by decide)).trans ((yup_nk (by decide)).trans (hFq1148 (336 + k.toNat) 0 wAt_n336))))
    have tb1164 := hT.atp (336 + k.toNat) 0 0 9 (ft336_0 (by omega))
    have es1165 : mq1159 (336 + k.toNat) 2 = m (336 + k.toNat) 2 := ((hFq1159 (336 + k.toNat) 2 wAt_n336).trans ((yup_nk (by decide)).trans ((yup_nk (by decide)).trans (hFq1148 (336 + k.toNat) 2 wAt_n336))))
    have tb1166 := hT.atp (336 + k.toNat) 2 ((-1)) 47 (ft336_2 (by omega))
    have es1167 : mq1159 (336 + k.toNat) 3 = m (336 + k.toNat) 3 := ((hFq1159 (336 + k.toNat) 3 wAt_n336).trans ((yup_nk (by decide)).trans ((yup_nk (by decide)).trans (hFq1148 (336 + k.toNat) 3 wAt_n336))))
    have tb1168 := hT.atp (336 + k.toNat) 3 ((-1)) 47 (ft336_3 (by omega))
    have es1169 : mq1159 (336 + k.toNat) 6 = m (336 + k.toNat) 6 := ((hFq1159 (336 + k.toNat) 6 wAt_n336).trans ((yup_nk (by decide)).trans ((yup_nk (by decide)).trans (hFq1148 (336 + k.toNat) 6 wAt_n336))))
    have tb1170 := hT.atp (336 + k.toNat) 6 ((-1)) 11 (ft336_6 (by omega))
    have es1171 : mq1159 (336 + k.toNat) 8 = m (336 + k.toNat) 8 := ((hFq1159 (336 + k.toNat) 8 wAt_n336).trans ((yup_nk (by decide)).trans ((yup_nk (by decide)).trans (hFq1148 (336 + k.toNat) 8 wAt_n336))))
    have tb1172 := hT.atp (336 + k.toNat) 8 0 2 (ft336_8 (by omega))
    exact y_retI c62_48 (y_fit1 (by omega)) ⟨rfl, hTq1159, hF1161, by omega⟩
  · refine y_iconst 9 c62_8 rfl ?_
    have tb1173 := hTq1148.atp 2 2 0 320 rfl
    have es1174 : mq1148 (336 + k.toNat) 0 = m (336 + k.toNat) 0 := (hFq1148 (336 + k.toNat) 0 wAt_n336)
    have tb1175 := hT.atp (336 + k.toNat) 0 0 9 (ft336_0 (by omega))
    have es1176 : mq1148 (336 + k.toNat) 2 = m (336 + k.toNat) 2 := (hFq1148 (336 + k.toNat) 2 wAt_n336)
    have tb1177 := hT.atp (336 + k.toNat) 2 ((-1)) 47 (ft336_2 (by omega))
    have es1178 : mq1148 (336 + k.toNat) 3 = m (336 + k.toNat) 3 := (hFq1148 (336 + k.toNat) 3 wAt_n336)
    have tb1179 := hT.atp (336 + k.toNat) 3 ((-1)) 47 (ft336_3 (by omega))
    have es1180 : mq1148 (336 + k.toNat) 6 = m (336 + k.toNat) 6 := (hFq1148 (336 + k.toNat) 6 wAt_n336)
    have tb1181 := hT.atp (336 + k.toNat) 6 ((-1)) 11 (ft336_6 (by omega))
    have es1182 : mq1148 (336 + k.toNat) 8 = m (336 + k.toNat) 8 := (hFq1148 (336 + k.toNat) 8 wAt_n336)
    have tb1183 := hT.atp (336 + k.toNat) 8 0 2 (ft336_8 (by omega))
    exact y_retI c62_9 (y_fit1 (by omega)) ⟨rfl, hTq1148, hF1150, by omega⟩
set_option maxRecDepth 100000 in
theorem t67_316 {L : Nat} {xs : Nat → Int32} {d nn : Nat} {m : yM} {e : Int} (hT : Ty gT m) (he : 0 ≤ e ∧ e ≤ 320) (hE : m 5 e.toNat = 0) (ha : m 2 2 ≤ e) (hp : m 2 1 = 1) {k : Int} (hk : 0 ≤ k ∧ k ≤ 39) (hm : 1 ≤ m 316 10) (hs : 0 ≤ m (336 + k.toNat) 3) : YC (gZ L xs) (d + 2) 67 [.ref 2, .ref (336 + k.toNat)] m nn (qI (fun r m' n' => n' = nn ∧ Ty gT m' ∧ Fr (wSv316 k.toNat) m m' ∧ (r = 0 ∨ r = 1) ∧ m' 2 2 ≤ e ∧ (r = 1 → m' (336 + k.toNat) 0 = 3 ∧ 0 ≤ m' (336 + k.toNat) 2 ∧ 0 ≤ m' (336 + k.toNat) 3))) := by
  have tb2 := hT.atp 2 2 0 320 rfl
  refine YC.mkB [some (.ref 2), some (.ref (336 + k.toNat))] kn67 rfl rfl ?_
  have hF : Fr (wSv316 k.toNat) m m := Fr.rf
  refine y_aload 1 c67_0 rfl rfl rfl ?_
  refine y_iconst 2 c67_1 rfl ?_
  refine y_putI 5 c67_2 rfl (ff336_0 (by omega)) (y_fit0 _) ?_
  have hT1184 := hT.up (336 + k.toNat) 0 3 0 9 (ft336_0 (by omega)) (by omega)
  have hF1185 := hF.up (336 + k.toNat) 0 3 (wSv316_s (by omega))
  refine y_aload 6 c67_5 rfl rfl rfl ?_
  refine y_aload 7 c67_6 rfl rfl rfl ?_
  refine y_getX 10 (m (336 + k.toNat) 3) c67_7 rfl (ff336_3 (by omega)) (yup_nk (by decide)) ?_
  have tb1186 := hT.atp (336 + k.toNat) 3 ((-1)) 47 (ft336_3 (by omega))
  refine y_putI 13 c67_10 rfl (ff336_2 (by omega)) (y_fit0 _) ?_
  have hT1187 := hT1184.up (336 + k.toNat) 2 (m (336 + k.toNat) 3) ((-1)) 47 (ft336_2 (by omega)) (by omega)
  have hF1188 := hF1185.up (336 + k.toNat) 2 (m (336 + k.toNat) 3) (wSv316_s (by omega))
  refine y_aload 14 c67_13 rfl rfl rfl ?_
  refine y_iconst 16 c67_14 rfl ?_
  have es1190 : (yup (yup m (336 + k.toNat) 0 3) (336 + k.toNat) 2 (m (336 + k.toNat) 3)) 2 2 = m 2 2 := ((yup_na (by omega)).trans (yup_na (by omega)))
  have tb1191 := hT.atp 2 2 0 320 rfl
  refine y_callIB 19 [.ref 2, yI 61] [] c67_16 rfl rfl rfl rfl rfl (ycanO km37 ko2) (t37 hT1187 he (by have e1 : (yup (yup m (336 + k.toNat) 0 3) (336 + k.toNat) 2 (m (336 + k.toNat) 3)) 5 e.toNat = m 5 e.toNat := ((yup_na (by omega)).trans (yup_na (by omega))); omega) (by omega) (by omega)) (fun rq1189 mq1189 nq1189 hq1189 => ?_)
  obtain ⟨rfl, hTq1189, hFq1189, hq1189⟩ := hq1189
  have hF1192 := hF1188.tr hFq1189 wAt_wSv316
  refine y_if 24 22 c67_19 rfl rfl (yz_ne (by omega)) (fun hb1193 => ?_) (fun hb1193 => ?_)
  · refine y_aload 25 c67_24 rfl rfl rfl ?_
    refine y_aload 26 c67_25 rfl rfl rfl ?_
    have tb1195 := hTq1189.atp 2 2 0 320 rfl
    have es1196 : mq1189 2 1 = m 2 1 := ((hFq1189 2 1 rfl).trans ((yup_na (by omega)).trans (yup_na (by omega))))
    have tb1197 := hT.atp 2 1 ((-1)) 1 rfl
    have es1198 : mq1189 316 10 = m 316 10 := ((hFq1189 316 10 rfl).trans ((yup_na (by omega)).trans (yup_na (by omega))))
    have tb1199 := hT.atp 316 10 0 10 rfl
    have es1200 : mq1189 316 15 = m 316 15 := ((hFq1189 316 15 rfl).trans ((yup_na (by omega)).trans (yup_na (by omega))))
    have tb1201 := hT.atp 316 15 0 48 rfl
    refine y_callIB 29 [.ref 2] [.ref (336 + k.toNat)] c67_26 rfl rfl rfl rfl rfl (ycanO km58 ko2) (t58_316 hTq1189 he (by have e1 : mq1189 5 e.toNat = m 5 e.toNat := ((hFq1189 5 e.toNat rfl).trans ((yup_na (by omega)).trans (yup_na (by omega)))); omega) (by omega) (by omega) (by omega)) (fun rq1194 mq1194 nq1194 hq1194 => ?_)
    obtain ⟨rfl, hTq1194, hFq1194, hq1194⟩ := hq1194
    have hF1202 := hF1192.tr hFq1194 wVr316_wSv316
    refine y_putI 32 c67_29 rfl (ff336_3 (by omega)) (y_fit0 _) ?_
    have hT1203 := hTq1194.up (336 + k.toNat) 3 rq1194 ((-1)) 47 (ft336_3 (by omega)) (by omega)
    have hF1204 := hF1202.up (336 + k.toNat) 3 rq1194 (wSv316_s (by omega))
    refine y_aload 33 c67_32 rfl rfl rfl ?_
    refine y_getX 36 rq1194 c67_33 rfl (ff336_3 (by omega)) (yup_eq _ _ _ _) ?_
    refine y_iconst 37 c67_36 rfl ?_
    refine y_icmp 44 40 c67_37 rfl rfl (yc_eq (by omega) (by omega)) (fun hb1205 => ?_) (fun hb1205 => ?_)
    · refine y_iconst 45 c67_44 rfl ?_
      have es1206 : (yup mq1194 (336 + k.toNat) 3 rq1194) 2 2 = mq1194 2 2 := (yup_na (by omega))
      have tb1207 := hTq1194.atp 2 2 0 320 rfl
      have es1208 : (yup mq1194 (336 + k.toNat) 3 rq1194) (336 + k.toNat) 0 = 3 := ((yup_nk (by decide)).trans ((hFq1194 (336 + k.toNat) 0 wVr316_n336).trans ((hFq1189 (336 + k.toNat) 0 wAt_n336).trans ((yup_nk (by decide)).trans (yup_eq _ _ _ _)))))
      have es1209 : (yup mq1194 (336 + k.toNat) 3 rq1194) (336 + k.toNat) 2 = m (336 + k.toNat) 3 := ((yup_nk (by decide)).trans ((hFq1194 (336 + k.toNat) 2 wVr316_n336).trans ((hFq1189 (336 + k.toNat) 2 wAt_n336).trans (yup_eq _ _ _ _))))
      have es1210 : (yup mq1194 (336 + k.toNat) 3 rq1194) (336 + k.toNat) 3 = rq1194 := (yup_eq _ _ _ _)
      exact y_retI c67_45 (y_fit1 (by omega)) ⟨rfl, hT1203, hF1204, by omega⟩
    · refine y_iconst 41 c67_40 rfl ?_
      refine y_goto 45 c67_41 rfl ?_
      have es1211 : (yup mq1194 (336 + k.toNat) 3 rq1194) 2 2 = mq1194 2 2 := (yup_na (by omega))
      have tb1212 := hTq1194.atp 2 2 0 320 rfl
      have es1213 : (yup mq1194 (336 + k.toNat) 3 rq1194) (336 + k.toNat) 0 = 3 := ((yup_nk (by decide)).trans ((hFq1194 (336 + k.toNat) 0 wVr316_n336).trans ((hFq1189 (336 + k.toNat) 0 wAt_n336).trans ((yup_nk (by decide)).trans (yup_eq _ _ _ _)))))
      have es1214 : (yup mq1194 (336 + k.toNat) 3 rq1194) (336 + k.toNat) 2 = m (336 + k.toNat) 3 := ((yup_nk (by decide)).trans ((hFq1194 (336 + k.toNat) 2 wVr316_n336).trans ((hFq1189 (336 + k.toNat) 2 wAt_n336).trans (yup_eq _ _ _ _))))
      have es1215 : (yup mq1194 (336 + k.toNat) 3 rq1194) (336 + k.toNat) 3 = rq1194 := (yup_eq _ _ _ _)
      exact y_retI c67_45 (y_fit1 (by omega)) ⟨rfl, hT1203, hF1204, by omega⟩
  · refine y_iconst 23 c67_22 rfl ?_
    have tb1216 := hTq1189.atp 2 2 0 320 rfl
    have es1217 : mq1189 (336 + k.toNat) 0 = 3 := ((hFq1189 (336 + k.toNat) 0 wAt_n336).trans ((yup_nk (by decide)).trans (yup_eq _ _ _ _)))
    have es1218 : mq1189 (336 + k.toNat) 2 = m (336 + k.toNat) 3 := ((hFq1189 (336 + k.toNat) 2 wAt_n336).trans (yup_eq _ _ _ _))
    have es1219 : mq1189 (336 + k.toNat) 3 = m (336 + k.toNat) 3 := ((hFq1189 (336 + k.toNat) 3 wAt_n336).trans ((yup_nk (by decide)).trans (yup_nk (by decide))))
    exact y_retI c67_23 (y_fit1 (by omega)) ⟨rfl, hTq1189, hF1192, by omega⟩
set_option maxRecDepth 100000 in
theorem t66_316 {L : Nat} {xs : Nat → Int32} {d nn : Nat} {m : yM} {e : Int} (hT : Ty gT m) (he : 0 ≤ e ∧ e ≤ 320) (hE : m 5 e.toNat = 0) (ha : m 2 2 ≤ e) (hp : m 2 1 = 1) {k : Int} (hk : 0 ≤ k ∧ k ≤ 39) (hm : 1 ≤ m 316 10) (h8 : m (336 + k.toNat) 8 = 0) (hlt : m 2 2 < e) : YC (gZ L xs) (d + 2) 66 [.ref 2, .ref (336 + k.toNat)] m nn (qI (fun r m' n' => n' = nn ∧ Ty gT m' ∧ Fr (wSc316 k.toNat) m m' ∧ (r = 0 ∨ r = 1) ∧ m' 2 2 ≤ e ∧ m 316 12 ≤ m' 316 12 ∧ (r = 1 → m' (336 + k.toNat) 0 = 4 ∧ m' (336 + k.toNat) 2 = m (336 + k.toNat) 2 ∧ m' (336 + k.toNat) 3 = m (336 + k.toNat) 3 ∧ m' (336 + k.toNat) 6 = m 316 12 ∧ m' 316 12 = m 316 12 + 1 ∧ (1 ≤ m' (336 + k.toNat) 8 → 0 ≤ m' (336 + k.toNat) 9) ∧ (2 ≤ m' (336 + k.toNat) 8 → 0 ≤ m' (336 + k.toNat) 10)))) := by
  have tb2 := hT.atp 2 2 0 320 rfl
  refine YC.mkB [some (.ref 2), some (.ref (336 + k.toNat))] kn66 rfl rfl ?_
  have hF : Fr (wSc316 k.toNat) m m := Fr.rf
  refine y_aload 1 c66_0 rfl rfl rfl ?_
  refine y_getS 4 (B := 316) c66_1 rfl kf2_1 (by rw [show m 2 1 = 1 from by have e : m 2 1 = m 2 1 := rfl; omega]; rfl) ?_
  refine y_aload 5 c66_4 rfl rfl rfl ?_
  have tb1221 := hT.atp 316 12 0 12 rfl
  refine y_callIB 8 [.ref 316, .ref (336 + k.toNat)] [] c66_5 rfl rfl rfl rfl rfl (ycanO km65 ko316) (t65_316 hT (by omega)) (fun rq1220 mq1220 nq1220 hq1220 => ?_)
  obtain ⟨rfl, hq1220⟩ := hq1220
  rcases hq1220 with ⟨rfl, rfl, hq1220⟩ | ⟨rfl, rfl, hq1220⟩
  · refine y_if 21 11 c66_8 rfl rfl (yz_ne (by omega)) (fun hb1222 => ?_) (fun hb1222 => ?_)
    · exfalso; omega
    · refine y_aload 12 c66_11 rfl rfl rfl ?_
      refine y_aload 13 c66_12 rfl rfl rfl ?_
      refine y_getX 16 (m (336 + k.toNat) 5) c66_13 rfl (ff336_5 (by omega)) rfl ?_
      have tb1223 := hT.atp (336 + k.toNat) 5 0 320 (ft336_5 (by omega))
      refine y_putI 19 c66_16 rfl kf2_4 (y_fit0 _) ?_
      have hT1224 := hT.up 2 4 (m (336 + k.toNat) 5) 0 320 rfl (by omega)
      have hF1225 := hF.up 2 4 (m (336 + k.toNat) 5) rfl
      refine y_iconst 20 c66_19 rfl ?_
      have es1226 : (yup m 2 4 (m (336 + k.toNat) 5)) 2 2 = m 2 2 := rfl
      have tb1227 := hT.atp 2 2 0 320 rfl
      have es1228 : (yup m 2 4 (m (336 + k.toNat) 5)) 316 12 = m 316 12 := rfl
      have es1229 : (yup m 2 4 (m (336 + k.toNat) 5)) (336 + k.toNat) 0 = m (336 + k.toNat) 0 := (yup_na (by omega))
      have tb1230 := hT.atp (336 + k.toNat) 0 0 9 (ft336_0 (by omega))
      have es1231 : (yup m 2 4 (m (336 + k.toNat) 5)) (336 + k.toNat) 2 = m (336 + k.toNat) 2 := (yup_na (by omega))
      have tb1232 := hT.atp (336 + k.toNat) 2 ((-1)) 47 (ft336_2 (by omega))
      have es1233 : (yup m 2 4 (m (336 + k.toNat) 5)) (336 + k.toNat) 3 = m (336 + k.toNat) 3 := (yup_na (by omega))
      have tb1234 := hT.atp (336 + k.toNat) 3 ((-1)) 47 (ft336_3 (by omega))
      have es1235 : (yup m 2 4 (m (336 + k.toNat) 5)) (336 + k.toNat) 6 = m (336 + k.toNat) 6 := (yup_na (by omega))
      have tb1236 := hT.atp (336 + k.toNat) 6 ((-1)) 11 (ft336_6 (by omega))
      have es1237 : (yup m 2 4 (m (336 + k.toNat) 5)) (336 + k.toNat) 8 = m (336 + k.toNat) 8 := (yup_na (by omega))
      have tb1238 := hT.atp (336 + k.toNat) 8 0 2 (ft336_8 (by omega))
      have es1239 : (yup m 2 4 (m (336 + k.toNat) 5)) (336 + k.toNat) 9 = m (336 + k.toNat) 9 := (yup_na (by omega))
      have tb1240 := hT.atp (336 + k.toNat) 9 ((-1)) 47 (ft336_9 (by omega))
      have es1241 : (yup m 2 4 (m (336 + k.toNat) 5)) (336 + k.toNat) 10 = m (336 + k.toNat) 10 := (yup_na (by omega))
      have tb1242 := hT.atp (336 + k.toNat) 10 ((-1)) 47 (ft336_10 (by omega))
      exact y_retI c66_20 (y_fit1 (by omega)) ⟨rfl, hT1224, hF1225, by omega⟩
  · have hT1243 := hT.up (336 + k.toNat) 0 4 0 9 (ft336_0 (by omega)) (by omega)
    have hF1244 := hF.up (336 + k.toNat) 0 4 (wSc316_s (by omega))
    have hT1245 := hT1243.up (336 + k.toNat) 6 (m 316 12) ((-1)) 11 (ft336_6 (by omega)) (by omega)
    have hF1246 := hF1244.up (336 + k.toNat) 6 (m 316 12) (wSc316_s (by omega))
    have hT1247 := hT1245.up 316 12 ((m 316 12) + 1) 0 12 rfl (by omega)
    have hF1248 := hF1246.up 316 12 ((m 316 12) + 1) rfl
    refine y_if 21 11 c66_8 rfl rfl (yz_ne (by omega)) (fun hb1249 => ?_) (fun hb1249 => ?_)
    · refine y_aload 22 c66_21 rfl rfl rfl ?_
      refine y_dup 23 c66_22 rfl rfl ?_
      refine y_getX 26 (m 2 2) c66_23 rfl kf2_2 ((yup_na (by decide)).trans ((yup_na (by omega)).trans (yup_na (by omega)))) ?_
      have tb1250 := hT.atp 2 2 0 320 rfl
      refine y_iconst 27 c66_26 rfl ?_
      refine y_iadd 28 c66_27 rfl ?_
      refine y_putI 31 c66_28 rfl kf2_2 (y_fit0 _) ?_
      have hT1251 := hT1247.up 2 2 ((m 2 2) + 1) 0 320 rfl (by omega)
      have hF1252 := hF1248.up 2 2 ((m 2 2) + 1) rfl
      refine y_aload 32 c66_31 rfl rfl rfl ?_
      have es1253 : (yup (yup (yup (yup m (336 + k.toNat) 0 4) (336 + k.toNat) 6 (m 316 12)) 316 12 ((m 316 12) + 1)) 2 2 ((m 2 2) + 1)) 2 2 = (m 2 2) + 1 := rfl
      refine y_callP 35 [.ref 2] [] c66_32 rfl rfl rfl rfl rfl (ycanO km38 ko2) (t38 hT1251 he (by have e1 : (yup (yup (yup (yup m (336 + k.toNat) 0 4) (336 + k.toNat) 6 (m 316 12)) 316 12 ((m 316 12) + 1)) 2 2 ((m 2 2) + 1)) 5 e.toNat = m 5 e.toNat := ((yup_na (by decide)).trans ((yup_na (by decide)).trans ((yup_na (by omega)).trans (yup_na (by omega))))); omega) (by omega)) (fun r1254 hr1254 => ?_)
      refine y_iconst 37 c66_35 rfl ?_
      refine y_icmp 63 40 c66_37 rfl rfl (yc_eq (by omega) (by omega)) (fun hb1255 => ?_) (fun hb1255 => ?_)
      · refine y_aload 64 c66_63 rfl rfl rfl ?_
        refine y_getX 67 (m (336 + k.toNat) 8) c66_64 rfl (ff336_8 (by omega)) ((yup_na (by omega)).trans ((yup_na (by omega)).trans ((yup_nk (by decide)).trans (yup_nk (by decide))))) ?_
        have tb1256 := hT.atp (336 + k.toNat) 8 0 2 (ft336_8 (by omega))
        refine y_iconst 68 c66_67 rfl ?_
        refine y_icmp 113 71 c66_68 rfl rfl (yc_ne (by omega) (by omega)) (fun hb1257 => ?_) (fun hb1257 => ?_)
        · refine y_aload 114 c66_113 rfl rfl rfl ?_
          refine y_iconst 116 c66_114 rfl ?_
          have es1259 : (yup (yup (yup (yup m (336 + k.toNat) 0 4) (336 + k.toNat) 6 (m 316 12)) 316 12 ((m 316 12) + 1)) 2 2 ((m 2 2) + 1)) 2 2 = (m 2 2) + 1 := rfl
          refine y_callIB 119 [.ref 2, yI 41] [] c66_116 rfl rfl rfl rfl rfl (ycanO km37 ko2) (t37 hT1251 he (by have e1 : (yup (yup (yup (yup m (336 + k.toNat) 0 4) (336 + k.toNat) 6 (m 316 12)) 316 12 ((m 316 12) + 1)) 2 2 ((m 2 2) + 1)) 5 e.toNat = m 5 e.toNat := ((yup_na (by decide)).trans ((yup_na (by decide)).trans ((yup_na (by omega)).trans (yup_na (by omega))))); omega) (by omega) (by omega)) (fun rq1258 mq1258 nq1258 hq1258 => ?_)
          obtain ⟨rfl, hTq1258, hFq1258, hq1258⟩ := hq1258
          have hF1260 := hF1252.tr hFq1258 wAt_wSc316
          have tb1261 := hTq1258.atp 2 2 0 320 rfl
          have es1262 : mq1258 316 12 = (m 316 12) + 1 := ((hFq1258 316 12 rfl).trans ((yup_na (by decide)).trans (yup_eq _ _ _ _)))
          have es1263 : mq1258 (336 + k.toNat) 0 = 4 := ((hFq1258 (336 + k.toNat) 0 wAt_n336).trans ((yup_na (by omega)).trans ((yup_na (by omega)).trans ((yup_nk (by decide)).trans (yup_eq _ _ _ _)))))
          have es1264 : mq1258 (336 + k.toNat) 2 = m (336 + k.toNat) 2 := ((hFq1258 (336 + k.toNat) 2 wAt_n336).trans ((yup_na (by omega)).trans ((yup_na (by omega)).trans ((yup_nk (by decide)).trans (yup_nk (by decide))))))
          have tb1265 := hT.atp (336 + k.toNat) 2 ((-1)) 47 (ft336_2 (by omega))
          have es1266 : mq1258 (336 + k.toNat) 3 = m (336 + k.toNat) 3 := ((hFq1258 (336 + k.toNat) 3 wAt_n336).trans ((yup_na (by omega)).trans ((yup_na (by omega)).trans ((yup_nk (by decide)).trans (yup_nk (by decide))))))
          have tb1267 := hT.atp (336 + k.toNat) 3 ((-1)) 47 (ft336_3 (by omega))
          have es1268 : mq1258 (336 + k.toNat) 6 = m 316 12 := ((hFq1258 (336 + k.toNat) 6 wAt_n336).trans ((yup_na (by omega)).trans ((yup_na (by omega)).trans (yup_eq _ _ _ _))))
          have es1269 : mq1258 (336 + k.toNat) 8 = m (336 + k.toNat) 8 := ((hFq1258 (336 + k.toNat) 8 wAt_n336).trans ((yup_na (by omega)).trans ((yup_na (by omega)).trans ((yup_nk (by decide)).trans (yup_nk (by decide))))))
          have es1270 : mq1258 (336 + k.toNat) 9 = m (336 + k.toNat) 9 := ((hFq1258 (336 + k.toNat) 9 wAt_n336).trans ((yup_na (by omega)).trans ((yup_na (by omega)).trans ((yup_nk (by decide)).trans (yup_nk (by decide))))))
          have tb1271 := hT.atp (336 + k.toNat) 9 ((-1)) 47 (ft336_9 (by omega))
          have es1272 : mq1258 (336 + k.toNat) 10 = m (336 + k.toNat) 10 := ((hFq1258 (336 + k.toNat) 10 wAt_n336).trans ((yup_na (by omega)).trans ((yup_na (by omega)).trans ((yup_nk (by decide)).trans (yup_nk (by decide))))))
          have tb1273 := hT.atp (336 + k.toNat) 10 ((-1)) 47 (ft336_10 (by omega))
          exact y_retI c66_119 (y_fit1 (by omega)) ⟨rfl, hTq1258, hF1260, by omega⟩
        · refine y_aload 72 c66_71 rfl rfl rfl ?_
          have es1274 : (yup (yup (yup (yup m (336 + k.toNat) 0 4) (336 + k.toNat) 6 (m 316 12)) 316 12 ((m 316 12) + 1)) 2 2 ((m 2 2) + 1)) 2 2 = (m 2 2) + 1 := rfl
          refine y_callP 75 [.ref 2] [] c66_72 rfl rfl rfl rfl rfl (ycanO km38 ko2) (t38 hT1251 he (by have e1 : (yup (yup (yup (yup m (336 + k.toNat) 0 4) (336 + k.toNat) 6 (m 316 12)) 316 12 ((m 316 12) + 1)) 2 2 ((m 2 2) + 1)) 5 e.toNat = m 5 e.toNat := ((yup_na (by decide)).trans ((yup_na (by decide)).trans ((yup_na (by omega)).trans (yup_na (by omega))))); omega) (by omega)) (fun r1275 hr1275 => ?_)
          refine y_iconst 77 c66_75 rfl ?_
          refine y_icmp 113 80 c66_77 rfl rfl (yc_ne (by omega) (by omega)) (fun hb1276 => ?_) (fun hb1276 => ?_)
          · refine y_aload 114 c66_113 rfl rfl rfl ?_
            refine y_iconst 116 c66_114 rfl ?_
            have es1278 : (yup (yup (yup (yup m (336 + k.toNat) 0 4) (336 + k.toNat) 6 (m 316 12)) 316 12 ((m 316 12) + 1)) 2 2 ((m 2 2) + 1)) 2 2 = (m 2 2) + 1 := rfl
            refine y_callIB 119 [.ref 2, yI 41] [] c66_116 rfl rfl rfl rfl rfl (ycanO km37 ko2) (t37 hT1251 he (by have e1 : (yup (yup (yup (yup m (336 + k.toNat) 0 4) (336 + k.toNat) 6 (m 316 12)) 316 12 ((m 316 12) + 1)) 2 2 ((m 2 2) + 1)) 5 e.toNat = m 5 e.toNat := ((yup_na (by decide)).trans ((yup_na (by decide)).trans ((yup_na (by omega)).trans (yup_na (by omega))))); omega) (by omega) (by omega)) (fun rq1277 mq1277 nq1277 hq1277 => ?_)
            obtain ⟨rfl, hTq1277, hFq1277, hq1277⟩ := hq1277
            have hF1279 := hF1252.tr hFq1277 wAt_wSc316
            have tb1280 := hTq1277.atp 2 2 0 320 rfl
            have es1281 : mq1277 316 12 = (m 316 12) + 1 := ((hFq1277 316 12 rfl).trans ((yup_na (by decide)).trans (yup_eq _ _ _ _)))
            have es1282 : mq1277 (336 + k.toNat) 0 = 4 := ((hFq1277 (336 + k.toNat) 0 wAt_n336).trans ((yup_na (by omega)).trans ((yup_na (by omega)).trans ((yup_nk (by decide)).trans (yup_eq _ _ _ _)))))
            have es1283 : mq1277 (336 + k.toNat) 2 = m (336 + k.toNat) 2 := ((hFq1277 (336 + k.toNat) 2 wAt_n336).trans ((yup_na (by omega)).trans ((yup_na (by omega)).trans ((yup_nk (by decide)).trans (yup_nk (by decide))))))
            have tb1284 := hT.atp (336 + k.toNat) 2 ((-1)) 47 (ft336_2 (by omega))
            have es1285 : mq1277 (336 + k.toNat) 3 = m (336 + k.toNat) 3 := ((hFq1277 (336 + k.toNat) 3 wAt_n336).trans ((yup_na (by omega)).trans ((yup_na (by omega)).trans ((yup_nk (by decide)).trans (yup_nk (by decide))))))
            have tb1286 := hT.atp (336 + k.toNat) 3 ((-1)) 47 (ft336_3 (by omega))
            have es1287 : mq1277 (336 + k.toNat) 6 = m 316 12 := ((hFq1277 (336 + k.toNat) 6 wAt_n336).trans ((yup_na (by omega)).trans ((yup_na (by omega)).trans (yup_eq _ _ _ _))))
            have es1288 : mq1277 (336 + k.toNat) 8 = m (336 + k.toNat) 8 := ((hFq1277 (336 + k.toNat) 8 wAt_n336).trans ((yup_na (by omega)).trans ((yup_na (by omega)).trans ((yup_nk (by decide)).trans (yup_nk (by decide))))))
            have es1289 : mq1277 (336 + k.toNat) 9 = m (336 + k.toNat) 9 := ((hFq1277 (336 + k.toNat) 9 wAt_n336).trans ((yup_na (by omega)).trans ((yup_na (by omega)).trans ((yup_nk (by decide)).trans (yup_nk (by decide))))))
            have tb1290 := hT.atp (336 + k.toNat) 9 ((-1)) 47 (ft336_9 (by omega))
            have es1291 : mq1277 (336 + k.toNat) 10 = m (336 + k.toNat) 10 := ((hFq1277 (336 + k.toNat) 10 wAt_n336).trans ((yup_na (by omega)).trans ((yup_na (by omega)).trans ((yup_nk (by decide)).trans (yup_nk (by decide))))))
            have tb1292 := hT.atp (336 + k.toNat) 10 ((-1)) 47 (ft336_10 (by omega))
            exact y_retI c66_119 (y_fit1 (by omega)) ⟨rfl, hTq1277, hF1279, by omega⟩
          · refine y_aload 81 c66_80 rfl rfl rfl ?_
            refine y_dup 82 c66_81 rfl rfl ?_
            refine y_getX 85 ((m 2 2) + 1) c66_82 rfl kf2_2 rfl ?_
            refine y_iconst 86 c66_85 rfl ?_
            refine y_iadd 87 c66_86 rfl ?_
            refine y_putI 90 c66_87 rfl kf2_2 (y_fit0 _) ?_
            have hT1293 := hT1251.up 2 2 (((m 2 2) + 1) + 1) 0 320 rfl (by omega)
            have hF1294 := hF1252.up 2 2 (((m 2 2) + 1) + 1) rfl
            refine y_aload 91 c66_90 rfl rfl rfl ?_
            refine y_aload 92 c66_91 rfl rfl rfl ?_
            have es1296 : (yup (yup (yup (yup (yup m (336 + k.toNat) 0 4) (336 + k.toNat) 6 (m 316 12)) 316 12 ((m 316 12) + 1)) 2 2 ((m 2 2) + 1)) 2 2 (((m 2 2) + 1) + 1)) 2 2 = ((m 2 2) + 1) + 1 := rfl
            have es1297 : (yup (yup (yup (yup (yup m (336 + k.toNat) 0 4) (336 + k.toNat) 6 (m 316 12)) 316 12 ((m 316 12) + 1)) 2 2 ((m 2 2) + 1)) 2 2 (((m 2 2) + 1) + 1)) 2 1 = m 2 1 := ((yup_nk (by decide)).trans ((yup_nk (by decide)).trans ((yup_na (by decide)).trans ((yup_na (by omega)).trans (yup_na (by omega))))))
            have tb1298 := hT.atp 2 1 ((-1)) 1 rfl
            have es1299 : (yup (yup (yup (yup (yup m (336 + k.toNat) 0 4) (336 + k.toNat) 6 (m 316 12)) 316 12 ((m 316 12) + 1)) 2 2 ((m 2 2) + 1)) 2 2 (((m 2 2) + 1) + 1)) 316 10 = m 316 10 := ((yup_na (by decide)).trans ((yup_na (by decide)).trans ((yup_nk (by decide)).trans ((yup_na (by omega)).trans (yup_na (by omega))))))
            have tb1300 := hT.atp 316 10 0 10 rfl
            have es1301 : (yup (yup (yup (yup (yup m (336 + k.toNat) 0 4) (336 + k.toNat) 6 (m 316 12)) 316 12 ((m 316 12) + 1)) 2 2 ((m 2 2) + 1)) 2 2 (((m 2 2) + 1) + 1)) 316 15 = m 316 15 := ((yup_na (by decide)).trans ((yup_na (by decide)).trans ((yup_nk (by decide)).trans ((yup_na (by omega)).trans (yup_na (by omega))))))
            have tb1302 := hT.atp 316 15 0 48 rfl
            refine y_callIB 95 [.ref 2] [.ref (336 + k.toNat)] c66_92 rfl rfl rfl rfl rfl (ycanO km58 ko2) (t58_316 hT1293 he (by have e1 : (yup (yup (yup (yup (yup m (336 + k.toNat) 0 4) (336 + k.toNat) 6 (m 316 12)) 316 12 ((m 316 12) + 1)) 2 2 ((m 2 2) + 1)) 2 2 (((m 2 2) + 1) + 1)) 5 e.toNat = m 5 e.toNat := ((yup_na (by decide)).trans ((yup_na (by decide)).trans ((yup_na (by decide)).trans ((yup_na (by omega)).trans (yup_na (by omega)))))); omega) (by omega) (by omega) (by omega)) (fun rq1295 mq1295 nq1295 hq1295 => ?_)
            obtain ⟨rfl, hTq1295, hFq1295, hq1295⟩ := hq1295
            have hF1303 := hF1294.tr hFq1295 wVr316_wSc316
            refine y_putI 98 c66_95 rfl (ff336_10 (by omega)) (y_fit0 _) ?_
            have hT1304 := hTq1295.up (336 + k.toNat) 10 rq1295 ((-1)) 47 (ft336_10 (by omega)) (by omega)
            have hF1305 := hF1303.up (336 + k.toNat) 10 rq1295 (wSc316_s (by omega))
            refine y_aload 99 c66_98 rfl rfl rfl ?_
            refine y_iconst 100 c66_99 rfl ?_
            refine y_putI 103 c66_100 rfl (ff336_8 (by omega)) (y_fit0 _) ?_
            have hT1306 := hT1304.up (336 + k.toNat) 8 2 0 2 (ft336_8 (by omega)) (by omega)
            have hF1307 := hF1305.up (336 + k.toNat) 8 2 (wSc316_s (by omega))
            refine y_aload 104 c66_103 rfl rfl rfl ?_
            refine y_getX 107 rq1295 c66_104 rfl (ff336_10 (by omega)) ((yup_nk (by decide)).trans (yup_eq _ _ _ _)) ?_
            refine y_iconst 108 c66_107 rfl ?_
            refine y_icmp 113 111 c66_108 rfl rfl (yc_ne (by omega) (by omega)) (fun hb1308 => ?_) (fun hb1308 => ?_)
            · refine y_aload 114 c66_113 rfl rfl rfl ?_
              refine y_iconst 116 c66_114 rfl ?_
              have es1310 : (yup (yup mq1295 (336 + k.toNat) 10 rq1295) (336 + k.toNat) 8 2) 2 2 = mq1295 2 2 := ((yup_na (by omega)).trans (yup_na (by omega)))
              have tb1311 := hTq1295.atp 2 2 0 320 rfl
              refine y_callIB 119 [.ref 2, yI 41] [] c66_116 rfl rfl rfl rfl rfl (ycanO km37 ko2) (t37 hT1306 he (by have e1 : (yup (yup mq1295 (336 + k.toNat) 10 rq1295) (336 + k.toNat) 8 2) 5 e.toNat = m 5 e.toNat := ((yup_na (by omega)).trans ((yup_na (by omega)).trans ((hFq1295 5 e.toNat rfl).trans ((yup_na (by decide)).trans ((yup_na (by decide)).trans ((yup_na (by decide)).trans ((yup_na (by omega)).trans (yup_na (by omega))))))))); omega) (by omega) (by omega)) (fun rq1309 mq1309 nq1309 hq1309 => ?_)
              obtain ⟨rfl, hTq1309, hFq1309, hq1309⟩ := hq1309
              have hF1312 := hF1307.tr hFq1309 wAt_wSc316
              have tb1313 := hTq1309.atp 2 2 0 320 rfl
              have es1314 : mq1309 316 12 = (m 316 12) + 1 := ((hFq1309 316 12 rfl).trans ((yup_na (by omega)).trans ((yup_na (by omega)).trans ((hFq1295 316 12 rfl).trans ((yup_na (by decide)).trans ((yup_na (by decide)).trans (yup_eq _ _ _ _)))))))
              have es1315 : mq1309 (336 + k.toNat) 0 = 4 := ((hFq1309 (336 + k.toNat) 0 wAt_n336).trans ((yup_nk (by decide)).trans ((yup_nk (by decide)).trans ((hFq1295 (336 + k.toNat) 0 wVr316_n336).trans ((yup_na (by omega)).trans ((yup_na (by omega)).trans ((yup_na (by omega)).trans ((yup_nk (by decide)).trans (yup_eq _ _ _ _)))))))))
              have es1316 : mq1309 (336 + k.toNat) 2 = m (336 + k.toNat) 2 := ((hFq1309 (336 + k.toNat) 2 wAt_n336).trans ((yup_nk (by decide)).trans ((yup_nk (by decide)).trans ((hFq1295 (336 + k.toNat) 2 wVr316_n336).trans ((yup_na (by omega)).trans ((yup_na (by omega)).trans ((yup_na (by omega)).trans ((yup_nk (by decide)).trans (yup_nk (by decide))))))))))
              have tb1317 := hT.atp (336 + k.toNat) 2 ((-1)) 47 (ft336_2 (by omega))
              have es1318 : mq1309 (336 + k.toNat) 3 = m (336 + k.toNat) 3 := ((hFq1309 (336 + k.toNat) 3 wAt_n336).trans ((yup_nk (by decide)).trans ((yup_nk (by decide)).trans ((hFq1295 (336 + k.toNat) 3 wVr316_n336).trans ((yup_na (by omega)).trans ((yup_na (by omega)).trans ((yup_na (by omega)).trans ((yup_nk (by decide)).trans (yup_nk (by decide))))))))))
              have tb1319 := hT.atp (336 + k.toNat) 3 ((-1)) 47 (ft336_3 (by omega))
              have es1320 : mq1309 (336 + k.toNat) 6 = m 316 12 := ((hFq1309 (336 + k.toNat) 6 wAt_n336).trans ((yup_nk (by decide)).trans ((yup_nk (by decide)).trans ((hFq1295 (336 + k.toNat) 6 wVr316_n336).trans ((yup_na (by omega)).trans ((yup_na (by omega)).trans ((yup_na (by omega)).trans (yup_eq _ _ _ _))))))))
              have es1321 : mq1309 (336 + k.toNat) 8 = 2 := ((hFq1309 (336 + k.toNat) 8 wAt_n336).trans (yup_eq _ _ _ _))
              have es1322 : mq1309 (336 + k.toNat) 9 = m (336 + k.toNat) 9 := ((hFq1309 (336 + k.toNat) 9 wAt_n336).trans ((yup_nk (by decide)).trans ((yup_nk (by decide)).trans ((hFq1295 (336 + k.toNat) 9 wVr316_n336).trans ((yup_na (by omega)).trans ((yup_na (by omega)).trans ((yup_na (by omega)).trans ((yup_nk (by decide)).trans (yup_nk (by decide))))))))))
              have tb1323 := hT.atp (336 + k.toNat) 9 ((-1)) 47 (ft336_9 (by omega))
              have es1324 : mq1309 (336 + k.toNat) 10 = rq1295 := ((hFq1309 (336 + k.toNat) 10 wAt_n336).trans ((yup_nk (by decide)).trans (yup_eq _ _ _ _)))
              exact y_retI c66_119 (y_fit1 (by omega)) ⟨rfl, hTq1309, hF1312, by omega⟩
            · refine y_iconst 112 c66_111 rfl ?_
              have es1325 : (yup (yup mq1295 (336 + k.toNat) 10 rq1295) (336 + k.toNat) 8 2) 2 2 = mq1295 2 2 := ((yup_na (by omega)).trans (yup_na (by omega)))
              have tb1326 := hTq1295.atp 2 2 0 320 rfl
              have es1327 : (yup (yup mq1295 (336 + k.toNat) 10 rq1295) (336 + k.toNat) 8 2) 316 12 = (m 316 12) + 1 := ((yup_na (by omega)).trans ((yup_na (by omega)).trans ((hFq1295 316 12 rfl).trans ((yup_na (by decide)).trans ((yup_na (by decide)).trans (yup_eq _ _ _ _))))))
              have es1328 : (yup (yup mq1295 (336 + k.toNat) 10 rq1295) (336 + k.toNat) 8 2) (336 + k.toNat) 0 = 4 := ((yup_nk (by decide)).trans ((yup_nk (by decide)).trans ((hFq1295 (336 + k.toNat) 0 wVr316_n336).trans ((yup_na (by omega)).trans ((yup_na (by omega)).trans ((yup_na (by omega)).trans ((yup_nk (by decide)).trans (yup_eq _ _ _ _))))))))
              have es1329 : (yup (yup mq1295 (336 + k.toNat) 10 rq1295) (336 + k.toNat) 8 2) (336 + k.toNat) 2 = m (336 + k.toNat) 2 := ((yup_nk (by decide)).trans ((yup_nk (by decide)).trans ((hFq1295 (336 + k.toNat) 2 wVr316_n336).trans ((yup_na (by omega)).trans ((yup_na (by omega)).trans ((yup_na (by omega)).trans ((yup_nk (by decide)).trans (yup_nk (by decide)))))))))
              have tb1330 := hT.atp (336 + k.toNat) 2 ((-1)) 47 (ft336_2 (by omega))
              have es1331 : (yup (yup mq1295 (336 + k.toNat) 10 rq1295) (336 + k.toNat) 8 2) (336 + k.toNat) 3 = m (336 + k.toNat) 3 := ((yup_nk (by decide)).trans ((yup_nk (by decide)).trans ((hFq1295 (336 + k.toNat) 3 wVr316_n336).trans ((yup_na (by omega)).trans ((yup_na (by omega)).trans ((yup_na (by omega)).trans ((yup_nk (by decide)).trans (yup_nk (by decide)))))))))
              have tb1332 := hT.atp (336 + k.toNat) 3 ((-1)) 47 (ft336_3 (by omega))
              have es1333 : (yup (yup mq1295 (336 + k.toNat) 10 rq1295) (336 + k.toNat) 8 2) (336 + k.toNat) 6 = m 316 12 := ((yup_nk (by decide)).trans ((yup_nk (by decide)).trans ((hFq1295 (336 + k.toNat) 6 wVr316_n336).trans ((yup_na (by omega)).trans ((yup_na (by omega)).trans ((yup_na (by omega)).trans (yup_eq _ _ _ _)))))))
              have es1334 : (yup (yup mq1295 (336 + k.toNat) 10 rq1295) (336 + k.toNat) 8 2) (336 + k.toNat) 8 = 2 := (yup_eq _ _ _ _)
              have es1335 : (yup (yup mq1295 (336 + k.toNat) 10 rq1295) (336 + k.toNat) 8 2) (336 + k.toNat) 9 = m (336 + k.toNat) 9 := ((yup_nk (by decide)).trans ((yup_nk (by decide)).trans ((hFq1295 (336 + k.toNat) 9 wVr316_n336).trans ((yup_na (by omega)).trans ((yup_na (by omega)).trans ((yup_na (by omega)).trans ((yup_nk (by decide)).trans (yup_nk (by decide)))))))))
              have tb1336 := hT.atp (336 + k.toNat) 9 ((-1)) 47 (ft336_9 (by omega))
              have es1337 : (yup (yup mq1295 (336 + k.toNat) 10 rq1295) (336 + k.toNat) 8 2) (336 + k.toNat) 10 = rq1295 := ((yup_nk (by decide)).trans (yup_eq _ _ _ _))
              exact y_retI c66_112 (y_fit1 (by omega)) ⟨rfl, hT1306, hF1307, by omega⟩
      · refine y_aload 41 c66_40 rfl rfl rfl ?_
        refine y_aload 42 c66_41 rfl rfl rfl ?_
        have es1339 : (yup (yup (yup (yup m (336 + k.toNat) 0 4) (336 + k.toNat) 6 (m 316 12)) 316 12 ((m 316 12) + 1)) 2 2 ((m 2 2) + 1)) 2 2 = (m 2 2) + 1 := rfl
        have es1340 : (yup (yup (yup (yup m (336 + k.toNat) 0 4) (336 + k.toNat) 6 (m 316 12)) 316 12 ((m 316 12) + 1)) 2 2 ((m 2 2) + 1)) 2 1 = m 2 1 := ((yup_nk (by decide)).trans ((yup_na (by decide)).trans ((yup_na (by omega)).trans (yup_na (by omega)))))
        have tb1341 := hT.atp 2 1 ((-1)) 1 rfl
        have es1342 : (yup (yup (yup (yup m (336 + k.toNat) 0 4) (336 + k.toNat) 6 (m 316 12)) 316 12 ((m 316 12) + 1)) 2 2 ((m 2 2) + 1)) 316 10 = m 316 10 := ((yup_na (by decide)).trans ((yup_nk (by decide)).trans ((yup_na (by omega)).trans (yup_na (by omega)))))
        have tb1343 := hT.atp 316 10 0 10 rfl
        have es1344 : (yup (yup (yup (yup m (336 + k.toNat) 0 4) (336 + k.toNat) 6 (m 316 12)) 316 12 ((m 316 12) + 1)) 2 2 ((m 2 2) + 1)) 316 15 = m 316 15 := ((yup_na (by decide)).trans ((yup_nk (by decide)).trans ((yup_na (by omega)).trans (yup_na (by omega)))))
        have tb1345 := hT.atp 316 15 0 48 rfl
        refine y_callIB 45 [.ref 2] [.ref (336 + k.toNat)] c66_42 rfl rfl rfl rfl rfl (ycanO km58 ko2) (t58_316 hT1251 he (by have e1 : (yup (yup (yup (yup m (336 + k.toNat) 0 4) (336 + k.toNat) 6 (m 316 12)) 316 12 ((m 316 12) + 1)) 2 2 ((m 2 2) + 1)) 5 e.toNat = m 5 e.toNat := ((yup_na (by decide)).trans ((yup_na (by decide)).trans ((yup_na (by omega)).trans (yup_na (by omega))))); omega) (by omega) (by omega) (by omega)) (fun rq1338 mq1338 nq1338 hq1338 => ?_)
        obtain ⟨rfl, hTq1338, hFq1338, hq1338⟩ := hq1338
        have hF1346 := hF1252.tr hFq1338 wVr316_wSc316
        refine y_putI 48 c66_45 rfl (ff336_9 (by omega)) (y_fit0 _) ?_
        have hT1347 := hTq1338.up (336 + k.toNat) 9 rq1338 ((-1)) 47 (ft336_9 (by omega)) (by omega)
        have hF1348 := hF1346.up (336 + k.toNat) 9 rq1338 (wSc316_s (by omega))
        refine y_aload 49 c66_48 rfl rfl rfl ?_
        refine y_iconst 50 c66_49 rfl ?_
        refine y_putI 53 c66_50 rfl (ff336_8 (by omega)) (y_fit0 _) ?_
        have hT1349 := hT1347.up (336 + k.toNat) 8 1 0 2 (ft336_8 (by omega)) (by omega)
        have hF1350 := hF1348.up (336 + k.toNat) 8 1 (wSc316_s (by omega))
        refine y_aload 54 c66_53 rfl rfl rfl ?_
        refine y_getX 57 rq1338 c66_54 rfl (ff336_9 (by omega)) ((yup_nk (by decide)).trans (yup_eq _ _ _ _)) ?_
        refine y_iconst 58 c66_57 rfl ?_
        refine y_icmp 63 61 c66_58 rfl rfl (yc_ne (by omega) (by omega)) (fun hb1351 => ?_) (fun hb1351 => ?_)
        · refine y_aload 64 c66_63 rfl rfl rfl ?_
          refine y_getX 67 1 c66_64 rfl (ff336_8 (by omega)) (yup_eq _ _ _ _) ?_
          refine y_iconst 68 c66_67 rfl ?_
          refine y_icmp 113 71 c66_68 rfl rfl (yc_ne (by omega) (by omega)) (fun hb1352 => ?_) (fun hb1352 => ?_)
          · exfalso; omega
          · refine y_aload 72 c66_71 rfl rfl rfl ?_
            have es1353 : (yup (yup mq1338 (336 + k.toNat) 9 rq1338) (336 + k.toNat) 8 1) 2 2 = mq1338 2 2 := ((yup_na (by omega)).trans (yup_na (by omega)))
            have tb1354 := hTq1338.atp 2 2 0 320 rfl
            refine y_callP 75 [.ref 2] [] c66_72 rfl rfl rfl rfl rfl (ycanO km38 ko2) (t38 hT1349 he (by have e1 : (yup (yup mq1338 (336 + k.toNat) 9 rq1338) (336 + k.toNat) 8 1) 5 e.toNat = m 5 e.toNat := ((yup_na (by omega)).trans ((yup_na (by omega)).trans ((hFq1338 5 e.toNat rfl).trans ((yup_na (by decide)).trans ((yup_na (by decide)).trans ((yup_na (by omega)).trans (yup_na (by omega)))))))); omega) (by omega)) (fun r1355 hr1355 => ?_)
            refine y_iconst 77 c66_75 rfl ?_
            refine y_icmp 113 80 c66_77 rfl rfl (yc_ne (by omega) (by omega)) (fun hb1356 => ?_) (fun hb1356 => ?_)
            · refine y_aload 114 c66_113 rfl rfl rfl ?_
              refine y_iconst 116 c66_114 rfl ?_
              have es1358 : (yup (yup mq1338 (336 + k.toNat) 9 rq1338) (336 + k.toNat) 8 1) 2 2 = mq1338 2 2 := ((yup_na (by omega)).trans (yup_na (by omega)))
              refine y_callIB 119 [.ref 2, yI 41] [] c66_116 rfl rfl rfl rfl rfl (ycanO km37 ko2) (t37 hT1349 he (by have e1 : (yup (yup mq1338 (336 + k.toNat) 9 rq1338) (336 + k.toNat) 8 1) 5 e.toNat = m 5 e.toNat := ((yup_na (by omega)).trans ((yup_na (by omega)).trans ((hFq1338 5 e.toNat rfl).trans ((yup_na (by decide)).trans ((yup_na (by decide)).trans ((yup_na (by omega)).trans (yup_na (by omega)))))))); omega) (by omega) (by omega)) (fun rq1357 mq1357 nq1357 hq1357 => ?_)
              obtain ⟨rfl, hTq1357, hFq1357, hq1357⟩ := hq1357
              have hF1359 := hF1350.tr hFq1357 wAt_wSc316
              have tb1360 := hTq1357.atp 2 2 0 320 rfl
              have es1361 : mq1357 316 12 = (m 316 12) + 1 := ((hFq1357 316 12 rfl).trans ((yup_na (by omega)).trans ((yup_na (by omega)).trans ((hFq1338 316 12 rfl).trans ((yup_na (by decide)).trans (yup_eq _ _ _ _))))))
              have es1362 : mq1357 (336 + k.toNat) 0 = 4 := ((hFq1357 (336 + k.toNat) 0 wAt_n336).trans ((yup_nk (by decide)).trans ((yup_nk (by decide)).trans ((hFq1338 (336 + k.toNat) 0 wVr316_n336).trans ((yup_na (by omega)).trans ((yup_na (by omega)).trans ((yup_nk (by decide)).trans (yup_eq _ _ _ _))))))))
              have es1363 : mq1357 (336 + k.toNat) 2 = m (336 + k.toNat) 2 := ((hFq1357 (336 + k.toNat) 2 wAt_n336).trans ((yup_nk (by decide)).trans ((yup_nk (by decide)).trans ((hFq1338 (336 + k.toNat) 2 wVr316_n336).trans ((yup_na (by omega)).trans ((yup_na (by omega)).trans ((yup_nk (by decide)).trans (yup_nk (by decide)))))))))
              have tb1364 := hT.atp (336 + k.toNat) 2 ((-1)) 47 (ft336_2 (by omega))
              have es1365 : mq1357 (336 + k.toNat) 3 = m (336 + k.toNat) 3 := ((hFq1357 (336 + k.toNat) 3 wAt_n336).trans ((yup_nk (by decide)).trans ((yup_nk (by decide)).trans ((hFq1338 (336 + k.toNat) 3 wVr316_n336).trans ((yup_na (by omega)).trans ((yup_na (by omega)).trans ((yup_nk (by decide)).trans (yup_nk (by decide)))))))))
              have tb1366 := hT.atp (336 + k.toNat) 3 ((-1)) 47 (ft336_3 (by omega))
              have es1367 : mq1357 (336 + k.toNat) 6 = m 316 12 := ((hFq1357 (336 + k.toNat) 6 wAt_n336).trans ((yup_nk (by decide)).trans ((yup_nk (by decide)).trans ((hFq1338 (336 + k.toNat) 6 wVr316_n336).trans ((yup_na (by omega)).trans ((yup_na (by omega)).trans (yup_eq _ _ _ _)))))))
              have es1368 : mq1357 (336 + k.toNat) 8 = 1 := ((hFq1357 (336 + k.toNat) 8 wAt_n336).trans (yup_eq _ _ _ _))
              have es1369 : mq1357 (336 + k.toNat) 9 = rq1338 := ((hFq1357 (336 + k.toNat) 9 wAt_n336).trans ((yup_nk (by decide)).trans (yup_eq _ _ _ _)))
              have es1370 : mq1357 (336 + k.toNat) 10 = m (336 + k.toNat) 10 := ((hFq1357 (336 + k.toNat) 10 wAt_n336).trans ((yup_nk (by decide)).trans ((yup_nk (by decide)).trans ((hFq1338 (336 + k.toNat) 10 wVr316_n336).trans ((yup_na (by omega)).trans ((yup_na (by omega)).trans ((yup_nk (by decide)).trans (yup_nk (by decide)))))))))
              have tb1371 := hT.atp (336 + k.toNat) 10 ((-1)) 47 (ft336_10 (by omega))
              exact y_retI c66_119 (y_fit1 (by omega)) ⟨rfl, hTq1357, hF1359, by omega⟩
            · refine y_aload 81 c66_80 rfl rfl rfl ?_
              refine y_dup 82 c66_81 rfl rfl ?_
              refine y_getX 85 (mq1338 2 2) c66_82 rfl kf2_2 ((yup_na (by omega)).trans (yup_na (by omega))) ?_
              refine y_iconst 86 c66_85 rfl ?_
              refine y_iadd 87 c66_86 rfl ?_
              refine y_putI 90 c66_87 rfl kf2_2 (y_fit0 _) ?_
              have hT1372 := hT1349.up 2 2 ((mq1338 2 2) + 1) 0 320 rfl (by omega)
              have hF1373 := hF1350.up 2 2 ((mq1338 2 2) + 1) rfl
              refine y_aload 91 c66_90 rfl rfl rfl ?_
              refine y_aload 92 c66_91 rfl rfl rfl ?_
              have es1375 : (yup (yup (yup mq1338 (336 + k.toNat) 9 rq1338) (336 + k.toNat) 8 1) 2 2 ((mq1338 2 2) + 1)) 2 2 = (mq1338 2 2) + 1 := rfl
              have es1376 : (yup (yup (yup mq1338 (336 + k.toNat) 9 rq1338) (336 + k.toNat) 8 1) 2 2 ((mq1338 2 2) + 1)) 2 1 = m 2 1 := ((yup_nk (by decide)).trans ((yup_na (by omega)).trans ((yup_na (by omega)).trans ((hFq1338 2 1 rfl).trans ((yup_nk (by decide)).trans ((yup_na (by decide)).trans ((yup_na (by omega)).trans (yup_na (by omega)))))))))
              have es1377 : (yup (yup (yup mq1338 (336 + k.toNat) 9 rq1338) (336 + k.toNat) 8 1) 2 2 ((mq1338 2 2) + 1)) 316 10 = m 316 10 := ((yup_na (by decide)).trans ((yup_na (by omega)).trans ((yup_na (by omega)).trans ((hFq1338 316 10 rfl).trans ((yup_na (by decide)).trans ((yup_nk (by decide)).trans ((yup_na (by omega)).trans (yup_na (by omega)))))))))
              have es1378 : (yup (yup (yup mq1338 (336 + k.toNat) 9 rq1338) (336 + k.toNat) 8 1) 2 2 ((mq1338 2 2) + 1)) 316 15 = mq1338 316 15 := ((yup_na (by decide)).trans ((yup_na (by omega)).trans (yup_na (by omega))))
              have tb1379 := hTq1338.atp 316 15 0 48 rfl
              refine y_callIB 95 [.ref 2] [.ref (336 + k.toNat)] c66_92 rfl rfl rfl rfl rfl (ycanO km58 ko2) (t58_316 hT1372 he (by have e1 : (yup (yup (yup mq1338 (336 + k.toNat) 9 rq1338) (336 + k.toNat) 8 1) 2 2 ((mq1338 2 2) + 1)) 5 e.toNat = m 5 e.toNat := ((yup_na (by decide)).trans ((yup_na (by omega)).trans ((yup_na (by omega)).trans ((hFq1338 5 e.toNat rfl).trans ((yup_na (by decide)).trans ((yup_na (by decide)).trans ((yup_na (by omega)).trans (yup_na (by omega))))))))); omega) (by omega) (by omega) (by omega)) (fun rq1374 mq1374 nq1374 hq1374 => ?_)
              obtain ⟨rfl, hTq1374, hFq1374, hq1374⟩ := hq1374
              have hF1380 := hF1373.tr hFq1374 wVr316_wSc316
              refine y_putI 98 c66_95 rfl (ff336_10 (by omega)) (y_fit0 _) ?_
              have hT1381 := hTq1374.up (336 + k.toNat) 10 rq1374 ((-1)) 47 (ft336_10 (by omega)) (by omega)
              have hF1382 := hF1380.up (336 + k.toNat) 10 rq1374 (wSc316_s (by omega))
              refine y_aload 99 c66_98 rfl rfl rfl ?_
              refine y_iconst 100 c66_99 rfl ?_
              refine y_putI 103 c66_100 rfl (ff336_8 (by omega)) (y_fit0 _) ?_
              have hT1383 := hT1381.up (336 + k.toNat) 8 2 0 2 (ft336_8 (by omega)) (by omega)
              have hF1384 := hF1382.up (336 + k.toNat) 8 2 (wSc316_s (by omega))
              refine y_aload 104 c66_103 rfl rfl rfl ?_
              refine y_getX 107 rq1374 c66_104 rfl (ff336_10 (by omega)) ((yup_nk (by decide)).trans (yup_eq _ _ _ _)) ?_
              refine y_iconst 108 c66_107 rfl ?_
              refine y_icmp 113 111 c66_108 rfl rfl (yc_ne (by omega) (by omega)) (fun hb1385 => ?_) (fun hb1385 => ?_)
              · refine y_aload 114 c66_113 rfl rfl rfl ?_
                refine y_iconst 116 c66_114 rfl ?_
                have es1387 : (yup (yup mq1374 (336 + k.toNat) 10 rq1374) (336 + k.toNat) 8 2) 2 2 = mq1374 2 2 := ((yup_na (by omega)).trans (yup_na (by omega)))
                have tb1388 := hTq1374.atp 2 2 0 320 rfl
                refine y_callIB 119 [.ref 2, yI 41] [] c66_116 rfl rfl rfl rfl rfl (ycanO km37 ko2) (t37 hT1383 he (by have e1 : (yup (yup mq1374 (336 + k.toNat) 10 rq1374) (336 + k.toNat) 8 2) 5 e.toNat = m 5 e.toNat := ((yup_na (by omega)).trans ((yup_na (by omega)).trans ((hFq1374 5 e.toNat rfl).trans ((yup_na (by decide)).trans ((yup_na (by omega)).trans ((yup_na (by omega)).trans ((hFq1338 5 e.toNat rfl).trans ((yup_na (by decide)).trans ((yup_na (by decide)).trans ((yup_na (by omega)).trans (yup_na (by omega)))))))))))); omega) (by omega) (by omega)) (fun rq1386 mq1386 nq1386 hq1386 => ?_)
                obtain ⟨rfl, hTq1386, hFq1386, hq1386⟩ := hq1386
                have hF1389 := hF1384.tr hFq1386 wAt_wSc316
                have tb1390 := hTq1386.atp 2 2 0 320 rfl
                have es1391 : mq1386 316 12 = (m 316 12) + 1 := ((hFq1386 316 12 rfl).trans ((yup_na (by omega)).trans ((yup_na (by omega)).trans ((hFq1374 316 12 rfl).trans ((yup_na (by decide)).trans ((yup_na (by omega)).trans ((yup_na (by omega)).trans ((hFq1338 316 12 rfl).trans ((yup_na (by decide)).trans (yup_eq _ _ _ _))))))))))
                have es1392 : mq1386 (336 + k.toNat) 0 = 4 := ((hFq1386 (336 + k.toNat) 0 wAt_n336).trans ((yup_nk (by decide)).trans ((yup_nk (by decide)).trans ((hFq1374 (336 + k.toNat) 0 wVr316_n336).trans ((yup_na (by omega)).trans ((yup_nk (by decide)).trans ((yup_nk (by decide)).trans ((hFq1338 (336 + k.toNat) 0 wVr316_n336).trans ((yup_na (by omega)).trans ((yup_na (by omega)).trans ((yup_nk (by decide)).trans (yup_eq _ _ _ _))))))))))))
                have es1393 : mq1386 (336 + k.toNat) 2 = m (336 + k.toNat) 2 := ((hFq1386 (336 + k.toNat) 2 wAt_n336).trans ((yup_nk (by decide)).trans ((yup_nk (by decide)).trans ((hFq1374 (336 + k.toNat) 2 wVr316_n336).trans ((yup_na (by omega)).trans ((yup_nk (by decide)).trans ((yup_nk (by decide)).trans ((hFq1338 (336 + k.toNat) 2 wVr316_n336).trans ((yup_na (by omega)).trans ((yup_na (by omega)).trans ((yup_nk (by decide)).trans (yup_nk (by decide)))))))))))))
                have tb1394 := hT.atp (336 + k.toNat) 2 ((-1)) 47 (ft336_2 (by omega))
                have es1395 : mq1386 (336 + k.toNat) 3 = m (336 + k.toNat) 3 := ((hFq1386 (336 + k.toNat) 3 wAt_n336).trans ((yup_nk (by decide)).trans ((yup_nk (by decide)).trans ((hFq1374 (336 + k.toNat) 3 wVr316_n336).trans ((yup_na (by omega)).trans ((yup_nk (by decide)).trans ((yup_nk (by decide)).trans ((hFq1338 (336 + k.toNat) 3 wVr316_n336).trans ((yup_na (by omega)).trans ((yup_na (by omega)).trans ((yup_nk (by decide)).trans (yup_nk (by decide)))))))))))))
                have tb1396 := hT.atp (336 + k.toNat) 3 ((-1)) 47 (ft336_3 (by omega))
                have es1397 : mq1386 (336 + k.toNat) 6 = m 316 12 := ((hFq1386 (336 + k.toNat) 6 wAt_n336).trans ((yup_nk (by decide)).trans ((yup_nk (by decide)).trans ((hFq1374 (336 + k.toNat) 6 wVr316_n336).trans ((yup_na (by omega)).trans ((yup_nk (by decide)).trans ((yup_nk (by decide)).trans ((hFq1338 (336 + k.toNat) 6 wVr316_n336).trans ((yup_na (by omega)).trans ((yup_na (by omega)).trans (yup_eq _ _ _ _)))))))))))
                have es1398 : mq1386 (336 + k.toNat) 8 = 2 := ((hFq1386 (336 + k.toNat) 8 wAt_n336).trans (yup_eq _ _ _ _))
                have es1399 : mq1386 (336 + k.toNat) 9 = rq1338 := ((hFq1386 (336 + k.toNat) 9 wAt_n336).trans ((yup_nk (by decide)).trans ((yup_nk (by decide)).trans ((hFq1374 (336 + k.toNat) 9 wVr316_n336).trans ((yup_na (by omega)).trans ((yup_nk (by decide)).trans (yup_eq _ _ _ _)))))))
                have es1400 : mq1386 (336 + k.toNat) 10 = rq1374 := ((hFq1386 (336 + k.toNat) 10 wAt_n336).trans ((yup_nk (by decide)).trans (yup_eq _ _ _ _)))
                exact y_retI c66_119 (y_fit1 (by omega)) ⟨rfl, hTq1386, hF1389, by omega⟩
              · refine y_iconst 112 c66_111 rfl ?_
                have es1401 : (yup (yup mq1374 (336 + k.toNat) 10 rq1374) (336 + k.toNat) 8 2) 2 2 = mq1374 2 2 := ((yup_na (by omega)).trans (yup_na (by omega)))
                have tb1402 := hTq1374.atp 2 2 0 320 rfl
                have es1403 : (yup (yup mq1374 (336 + k.toNat) 10 rq1374) (336 + k.toNat) 8 2) 316 12 = (m 316 12) + 1 := ((yup_na (by omega)).trans ((yup_na (by omega)).trans ((hFq1374 316 12 rfl).trans ((yup_na (by decide)).trans ((yup_na (by omega)).trans ((yup_na (by omega)).trans ((hFq1338 316 12 rfl).trans ((yup_na (by decide)).trans (yup_eq _ _ _ _)))))))))
                have es1404 : (yup (yup mq1374 (336 + k.toNat) 10 rq1374) (336 + k.toNat) 8 2) (336 + k.toNat) 0 = 4 := ((yup_nk (by decide)).trans ((yup_nk (by decide)).trans ((hFq1374 (336 + k.toNat) 0 wVr316_n336).trans ((yup_na (by omega)).trans ((yup_nk (by decide)).trans ((yup_nk (by decide)).trans ((hFq1338 (336 + k.toNat) 0 wVr316_n336).trans ((yup_na (by omega)).trans ((yup_na (by omega)).trans ((yup_nk (by decide)).trans (yup_eq _ _ _ _)))))))))))
                have es1405 : (yup (yup mq1374 (336 + k.toNat) 10 rq1374) (336 + k.toNat) 8 2) (336 + k.toNat) 2 = m (336 + k.toNat) 2 := ((yup_nk (by decide)).trans ((yup_nk (by decide)).trans ((hFq1374 (336 + k.toNat) 2 wVr316_n336).trans ((yup_na (by omega)).trans ((yup_nk (by decide)).trans ((yup_nk (by decide)).trans ((hFq1338 (336 + k.toNat) 2 wVr316_n336).trans ((yup_na (by omega)).trans ((yup_na (by omega)).trans ((yup_nk (by decide)).trans (yup_nk (by decide))))))))))))
                have tb1406 := hT.atp (336 + k.toNat) 2 ((-1)) 47 (ft336_2 (by omega))
                have es1407 : (yup (yup mq1374 (336 + k.toNat) 10 rq1374) (336 + k.toNat) 8 2) (336 + k.toNat) 3 = m (336 + k.toNat) 3 := ((yup_nk (by decide)).trans ((yup_nk (by decide)).trans ((hFq1374 (336 + k.toNat) 3 wVr316_n336).trans ((yup_na (by omega)).trans ((yup_nk (by decide)).trans ((yup_nk (by decide)).trans ((hFq1338 (336 + k.toNat) 3 wVr316_n336).trans ((yup_na (by omega)).trans ((yup_na (by omega)).trans ((yup_nk (by decide)).trans (yup_nk (by decide))))))))))))
                have tb1408 := hT.atp (336 + k.toNat) 3 ((-1)) 47 (ft336_3 (by omega))
                have es1409 : (yup (yup mq1374 (336 + k.toNat) 10 rq1374) (336 + k.toNat) 8 2) (336 + k.toNat) 6 = m 316 12 := ((yup_nk (by decide)).trans ((yup_nk (by decide)).trans ((hFq1374 (336 + k.toNat) 6 wVr316_n336).trans ((yup_na (by omega)).trans ((yup_nk (by decide)).trans ((yup_nk (by decide)).trans ((hFq1338 (336 + k.toNat) 6 wVr316_n336).trans ((yup_na (by omega)).trans ((yup_na (by omega)).trans (yup_eq _ _ _ _))))))))))
                have es1410 : (yup (yup mq1374 (336 + k.toNat) 10 rq1374) (336 + k.toNat) 8 2) (336 + k.toNat) 8 = 2 := (yup_eq _ _ _ _)
                have es1411 : (yup (yup mq1374 (336 + k.toNat) 10 rq1374) (336 + k.toNat) 8 2) (336 + k.toNat) 9 = rq1338 := ((yup_nk (by decide)).trans ((yup_nk (by decide)).trans ((hFq1374 (336 + k.toNat) 9 wVr316_n336).trans ((yup_na (by omega)).trans ((yup_nk (by decide)).trans (yup_eq _ _ _ _))))))
                have es1412 : (yup (yup mq1374 (336 + k.toNat) 10 rq1374) (336 + k.toNat) 8 2) (336 + k.toNat) 10 = rq1374 := ((yup_nk (by decide)).trans (yup_eq _ _ _ _))
                exact y_retI c66_112 (y_fit1 (by omega)) ⟨rfl, hT1383, hF1384, by omega⟩
        · refine y_iconst 62 c66_61 rfl ?_
          have es1413 : (yup (yup mq1338 (336 + k.toNat) 9 rq1338) (336 + k.toNat) 8 1) 2 2 = mq1338 2 2 := ((yup_na (by omega)).trans (yup_na (by omega)))
          have tb1414 := hTq1338.atp 2 2 0 320 rfl
          have es1415 : (yup (yup mq1338 (336 + k.toNat) 9 rq1338) (336 + k.toNat) 8 1) 316 12 = (m 316 12) + 1 := ((yup_na (by omega)).trans ((yup_na (by omega)).trans ((hFq1338 316 12 rfl).trans ((yup_na (by decide)).trans (yup_eq _ _ _ _)))))
          have es1416 : (yup (yup mq1338 (336 + k.toNat) 9 rq1338) (336 + k.toNat) 8 1) (336 + k.toNat) 0 = 4 := ((yup_nk (by decide)).trans ((yup_nk (by decide)).trans ((hFq1338 (336 + k.toNat) 0 wVr316_n336).trans ((yup_na (by omega)).trans ((yup_na (by omega)).trans ((yup_nk (by decide)).trans (yup_eq _ _ _ _)))))))
          have es1417 : (yup (yup mq1338 (336 + k.toNat) 9 rq1338) (336 + k.toNat) 8 1) (336 + k.toNat) 2 = m (336 + k.toNat) 2 := ((yup_nk (by decide)).trans ((yup_nk (by decide)).trans ((hFq1338 (336 + k.toNat) 2 wVr316_n336).trans ((yup_na (by omega)).trans ((yup_na (by omega)).trans ((yup_nk (by decide)).trans (yup_nk (by decide))))))))
          have tb1418 := hT.atp (336 + k.toNat) 2 ((-1)) 47 (ft336_2 (by omega))
          have es1419 : (yup (yup mq1338 (336 + k.toNat) 9 rq1338) (336 + k.toNat) 8 1) (336 + k.toNat) 3 = m (336 + k.toNat) 3 := ((yup_nk (by decide)).trans ((yup_nk (by decide)).trans ((hFq1338 (336 + k.toNat) 3 wVr316_n336).trans ((yup_na (by omega)).trans ((yup_na (by omega)).trans ((yup_nk (by decide)).trans (yup_nk (by decide))))))))
          have tb1420 := hT.atp (336 + k.toNat) 3 ((-1)) 47 (ft336_3 (by omega))
          have es1421 : (yup (yup mq1338 (336 + k.toNat) 9 rq1338) (336 + k.toNat) 8 1) (336 + k.toNat) 6 = m 316 12 := ((yup_nk (by decide)).trans ((yup_nk (by decide)).trans ((hFq1338 (336 + k.toNat) 6 wVr316_n336).trans ((yup_na (by omega)).trans ((yup_na (by omega)).trans (yup_eq _ _ _ _))))))
          have es1422 : (yup (yup mq1338 (336 + k.toNat) 9 rq1338) (336 + k.toNat) 8 1) (336 + k.toNat) 8 = 1 := (yup_eq _ _ _ _)
          have es1423 : (yup (yup mq1338 (336 + k.toNat) 9 rq1338) (336 + k.toNat) 8 1) (336 + k.toNat) 9 = rq1338 := ((yup_nk (by decide)).trans (yup_eq _ _ _ _))
          have es1424 : (yup (yup mq1338 (336 + k.toNat) 9 rq1338) (336 + k.toNat) 8 1) (336 + k.toNat) 10 = m (336 + k.toNat) 10 := ((yup_nk (by decide)).trans ((yup_nk (by decide)).trans ((hFq1338 (336 + k.toNat) 10 wVr316_n336).trans ((yup_na (by omega)).trans ((yup_na (by omega)).trans ((yup_nk (by decide)).trans (yup_nk (by decide))))))))
          have tb1425 := hT.atp (336 + k.toNat) 10 ((-1)) 47 (ft336_10 (by omega))
          exact y_retI c66_62 (y_fit1 (by omega)) ⟨rfl, hT1349, hF1350, by omega⟩
    · exfalso; omega
