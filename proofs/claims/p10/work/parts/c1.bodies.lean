/-! CONTRACTS: bodies. Printed by wip/whole/gen89.py -/
def wBo0256 (a q : Nat) : Bool := (a == 2 && (q == 2 || q == 4)) || (a == 256 && (decide (12 ≤ q) && decide (q ≤ 16))) || a == 261 || a == 265
def wBo256 (c a q : Nat) : Bool := ((a == 2 && (q == 2 || q == 4)) || (a == 256 && (decide (12 ≤ q) && decide (q ≤ 16))) || a == 261 || a == 265) || decide (276 + c ≤ a ∧ a < 316)
theorem wBo256_lt {c a q : Nat} (h : a < 276) : wBo256 c a q = wBo0256 a q := by
  have e : decide (276 + c ≤ a ∧ a < 316) = false := by simp; omega
  simp only [wBo256, wBo0256, e, Bool.or_false]
theorem wBo256_s {c j q : Nat} (h : c ≤ j ∧ j < 40) : wBo256 c (276 + j) q = true := by
  simp [wBo256]
  omega
theorem wBo256_n {c j q : Nat} (h : j < c) : wBo256 c (276 + j) q = false := by
  cases e : wBo256 c (276 + j) q with
  | false => rfl
  | true => simp [wBo256] at e <;> omega
theorem wFa_wBo256 {c : Nat} : ∀ a q, wFa a q = true → wBo256 c a q = true := by
  intro a q h
  simp [wFa] at h
  simp [wBo256]
  omega
theorem wAt_wBo256 {c : Nat} : ∀ a q, wAt a q = true → wBo256 c a q = true := by
  intro a q h
  simp [wAt] at h
  simp [wBo256]
  omega
theorem wVr256_wBo256 {c : Nat} : ∀ a q, wVr256 a q = true → wBo256 c a q = true := by
  intro a q h
  simp [wVr256] at h
  simp [wBo256]
  omega
theorem wSv256_wBo256 {k c : Nat} (hk : c ≤ k ∧ k < 40) : ∀ a q, wSv256 k a q = true → wBo256 c a q = true := by
  intro a q h
  simp [wSv256] at h
  simp [wBo256]
  omega
theorem wSv256_n {k j q : Nat} (h : j ≠ k) : wSv256 k (276 + j) q = false := by
  cases e : wSv256 k (276 + j) q with
  | false => rfl
  | true => simp [wSv256] at e <;> omega
theorem wSs256_wBo256 {k c : Nat} (hk : c ≤ k ∧ k < 40) : ∀ a q, wSs256 k a q = true → wBo256 c a q = true := by
  intro a q h
  simp [wSs256] at h
  simp [wBo256]
  omega
theorem wSs256_n {k j q : Nat} (h : j ≠ k) : wSs256 k (276 + j) q = false := by
  cases e : wSs256 k (276 + j) q with
  | false => rfl
  | true => simp [wSs256] at e <;> omega
theorem wBo256_mono {c c' : Nat} (hk : c ≤ c') : ∀ a q, wBo256 c' a q = true → wBo256 c a q = true := by
  intro a q h
  simp [wBo256] at h
  simp [wBo256]
  omega
/-- what a body's contract is, at a depth -/
def BS256 (L : Nat) (xs : Nat → Int32) (D : Nat) (dep e : Int) : Prop := ∀ (nn : Nat) (m : yM), Ty gT m → m 5 e.toNat = 0 → m 2 2 ≤ e → m 2 1 = 0 → 1 ≤ m 256 10 → YC (gZ L xs) D 69 [.ref 2, yI dep] m nn (qI (fun r m' n' => n' = nn ∧ Ty gT m' ∧ Fr (wBo256 (m 256 16).toNat) m m' ∧ ((r = 0 ∨ r = 1) ∧ m' 2 2 ≤ e ∧ m 256 16 ≤ m' 256 16 ∧ m 256 12 ≤ m' 256 12 ∧ m 256 13 ≤ m' 256 13) ∧ (∀ z : Nat, (z : Int) < m 256 13 → m' 265 z = m 265 z) ∧ (r = 1 → RG 276 265 m' (m 256 16) (m' 256 16) (m 256 12) (m' 256 12) (m 256 13) (m' 256 13) ∧ EN 276 m' (m 256 16) (m' 256 16) (m' 256 16))))
set_option maxRecDepth 100000 in
theorem t59_256 {L : Nat} {xs : Nat → Int32} {d nn : Nat} {m : yM} {e : Int} (hT : Ty gT m) (he : 0 ≤ e ∧ e ≤ 320) (hE : m 5 e.toNat = 0) (ha : m 2 2 ≤ e) (hp : m 2 1 = 0) {k : Int} (hk : 0 ≤ k ∧ k ≤ 39) (hm : 1 ≤ m 256 10) (h16 : m 256 16 = k + 1) (hlt : m 2 2 < e) {dep : Int} (hdep : 0 ≤ dep ∧ dep ≤ 3) (hB : BS256 L xs (d + 4) (dep + 1) e) : YC (gZ L xs) (d + 5) 59 [.ref 2, .ref (276 + k.toNat), yI dep] m nn (qI (fun r m' n' => n' = nn ∧ Ty gT m' ∧ Fr (wBo256 k.toNat) m m' ∧ ((r = 0 ∨ r = 1) ∧ m' 2 2 ≤ e ∧ m 256 16 ≤ m' 256 16 ∧ m 256 12 ≤ m' 256 12 ∧ m 256 13 ≤ m' 256 13 ∧ (r = 1 → (m' (276 + k.toNat) 0 = 0 ∨ m' (276 + k.toNat) 0 = 1) ∧ 0 ≤ m' (276 + k.toNat) 3 ∧ k < m' (276 + k.toNat) 11 ∧ m' (276 + k.toNat) 11 ≤ m' 256 16)) ∧ (∀ z : Nat, (z : Int) < m 256 13 → m' 265 z = m 265 z) ∧ (r = 1 → RG 276 265 m' (k + 1) (m' 256 16) (m 256 12) (m' 256 12) (m 256 13) (m' 256 13) ∧ EN 276 m' (k + 1) (m' 256 16) (m' 256 16)))) := by
  have tb2 := hT.atp 2 2 0 320 rfl
  have tb12 := hT.atp 256 12 0 12 rfl
  have tb13 := hT.atp 256 13 0 8 rfl
  refine YC.mkB [some (.ref 2), some (.ref (276 + k.toNat)), some (yI dep)] kn59 rfl rfl ?_
  have hF : Fr (wBo256 k.toNat) m m := Fr.rf
  refine y_aload 1 c59_0 rfl rfl rfl ?_
  refine y_aload 2 c59_1 rfl rfl rfl ?_
  have tb2749 := hT.atp 2 2 0 320 rfl
  refine y_callP 5 [.ref 2] [.ref (276 + k.toNat)] c59_2 rfl rfl rfl rfl rfl (ycanO km38 ko2) (t38 hT he hE (by omega)) (fun r2750 hr2750 => ?_)
  refine y_iconst 7 c59_5 rfl ?_
  refine y_icmp 14 10 c59_7 rfl rfl (yc_ne (by omega) (by omega)) (fun hb2751 => ?_) (fun hb2751 => ?_)
  · refine y_iconst 15 c59_14 rfl ?_
    refine y_putI 18 c59_15 rfl (ff276_0 (by omega)) (y_fit0 _) ?_
    have hT2752 := hT.up (276 + k.toNat) 0 1 0 9 (ft276_0 (by omega)) (by omega)
    have hF2753 := hF.up (276 + k.toNat) 0 1 (wBo256_s (by omega))
    refine y_aload 19 c59_18 rfl rfl rfl ?_
    refine y_dup 20 c59_19 rfl rfl ?_
    refine y_getX 23 (m 2 2) c59_20 rfl kf2_2 (yup_na (by omega)) ?_
    refine y_iconst 24 c59_23 rfl ?_
    refine y_iadd 25 c59_24 rfl ?_
    refine y_putI 28 c59_25 rfl kf2_2 (y_fit0 _) ?_
    have hT2754 := hT2752.up 2 2 ((m 2 2) + 1) 0 320 rfl (by omega)
    have hF2755 := hF2753.up 2 2 ((m 2 2) + 1) rfl
    refine y_aload 29 c59_28 rfl rfl rfl ?_
    refine y_aload 30 c59_29 rfl rfl rfl ?_
    have es2757 : (yup (yup m (276 + k.toNat) 0 1) 2 2 ((m 2 2) + 1)) 2 2 = (m 2 2) + 1 := rfl
    have es2758 : (yup (yup m (276 + k.toNat) 0 1) 2 2 ((m 2 2) + 1)) 2 1 = m 2 1 := ((yup_nk (by decide)).trans (yup_na (by omega)))
    have tb2759 := hT.atp 2 1 ((-1)) 1 rfl
    have es2760 : (yup (yup m (276 + k.toNat) 0 1) 2 2 ((m 2 2) + 1)) 256 10 = m 256 10 := ((yup_na (by decide)).trans (yup_na (by omega)))
    have tb2761 := hT.atp 256 10 0 10 rfl
    have es2762 : (yup (yup m (276 + k.toNat) 0 1) 2 2 ((m 2 2) + 1)) 256 15 = m 256 15 := ((yup_na (by decide)).trans (yup_na (by omega)))
    have tb2763 := hT.atp 256 15 0 48 rfl
    refine y_callIB 33 [.ref 2] [.ref (276 + k.toNat)] c59_30 rfl rfl rfl rfl rfl (ycanO km58 ko2) (t58_256 hT2754 he (by have e1 : (yup (yup m (276 + k.toNat) 0 1) 2 2 ((m 2 2) + 1)) 5 e.toNat = m 5 e.toNat := ((yup_na (by decide)).trans (yup_na (by omega))); omega) (by omega) (by omega) (by omega)) (fun rq2756 mq2756 nq2756 hq2756 => ?_)
    obtain ⟨rfl, hTq2756, hFq2756, hq2756⟩ := hq2756
    have hF2764 := hF2755.tr hFq2756 wVr256_wBo256
    refine y_putI 36 c59_33 rfl (ff276_3 (by omega)) (y_fit0 _) ?_
    have hT2765 := hTq2756.up (276 + k.toNat) 3 rq2756 ((-1)) 47 (ft276_3 (by omega)) (by omega)
    have hF2766 := hF2764.up (276 + k.toNat) 3 rq2756 (wBo256_s (by omega))
    refine y_aload 37 c59_36 rfl rfl rfl ?_
    refine y_getX 40 rq2756 c59_37 rfl (ff276_3 (by omega)) (yup_eq _ _ _ _) ?_
    refine y_iconst 41 c59_40 rfl ?_
    refine y_icmp 54 44 c59_41 rfl rfl (yc_eq (by omega) (by omega)) (fun hb2767 => ?_) (fun hb2767 => ?_)
    · refine y_iconst 55 c59_54 rfl ?_
      have es2768 : (yup mq2756 (276 + k.toNat) 3 rq2756) 2 2 = mq2756 2 2 := (yup_na (by omega))
      have tb2769 := hTq2756.atp 2 2 0 320 rfl
      have es2770 : (yup mq2756 (276 + k.toNat) 3 rq2756) 256 16 = m 256 16 := ((yup_na (by omega)).trans ((hFq2756 256 16 rfl).trans ((yup_na (by decide)).trans (yup_na (by omega)))))
      have tb2771 := hT.atp 256 16 0 40 rfl
      have es2772 : (yup mq2756 (276 + k.toNat) 3 rq2756) 256 12 = m 256 12 := ((yup_na (by omega)).trans ((hFq2756 256 12 rfl).trans ((yup_na (by decide)).trans (yup_na (by omega)))))
      have tb2773 := hT.atp 256 12 0 12 rfl
      have es2774 : (yup mq2756 (276 + k.toNat) 3 rq2756) 256 13 = m 256 13 := ((yup_na (by omega)).trans ((hFq2756 256 13 rfl).trans ((yup_na (by decide)).trans (yup_na (by omega)))))
      have tb2775 := hT.atp 256 13 0 8 rfl
      have es2776 : (yup mq2756 (276 + k.toNat) 3 rq2756) (276 + k.toNat) 0 = 1 := ((yup_nk (by decide)).trans ((hFq2756 (276 + k.toNat) 0 wVr256_n276).trans ((yup_na (by omega)).trans (yup_eq _ _ _ _))))
      have es2777 : (yup mq2756 (276 + k.toNat) 3 rq2756) (276 + k.toNat) 3 = rq2756 := (yup_eq _ _ _ _)
      have es2778 : (yup mq2756 (276 + k.toNat) 3 rq2756) (276 + k.toNat) 11 = m (276 + k.toNat) 11 := ((yup_nk (by decide)).trans ((hFq2756 (276 + k.toNat) 11 wVr256_n276).trans ((yup_na (by omega)).trans (yup_nk (by decide)))))
      have tb2779 := hT.atp (276 + k.toNat) 11 0 40 (ft276_11 (by omega))
      exact y_retI c59_55 (y_fit1 (by omega)) ⟨rfl, hT2765, hF2766, by omega, fun z hz => ((yup_na (by omega)).trans ((hFq2756 265 z rfl).trans ((yup_na (by decide)).trans (yup_na (by omega))))), fun h1 => by omega⟩
    · refine y_aload 45 c59_44 rfl rfl rfl ?_
      refine y_iload 46 c59_45 rfl rfl ?_
      refine y_iconst 47 c59_46 rfl ?_
      refine y_iadd 48 c59_47 rfl ?_
      have es2781 : (yup mq2756 (276 + k.toNat) 3 rq2756) 2 2 = mq2756 2 2 := (yup_na (by omega))
      have tb2782 := hTq2756.atp 2 2 0 320 rfl
      have es2783 : (yup mq2756 (276 + k.toNat) 3 rq2756) 2 1 = m 2 1 := ((yup_na (by omega)).trans ((hFq2756 2 1 rfl).trans ((yup_nk (by decide)).trans (yup_na (by omega)))))
      have es2784 : (yup mq2756 (276 + k.toNat) 3 rq2756) 256 10 = m 256 10 := ((yup_na (by omega)).trans ((hFq2756 256 10 rfl).trans ((yup_na (by decide)).trans (yup_na (by omega)))))
      have es2785 : (yup mq2756 (276 + k.toNat) 3 rq2756) 256 12 = m 256 12 := ((yup_na (by omega)).trans ((hFq2756 256 12 rfl).trans ((yup_na (by decide)).trans (yup_na (by omega)))))
      have tb2786 := hT.atp 256 12 0 12 rfl
      have es2787 : (yup mq2756 (276 + k.toNat) 3 rq2756) 256 13 = m 256 13 := ((yup_na (by omega)).trans ((hFq2756 256 13 rfl).trans ((yup_na (by decide)).trans (yup_na (by omega)))))
      have tb2788 := hT.atp 256 13 0 8 rfl
      have es2789 : (yup mq2756 (276 + k.toNat) 3 rq2756) 256 16 = m 256 16 := ((yup_na (by omega)).trans ((hFq2756 256 16 rfl).trans ((yup_na (by decide)).trans (yup_na (by omega)))))
      have tb2790 := hT.atp 256 16 0 40 rfl
      refine y_callIB 51 [.ref 2, yI (dep + 1)] [] c59_48 rfl rfl rfl rfl rfl (ycanO km69 ko2) (hB _ _ hT2765 (by have e1 : (yup mq2756 (276 + k.toNat) 3 rq2756) 5 e.toNat = m 5 e.toNat := ((yup_na (by omega)).trans ((hFq2756 5 e.toNat rfl).trans ((yup_na (by decide)).trans (yup_na (by omega))))); omega) (by omega) (by omega) (by omega)) (fun rq2780 mq2780 nq2780 hq2780 => ?_)
      obtain ⟨rfl, hTq2780, hFq2780, hq2780, hZq2780, hGq2780⟩ := hq2780
      have hF2791 := hF2766.tr hFq2780 (wBo256_mono (by omega))
      refine y_if 56 54 c59_51 rfl rfl (yz_ne (by omega)) (fun hb2792 => ?_) (fun hb2792 => ?_)
      · refine y_aload 57 c59_56 rfl rfl rfl ?_
        refine y_aload 58 c59_57 rfl rfl rfl ?_
        refine y_getS 61 (B := 256) c59_58 rfl kf2_1 (by rw [show mq2780 2 1 = 0 from by have e : mq2780 2 1 = m 2 1 := ((hFq2780 2 1 ((wBo256_lt (by decide)).trans rfl)).trans ((yup_na (by omega)).trans ((hFq2756 2 1 rfl).trans ((yup_nk (by decide)).trans (yup_na (by omega)))))); omega]; rfl) ?_
        refine y_getX 64 (mq2780 256 16) c59_61 rfl kf256_16 rfl ?_
        have tb2793 := hTq2780.atp 256 16 0 40 rfl
        refine y_putI 67 c59_64 rfl (ff276_11 (by omega)) (y_fit0 _) ?_
        have hT2794 := hTq2780.up (276 + k.toNat) 11 (mq2780 256 16) 0 40 (ft276_11 (by omega)) (by omega)
        have hF2795 := hF2791.up (276 + k.toNat) 11 (mq2780 256 16) (wBo256_s (by omega))
        refine y_aload 68 c59_67 rfl rfl rfl ?_
        refine y_getX 71 1 c59_68 rfl (ff276_0 (by omega)) ((yup_nk (by decide)).trans ((hFq2780 (276 + k.toNat) 0 (wBo256_n (by omega))).trans ((yup_nk (by decide)).trans ((hFq2756 (276 + k.toNat) 0 wVr256_n276).trans ((yup_na (by omega)).trans (yup_eq _ _ _ _)))))) ?_
        refine y_iconst 72 c59_71 rfl ?_
        refine y_icmp 84 75 c59_72 rfl rfl (yc_eq (by omega) (by omega)) (fun hb2796 => ?_) (fun hb2796 => ?_)
        · refine y_iconst 85 c59_84 rfl ?_
          have es2797 : (yup mq2780 (276 + k.toNat) 11 (mq2780 256 16)) 2 2 = mq2780 2 2 := (yup_na (by omega))
          have tb2798 := hTq2780.atp 2 2 0 320 rfl
          have es2799 : (yup mq2780 (276 + k.toNat) 11 (mq2780 256 16)) 256 16 = mq2780 256 16 := (yup_na (by omega))
          have es2800 : (yup mq2780 (276 + k.toNat) 11 (mq2780 256 16)) 256 12 = mq2780 256 12 := (yup_na (by omega))
          have tb2801 := hTq2780.atp 256 12 0 12 rfl
          have es2802 : (yup mq2780 (276 + k.toNat) 11 (mq2780 256 16)) 256 13 = mq2780 256 13 := (yup_na (by omega))
          have tb2803 := hTq2780.atp 256 13 0 8 rfl
          have es2804 : (yup mq2780 (276 + k.toNat) 11 (mq2780 256 16)) (276 + k.toNat) 0 = 1 := ((yup_nk (by decide)).trans ((hFq2780 (276 + k.toNat) 0 (wBo256_n (by omega))).trans ((yup_nk (by decide)).trans ((hFq2756 (276 + k.toNat) 0 wVr256_n276).trans ((yup_na (by omega)).trans (yup_eq _ _ _ _))))))
          have es2805 : (yup mq2780 (276 + k.toNat) 11 (mq2780 256 16)) (276 + k.toNat) 3 = rq2756 := ((yup_nk (by decide)).trans ((hFq2780 (276 + k.toNat) 3 (wBo256_n (by omega))).trans (yup_eq _ _ _ _)))
          have es2806 : (yup mq2780 (276 + k.toNat) 11 (mq2780 256 16)) (276 + k.toNat) 11 = mq2780 256 16 := (yup_eq _ _ _ _)
          refine y_retI c59_85 (y_fit1 (by omega)) ⟨rfl, hT2794, hF2795, by omega, fun z hz => ((yup_na (by omega)).trans ((hZq2780 z (by omega)).trans ((yup_na (by omega)).trans ((hFq2756 265 z rfl).trans ((yup_na (by decide)).trans (yup_na (by omega))))))), fun h1 => ?_⟩
          obtain ⟨g1, n1⟩ := hGq2780 (by omega)
          have g2 := g1.fr (m' := yup mq2780 (276 + k.toNat) 11 (mq2780 256 16)) (c3 := mq2780 256 12) (fun j ja jb q _ => (yup_na (by omega))) (fun z za zb => (yup_na (by omega))) (by omega)
          have n2 := n1.fr (m' := yup mq2780 (276 + k.toNat) 11 (mq2780 256 16)) (c2 := (yup mq2780 (276 + k.toNat) 11 (mq2780 256 16)) 256 16) (fun j ja jb q => (yup_na (by omega))) (by omega)
          refine ⟨cast ?_ g2, cast ?_ n2⟩ <;> congr 1 <;> omega
        · exfalso; omega
      · refine y_iconst 55 c59_54 rfl ?_
        have tb2807 := hTq2780.atp 2 2 0 320 rfl
        have tb2808 := hTq2780.atp 256 16 0 40 rfl
        have tb2809 := hTq2780.atp 256 12 0 12 rfl
        have tb2810 := hTq2780.atp 256 13 0 8 rfl
        have es2811 : mq2780 (276 + k.toNat) 0 = 1 := ((hFq2780 (276 + k.toNat) 0 (wBo256_n (by omega))).trans ((yup_nk (by decide)).trans ((hFq2756 (276 + k.toNat) 0 wVr256_n276).trans ((yup_na (by omega)).trans (yup_eq _ _ _ _)))))
        have es2812 : mq2780 (276 + k.toNat) 3 = rq2756 := ((hFq2780 (276 + k.toNat) 3 (wBo256_n (by omega))).trans (yup_eq _ _ _ _))
        have es2813 : mq2780 (276 + k.toNat) 11 = m (276 + k.toNat) 11 := ((hFq2780 (276 + k.toNat) 11 (wBo256_n (by omega))).trans ((yup_nk (by decide)).trans ((hFq2756 (276 + k.toNat) 11 wVr256_n276).trans ((yup_na (by omega)).trans (yup_nk (by decide))))))
        have tb2814 := hT.atp (276 + k.toNat) 11 0 40 (ft276_11 (by omega))
        exact y_retI c59_55 (y_fit1 (by omega)) ⟨rfl, hTq2780, hF2791, by omega, fun z hz => ((hZq2780 z (by omega)).trans ((yup_na (by omega)).trans ((hFq2756 265 z rfl).trans ((yup_na (by decide)).trans (yup_na (by omega)))))), fun h1 => by omega⟩
  · refine y_iconst 11 c59_10 rfl ?_
    refine y_goto 15 c59_11 rfl ?_
    refine y_putI 18 c59_15 rfl (ff276_0 (by omega)) (y_fit0 _) ?_
    have hT2815 := hT.up (276 + k.toNat) 0 0 0 9 (ft276_0 (by omega)) (by omega)
    have hF2816 := hF.up (276 + k.toNat) 0 0 (wBo256_s (by omega))
    refine y_aload 19 c59_18 rfl rfl rfl ?_
    refine y_dup 20 c59_19 rfl rfl ?_
    refine y_getX 23 (m 2 2) c59_20 rfl kf2_2 (yup_na (by omega)) ?_
    refine y_iconst 24 c59_23 rfl ?_
    refine y_iadd 25 c59_24 rfl ?_
    refine y_putI 28 c59_25 rfl kf2_2 (y_fit0 _) ?_
    have hT2817 := hT2815.up 2 2 ((m 2 2) + 1) 0 320 rfl (by omega)
    have hF2818 := hF2816.up 2 2 ((m 2 2) + 1) rfl
    refine y_aload 29 c59_28 rfl rfl rfl ?_
    refine y_aload 30 c59_29 rfl rfl rfl ?_
    have es2820 : (yup (yup m (276 + k.toNat) 0 0) 2 2 ((m 2 2) + 1)) 2 2 = (m 2 2) + 1 := rfl
    have es2821 : (yup (yup m (276 + k.toNat) 0 0) 2 2 ((m 2 2) + 1)) 2 1 = m 2 1 := ((yup_nk (by decide)).trans (yup_na (by omega)))
    have tb2822 := hT.atp 2 1 ((-1)) 1 rfl
    have es2823 : (yup (yup m (276 + k.toNat) 0 0) 2 2 ((m 2 2) + 1)) 256 10 = m 256 10 := ((yup_na (by decide)).trans (yup_na (by omega)))
    have tb2824 := hT.atp 256 10 0 10 rfl
    have es2825 : (yup (yup m (276 + k.toNat) 0 0) 2 2 ((m 2 2) + 1)) 256 15 = m 256 15 := ((yup_na (by decide)).trans (yup_na (by omega)))
    have tb2826 := hT.atp 256 15 0 48 rfl
    refine y_callIB 33 [.ref 2] [.ref (276 + k.toNat)] c59_30 rfl rfl rfl rfl rfl (ycanO km58 ko2) (t58_256 hT2817 he (by have e1 : (yup (yup m (276 + k.toNat) 0 0) 2 2 ((m 2 2) + 1)) 5 e.toNat = m 5 e.toNat := ((yup_na (by decide)).trans (yup_na (by omega))); omega) (by omega) (by omega) (by omega)) (fun rq2819 mq2819 nq2819 hq2819 => ?_)
    obtain ⟨rfl, hTq2819, hFq2819, hq2819⟩ := hq2819
    have hF2827 := hF2818.tr hFq2819 wVr256_wBo256
    refine y_putI 36 c59_33 rfl (ff276_3 (by omega)) (y_fit0 _) ?_
    have hT2828 := hTq2819.up (276 + k.toNat) 3 rq2819 ((-1)) 47 (ft276_3 (by omega)) (by omega)
    have hF2829 := hF2827.up (276 + k.toNat) 3 rq2819 (wBo256_s (by omega))
    refine y_aload 37 c59_36 rfl rfl rfl ?_
    refine y_getX 40 rq2819 c59_37 rfl (ff276_3 (by omega)) (yup_eq _ _ _ _) ?_
    refine y_iconst 41 c59_40 rfl ?_
    refine y_icmp 54 44 c59_41 rfl rfl (yc_eq (by omega) (by omega)) (fun hb2830 => ?_) (fun hb2830 => ?_)
    · refine y_iconst 55 c59_54 rfl ?_
      have es2831 : (yup mq2819 (276 + k.toNat) 3 rq2819) 2 2 = mq2819 2 2 := (yup_na (by omega))
      have tb2832 := hTq2819.atp 2 2 0 320 rfl
      have es2833 : (yup mq2819 (276 + k.toNat) 3 rq2819) 256 16 = m 256 16 := ((yup_na (by omega)).trans ((hFq2819 256 16 rfl).trans ((yup_na (by decide)).trans (yup_na (by omega)))))
      have tb2834 := hT.atp 256 16 0 40 rfl
      have es2835 : (yup mq2819 (276 + k.toNat) 3 rq2819) 256 12 = m 256 12 := ((yup_na (by omega)).trans ((hFq2819 256 12 rfl).trans ((yup_na (by decide)).trans (yup_na (by omega)))))
      have tb2836 := hT.atp 256 12 0 12 rfl
      have es2837 : (yup mq2819 (276 + k.toNat) 3 rq2819) 256 13 = m 256 13 := ((yup_na (by omega)).trans ((hFq2819 256 13 rfl).trans ((yup_na (by decide)).trans (yup_na (by omega)))))
      have tb2838 := hT.atp 256 13 0 8 rfl
      have es2839 : (yup mq2819 (276 + k.toNat) 3 rq2819) (276 + k.toNat) 0 = 0 := ((yup_nk (by decide)).trans ((hFq2819 (276 + k.toNat) 0 wVr256_n276).trans ((yup_na (by omega)).trans (yup_eq _ _ _ _))))
      have es2840 : (yup mq2819 (276 + k.toNat) 3 rq2819) (276 + k.toNat) 3 = rq2819 := (yup_eq _ _ _ _)
      have es2841 : (yup mq2819 (276 + k.toNat) 3 rq2819) (276 + k.toNat) 11 = m (276 + k.toNat) 11 := ((yup_nk (by decide)).trans ((hFq2819 (276 + k.toNat) 11 wVr256_n276).trans ((yup_na (by omega)).trans (yup_nk (by decide)))))
      have tb2842 := hT.atp (276 + k.toNat) 11 0 40 (ft276_11 (by omega))
      exact y_retI c59_55 (y_fit1 (by omega)) ⟨rfl, hT2828, hF2829, by omega, fun z hz => ((yup_na (by omega)).trans ((hFq2819 265 z rfl).trans ((yup_na (by decide)).trans (yup_na (by omega))))), fun h1 => by omega⟩
    · refine y_aload 45 c59_44 rfl rfl rfl ?_
      refine y_iload 46 c59_45 rfl rfl ?_
      refine y_iconst 47 c59_46 rfl ?_
      refine y_iadd 48 c59_47 rfl ?_
      have es2844 : (yup mq2819 (276 + k.toNat) 3 rq2819) 2 2 = mq2819 2 2 := (yup_na (by omega))
      have tb2845 := hTq2819.atp 2 2 0 320 rfl
      have es2846 : (yup mq2819 (276 + k.toNat) 3 rq2819) 2 1 = m 2 1 := ((yup_na (by omega)).trans ((hFq2819 2 1 rfl).trans ((yup_nk (by decide)).trans (yup_na (by omega)))))
      have es2847 : (yup mq2819 (276 + k.toNat) 3 rq2819) 256 10 = m 256 10 := ((yup_na (by omega)).trans ((hFq2819 256 10 rfl).trans ((yup_na (by decide)).trans (yup_na (by omega)))))
      have es2848 : (yup mq2819 (276 + k.toNat) 3 rq2819) 256 12 = m 256 12 := ((yup_na (by omega)).trans ((hFq2819 256 12 rfl).trans ((yup_na (by decide)).trans (yup_na (by omega)))))
      have tb2849 := hT.atp 256 12 0 12 rfl
      have es2850 : (yup mq2819 (276 + k.toNat) 3 rq2819) 256 13 = m 256 13 := ((yup_na (by omega)).trans ((hFq2819 256 13 rfl).trans ((yup_na (by decide)).trans (yup_na (by omega)))))
      have tb2851 := hT.atp 256 13 0 8 rfl
      have es2852 : (yup mq2819 (276 + k.toNat) 3 rq2819) 256 16 = m 256 16 := ((yup_na (by omega)).trans ((hFq2819 256 16 rfl).trans ((yup_na (by decide)).trans (yup_na (by omega)))))
      have tb2853 := hT.atp 256 16 0 40 rfl
      refine y_callIB 51 [.ref 2, yI (dep + 1)] [] c59_48 rfl rfl rfl rfl rfl (ycanO km69 ko2) (hB _ _ hT2828 (by have e1 : (yup mq2819 (276 + k.toNat) 3 rq2819) 5 e.toNat = m 5 e.toNat := ((yup_na (by omega)).trans ((hFq2819 5 e.toNat rfl).trans ((yup_na (by decide)).trans (yup_na (by omega))))); omega) (by omega) (by omega) (by omega)) (fun rq2843 mq2843 nq2843 hq2843 => ?_)
      obtain ⟨rfl, hTq2843, hFq2843, hq2843, hZq2843, hGq2843⟩ := hq2843
      have hF2854 := hF2829.tr hFq2843 (wBo256_mono (by omega))
      refine y_if 56 54 c59_51 rfl rfl (yz_ne (by omega)) (fun hb2855 => ?_) (fun hb2855 => ?_)
      · refine y_aload 57 c59_56 rfl rfl rfl ?_
        refine y_aload 58 c59_57 rfl rfl rfl ?_
        refine y_getS 61 (B := 256) c59_58 rfl kf2_1 (by rw [show mq2843 2 1 = 0 from by have e : mq2843 2 1 = m 2 1 := ((hFq2843 2 1 ((wBo256_lt (by decide)).trans rfl)).trans ((yup_na (by omega)).trans ((hFq2819 2 1 rfl).trans ((yup_nk (by decide)).trans (yup_na (by omega)))))); omega]; rfl) ?_
        refine y_getX 64 (mq2843 256 16) c59_61 rfl kf256_16 rfl ?_
        have tb2856 := hTq2843.atp 256 16 0 40 rfl
        refine y_putI 67 c59_64 rfl (ff276_11 (by omega)) (y_fit0 _) ?_
        have hT2857 := hTq2843.up (276 + k.toNat) 11 (mq2843 256 16) 0 40 (ft276_11 (by omega)) (by omega)
        have hF2858 := hF2854.up (276 + k.toNat) 11 (mq2843 256 16) (wBo256_s (by omega))
        refine y_aload 68 c59_67 rfl rfl rfl ?_
        refine y_getX 71 0 c59_68 rfl (ff276_0 (by omega)) ((yup_nk (by decide)).trans ((hFq2843 (276 + k.toNat) 0 (wBo256_n (by omega))).trans ((yup_nk (by decide)).trans ((hFq2819 (276 + k.toNat) 0 wVr256_n276).trans ((yup_na (by omega)).trans (yup_eq _ _ _ _)))))) ?_
        refine y_iconst 72 c59_71 rfl ?_
        refine y_icmp 84 75 c59_72 rfl rfl (yc_eq (by omega) (by omega)) (fun hb2859 => ?_) (fun hb2859 => ?_)
        · exfalso; omega
        · refine y_aload 76 c59_75 rfl rfl rfl ?_
          have es2860 : (yup mq2843 (276 + k.toNat) 11 (mq2843 256 16)) 2 2 = mq2843 2 2 := (yup_na (by omega))
          have tb2861 := hTq2843.atp 2 2 0 320 rfl
          refine y_callP 79 [.ref 2] [] c59_76 rfl rfl rfl rfl rfl (ycanO km38 ko2) (t38 hT2857 he (by have e1 : (yup mq2843 (276 + k.toNat) 11 (mq2843 256 16)) 5 e.toNat = m 5 e.toNat := ((yup_na (by omega)).trans ((hFq2843 5 e.toNat ((wBo256_lt (by decide)).trans rfl)).trans ((yup_na (by omega)).trans ((hFq2819 5 e.toNat rfl).trans ((yup_na (by decide)).trans (yup_na (by omega))))))); omega) (by omega)) (fun r2862 hr2862 => ?_)
          refine y_iconst 81 c59_79 rfl ?_
          refine y_icmp 86 84 c59_81 rfl rfl (yc_eq (by omega) (by omega)) (fun hb2863 => ?_) (fun hb2863 => ?_)
          · refine y_aload 87 c59_86 rfl rfl rfl ?_
            refine y_dup 88 c59_87 rfl rfl ?_
            refine y_getX 91 (mq2843 2 2) c59_88 rfl kf2_2 (yup_na (by omega)) ?_
            refine y_iconst 92 c59_91 rfl ?_
            refine y_iadd 93 c59_92 rfl ?_
            refine y_putI 96 c59_93 rfl kf2_2 (y_fit0 _) ?_
            have hT2864 := hT2857.up 2 2 ((mq2843 2 2) + 1) 0 320 rfl (by omega)
            have hF2865 := hF2858.up 2 2 ((mq2843 2 2) + 1) rfl
            refine y_aload 97 c59_96 rfl rfl rfl ?_
            refine y_iload 98 c59_97 rfl rfl ?_
            refine y_iconst 99 c59_98 rfl ?_
            refine y_iadd 100 c59_99 rfl ?_
            have es2867 : (yup (yup mq2843 (276 + k.toNat) 11 (mq2843 256 16)) 2 2 ((mq2843 2 2) + 1)) 2 2 = (mq2843 2 2) + 1 := rfl
            have es2868 : (yup (yup mq2843 (276 + k.toNat) 11 (mq2843 256 16)) 2 2 ((mq2843 2 2) + 1)) 2 1 = m 2 1 := ((yup_nk (by decide)).trans ((yup_na (by omega)).trans ((hFq2843 2 1 ((wBo256_lt (by decide)).trans rfl)).trans ((yup_na (by omega)).trans ((hFq2819 2 1 rfl).trans ((yup_nk (by decide)).trans (yup_na (by omega))))))))
            have es2869 : (yup (yup mq2843 (276 + k.toNat) 11 (mq2843 256 16)) 2 2 ((mq2843 2 2) + 1)) 256 10 = m 256 10 := ((yup_na (by decide)).trans ((yup_na (by omega)).trans ((hFq2843 256 10 ((wBo256_lt (by decide)).trans rfl)).trans ((yup_na (by omega)).trans ((hFq2819 256 10 rfl).trans ((yup_na (by decide)).trans (yup_na (by omega))))))))
            have es2870 : (yup (yup mq2843 (276 + k.toNat) 11 (mq2843 256 16)) 2 2 ((mq2843 2 2) + 1)) 256 12 = mq2843 256 12 := ((yup_na (by decide)).trans (yup_na (by omega)))
            have tb2871 := hTq2843.atp 256 12 0 12 rfl
            have es2872 : (yup (yup mq2843 (276 + k.toNat) 11 (mq2843 256 16)) 2 2 ((mq2843 2 2) + 1)) 256 13 = mq2843 256 13 := ((yup_na (by decide)).trans (yup_na (by omega)))
            have tb2873 := hTq2843.atp 256 13 0 8 rfl
            have es2874 : (yup (yup mq2843 (276 + k.toNat) 11 (mq2843 256 16)) 2 2 ((mq2843 2 2) + 1)) 256 16 = mq2843 256 16 := ((yup_na (by decide)).trans (yup_na (by omega)))
            refine y_callIB 103 [.ref 2, yI (dep + 1)] [] c59_100 rfl rfl rfl rfl rfl (ycanO km69 ko2) (hB _ _ hT2864 (by have e1 : (yup (yup mq2843 (276 + k.toNat) 11 (mq2843 256 16)) 2 2 ((mq2843 2 2) + 1)) 5 e.toNat = m 5 e.toNat := ((yup_na (by decide)).trans ((yup_na (by omega)).trans ((hFq2843 5 e.toNat ((wBo256_lt (by decide)).trans rfl)).trans ((yup_na (by omega)).trans ((hFq2819 5 e.toNat rfl).trans ((yup_na (by decide)).trans (yup_na (by omega)))))))); omega) (by omega) (by omega) (by omega)) (fun rq2866 mq2866 nq2866 hq2866 => ?_)
            obtain ⟨rfl, hTq2866, hFq2866, hq2866, hZq2866, hGq2866⟩ := hq2866
            have hF2875 := hF2865.tr hFq2866 (wBo256_mono (by omega))
            have tb2876 := hTq2866.atp 2 2 0 320 rfl
            have tb2877 := hTq2866.atp 256 16 0 40 rfl
            have tb2878 := hTq2866.atp 256 12 0 12 rfl
            have tb2879 := hTq2866.atp 256 13 0 8 rfl
            have es2880 : mq2866 (276 + k.toNat) 0 = 0 := ((hFq2866 (276 + k.toNat) 0 (wBo256_n (by omega))).trans ((yup_na (by omega)).trans ((yup_nk (by decide)).trans ((hFq2843 (276 + k.toNat) 0 (wBo256_n (by omega))).trans ((yup_nk (by decide)).trans ((hFq2819 (276 + k.toNat) 0 wVr256_n276).trans ((yup_na (by omega)).trans (yup_eq _ _ _ _))))))))
            have es2881 : mq2866 (276 + k.toNat) 3 = rq2819 := ((hFq2866 (276 + k.toNat) 3 (wBo256_n (by omega))).trans ((yup_na (by omega)).trans ((yup_nk (by decide)).trans ((hFq2843 (276 + k.toNat) 3 (wBo256_n (by omega))).trans (yup_eq _ _ _ _)))))
            have es2882 : mq2866 (276 + k.toNat) 11 = mq2843 256 16 := ((hFq2866 (276 + k.toNat) 11 (wBo256_n (by omega))).trans ((yup_na (by omega)).trans (yup_eq _ _ _ _)))
            refine y_retI c59_103 (y_fit1 (by omega)) ⟨rfl, hTq2866, hF2875, by omega, fun z hz => ((hZq2866 z (by omega)).trans ((yup_na (by decide)).trans ((yup_na (by omega)).trans ((hZq2843 z (by omega)).trans ((yup_na (by omega)).trans ((hFq2819 265 z rfl).trans ((yup_na (by decide)).trans (yup_na (by omega))))))))), fun h1 => ?_⟩
            obtain ⟨g1, n1⟩ := hGq2843 (by omega)
            have g2 := g1.fr (m' := mq2866) (c3 := mq2843 256 12) (fun j ja jb q _ => ((hFq2866 _ _ (wBo256_n (by omega))).trans ((yup_na (by omega)).trans (yup_na (by omega))))) (fun z za zb => ((hZq2866 z (by omega)).trans ((yup_na (by decide)).trans (yup_na (by omega))))) (by omega)
            have n2 := n1.fr (m' := mq2866) (c2 := mq2866 256 16) (fun j ja jb q => ((hFq2866 _ _ (wBo256_n (by omega))).trans ((yup_na (by omega)).trans (yup_na (by omega))))) (by omega)
            obtain ⟨g3, n3⟩ := hGq2866 (by omega)
            have g4 := RG.app (c3 := mq2866 256 12) (d3 := mq2866 256 13) (c := mq2866 256 16) g2 (cast (by congr 1 <;> omega) g3) (by omega) (by omega) (by omega)
            have n4 := EN.app (b := mq2843 256 16) n2 (cast (by congr 1 <;> omega) n3)
            refine ⟨cast ?_ g4, cast ?_ n4⟩ <;> congr 1 <;> omega
          · refine y_iconst 85 c59_84 rfl ?_
            have es2883 : (yup mq2843 (276 + k.toNat) 11 (mq2843 256 16)) 2 2 = mq2843 2 2 := (yup_na (by omega))
            have es2884 : (yup mq2843 (276 + k.toNat) 11 (mq2843 256 16)) 256 16 = mq2843 256 16 := (yup_na (by omega))
            have es2885 : (yup mq2843 (276 + k.toNat) 11 (mq2843 256 16)) 256 12 = mq2843 256 12 := (yup_na (by omega))
            have tb2886 := hTq2843.atp 256 12 0 12 rfl
            have es2887 : (yup mq2843 (276 + k.toNat) 11 (mq2843 256 16)) 256 13 = mq2843 256 13 := (yup_na (by omega))
            have tb2888 := hTq2843.atp 256 13 0 8 rfl
            have es2889 : (yup mq2843 (276 + k.toNat) 11 (mq2843 256 16)) (276 + k.toNat) 0 = 0 := ((yup_nk (by decide)).trans ((hFq2843 (276 + k.toNat) 0 (wBo256_n (by omega))).trans ((yup_nk (by decide)).trans ((hFq2819 (276 + k.toNat) 0 wVr256_n276).trans ((yup_na (by omega)).trans (yup_eq _ _ _ _))))))
            have es2890 : (yup mq2843 (276 + k.toNat) 11 (mq2843 256 16)) (276 + k.toNat) 3 = rq2819 := ((yup_nk (by decide)).trans ((hFq2843 (276 + k.toNat) 3 (wBo256_n (by omega))).trans (yup_eq _ _ _ _)))
            have es2891 : (yup mq2843 (276 + k.toNat) 11 (mq2843 256 16)) (276 + k.toNat) 11 = mq2843 256 16 := (yup_eq _ _ _ _)
            refine y_retI c59_85 (y_fit1 (by omega)) ⟨rfl, hT2857, hF2858, by omega, fun z hz => ((yup_na (by omega)).trans ((hZq2843 z (by omega)).trans ((yup_na (by omega)).trans ((hFq2819 265 z rfl).trans ((yup_na (by decide)).trans (yup_na (by omega))))))), fun h1 => ?_⟩
            obtain ⟨g1, n1⟩ := hGq2843 (by omega)
            have g2 := g1.fr (m' := yup mq2843 (276 + k.toNat) 11 (mq2843 256 16)) (c3 := mq2843 256 12) (fun j ja jb q _ => (yup_na (by omega))) (fun z za zb => (yup_na (by omega))) (by omega)
            have n2 := n1.fr (m' := yup mq2843 (276 + k.toNat) 11 (mq2843 256 16)) (c2 := (yup mq2843 (276 + k.toNat) 11 (mq2843 256 16)) 256 16) (fun j ja jb q => (yup_na (by omega))) (by omega)
            refine ⟨cast ?_ g2, cast ?_ n2⟩ <;> congr 1 <;> omega
      · refine y_iconst 55 c59_54 rfl ?_
        have tb2892 := hTq2843.atp 2 2 0 320 rfl
        have tb2893 := hTq2843.atp 256 16 0 40 rfl
        have tb2894 := hTq2843.atp 256 12 0 12 rfl
        have tb2895 := hTq2843.atp 256 13 0 8 rfl
        have es2896 : mq2843 (276 + k.toNat) 0 = 0 := ((hFq2843 (276 + k.toNat) 0 (wBo256_n (by omega))).trans ((yup_nk (by decide)).trans ((hFq2819 (276 + k.toNat) 0 wVr256_n276).trans ((yup_na (by omega)).trans (yup_eq _ _ _ _)))))
        have es2897 : mq2843 (276 + k.toNat) 3 = rq2819 := ((hFq2843 (276 + k.toNat) 3 (wBo256_n (by omega))).trans (yup_eq _ _ _ _))
        have es2898 : mq2843 (276 + k.toNat) 11 = m (276 + k.toNat) 11 := ((hFq2843 (276 + k.toNat) 11 (wBo256_n (by omega))).trans ((yup_nk (by decide)).trans ((hFq2819 (276 + k.toNat) 11 wVr256_n276).trans ((yup_na (by omega)).trans (yup_nk (by decide))))))
        have tb2899 := hT.atp (276 + k.toNat) 11 0 40 (ft276_11 (by omega))
        exact y_retI c59_55 (y_fit1 (by omega)) ⟨rfl, hTq2843, hF2854, by omega, fun z hz => ((hZq2843 z (by omega)).trans ((yup_na (by omega)).trans ((hFq2819 265 z rfl).trans ((yup_na (by decide)).trans (yup_na (by omega)))))), fun h1 => by omega⟩
def wBo0316 (a q : Nat) : Bool := (a == 2 && (q == 2 || q == 4)) || (a == 316 && (decide (12 ≤ q) && decide (q ≤ 16))) || a == 321 || a == 325
def wBo316 (c a q : Nat) : Bool := ((a == 2 && (q == 2 || q == 4)) || (a == 316 && (decide (12 ≤ q) && decide (q ≤ 16))) || a == 321 || a == 325) || decide (336 + c ≤ a ∧ a < 376)
theorem wBo316_lt {c a q : Nat} (h : a < 336) : wBo316 c a q = wBo0316 a q := by
  have e : decide (336 + c ≤ a ∧ a < 376) = false := by simp; omega
  simp only [wBo316, wBo0316, e, Bool.or_false]
theorem wBo316_s {c j q : Nat} (h : c ≤ j ∧ j < 40) : wBo316 c (336 + j) q = true := by
  simp [wBo316]
  omega
theorem wBo316_n {c j q : Nat} (h : j < c) : wBo316 c (336 + j) q = false := by
  cases e : wBo316 c (336 + j) q with
  | false => rfl
  | true => simp [wBo316] at e <;> omega
theorem wFa_wBo316 {c : Nat} : ∀ a q, wFa a q = true → wBo316 c a q = true := by
  intro a q h
  simp [wFa] at h
  simp [wBo316]
  omega
theorem wAt_wBo316 {c : Nat} : ∀ a q, wAt a q = true → wBo316 c a q = true := by
  intro a q h
  simp [wAt] at h
  simp [wBo316]
  omega
theorem wVr316_wBo316 {c : Nat} : ∀ a q, wVr316 a q = true → wBo316 c a q = true := by
  intro a q h
  simp [wVr316] at h
  simp [wBo316]
  omega
theorem wSv316_wBo316 {k c : Nat} (hk : c ≤ k ∧ k < 40) : ∀ a q, wSv316 k a q = true → wBo316 c a q = true := by
  intro a q h
  simp [wSv316] at h
  simp [wBo316]
  omega
theorem wSv316_n {k j q : Nat} (h : j ≠ k) : wSv316 k (336 + j) q = false := by
  cases e : wSv316 k (336 + j) q with
  | false => rfl
  | true => simp [wSv316] at e <;> omega
theorem wSs316_wBo316 {k c : Nat} (hk : c ≤ k ∧ k < 40) : ∀ a q, wSs316 k a q = true → wBo316 c a q = true := by
  intro a q h
  simp [wSs316] at h
  simp [wBo316]
  omega
theorem wSs316_n {k j q : Nat} (h : j ≠ k) : wSs316 k (336 + j) q = false := by
  cases e : wSs316 k (336 + j) q with
  | false => rfl
  | true => simp [wSs316] at e <;> omega
theorem wBo316_mono {c c' : Nat} (hk : c ≤ c') : ∀ a q, wBo316 c' a q = true → wBo316 c a q = true := by
  intro a q h
  simp [wBo316] at h
  simp [wBo316]
  omega
/-- what a body's contract is, at a depth -/
def BS316 (L : Nat) (xs : Nat → Int32) (D : Nat) (dep e : Int) : Prop := ∀ (nn : Nat) (m : yM), Ty gT m → m 5 e.toNat = 0 → m 2 2 ≤ e → m 2 1 = 1 → 1 ≤ m 316 10 → YC (gZ L xs) D 69 [.ref 2, yI dep] m nn (qI (fun r m' n' => n' = nn ∧ Ty gT m' ∧ Fr (wBo316 (m 316 16).toNat) m m' ∧ ((r = 0 ∨ r = 1) ∧ m' 2 2 ≤ e ∧ m 316 16 ≤ m' 316 16 ∧ m 316 12 ≤ m' 316 12 ∧ m 316 13 ≤ m' 316 13) ∧ (∀ z : Nat, (z : Int) < m 316 13 → m' 325 z = m 325 z) ∧ (r = 1 → RG 336 325 m' (m 316 16) (m' 316 16) (m 316 12) (m' 316 12) (m 316 13) (m' 316 13) ∧ EN 336 m' (m 316 16) (m' 316 16) (m' 316 16))))
set_option maxRecDepth 100000 in
theorem t59_316 {L : Nat} {xs : Nat → Int32} {d nn : Nat} {m : yM} {e : Int} (hT : Ty gT m) (he : 0 ≤ e ∧ e ≤ 320) (hE : m 5 e.toNat = 0) (ha : m 2 2 ≤ e) (hp : m 2 1 = 1) {k : Int} (hk : 0 ≤ k ∧ k ≤ 39) (hm : 1 ≤ m 316 10) (h16 : m 316 16 = k + 1) (hlt : m 2 2 < e) {dep : Int} (hdep : 0 ≤ dep ∧ dep ≤ 3) (hB : BS316 L xs (d + 4) (dep + 1) e) : YC (gZ L xs) (d + 5) 59 [.ref 2, .ref (336 + k.toNat), yI dep] m nn (qI (fun r m' n' => n' = nn ∧ Ty gT m' ∧ Fr (wBo316 k.toNat) m m' ∧ ((r = 0 ∨ r = 1) ∧ m' 2 2 ≤ e ∧ m 316 16 ≤ m' 316 16 ∧ m 316 12 ≤ m' 316 12 ∧ m 316 13 ≤ m' 316 13 ∧ (r = 1 → (m' (336 + k.toNat) 0 = 0 ∨ m' (336 + k.toNat) 0 = 1) ∧ 0 ≤ m' (336 + k.toNat) 3 ∧ k < m' (336 + k.toNat) 11 ∧ m' (336 + k.toNat) 11 ≤ m' 316 16)) ∧ (∀ z : Nat, (z : Int) < m 316 13 → m' 325 z = m 325 z) ∧ (r = 1 → RG 336 325 m' (k + 1) (m' 316 16) (m 316 12) (m' 316 12) (m 316 13) (m' 316 13) ∧ EN 336 m' (k + 1) (m' 316 16) (m' 316 16)))) := by
  have tb2 := hT.atp 2 2 0 320 rfl
  have tb12 := hT.atp 316 12 0 12 rfl
  have tb13 := hT.atp 316 13 0 8 rfl
  refine YC.mkB [some (.ref 2), some (.ref (336 + k.toNat)), some (yI dep)] kn59 rfl rfl ?_
  have hF : Fr (wBo316 k.toNat) m m := Fr.rf
  refine y_aload 1 c59_0 rfl rfl rfl ?_
  refine y_aload 2 c59_1 rfl rfl rfl ?_
  have tb3212 := hT.atp 2 2 0 320 rfl
  refine y_callP 5 [.ref 2] [.ref (336 + k.toNat)] c59_2 rfl rfl rfl rfl rfl (ycanO km38 ko2) (t38 hT he hE (by omega)) (fun r3213 hr3213 => ?_)
  refine y_iconst 7 c59_5 rfl ?_
  refine y_icmp 14 10 c59_7 rfl rfl (yc_ne (by omega) (by omega)) (fun hb3214 => ?_) (fun hb3214 => ?_)
  · refine y_iconst 15 c59_14 rfl ?_
    refine y_putI 18 c59_15 rfl (ff336_0 (by omega)) (y_fit0 _) ?_
    have hT3215 := hT.up (336 + k.toNat) 0 1 0 9 (ft336_0 (by omega)) (by omega)
    have hF3216 := hF.up (336 + k.toNat) 0 1 (wBo316_s (by omega))
    refine y_aload 19 c59_18 rfl rfl rfl ?_
    refine y_dup 20 c59_19 rfl rfl ?_
    refine y_getX 23 (m 2 2) c59_20 rfl kf2_2 (yup_na (by omega)) ?_
    refine y_iconst 24 c59_23 rfl ?_
    refine y_iadd 25 c59_24 rfl ?_
    refine y_putI 28 c59_25 rfl kf2_2 (y_fit0 _) ?_
    have hT3217 := hT3215.up 2 2 ((m 2 2) + 1) 0 320 rfl (by omega)
    have hF3218 := hF3216.up 2 2 ((m 2 2) + 1) rfl
    refine y_aload 29 c59_28 rfl rfl rfl ?_
    refine y_aload 30 c59_29 rfl rfl rfl ?_
    have es3220 : (yup (yup m (336 + k.toNat) 0 1) 2 2 ((m 2 2) + 1)) 2 2 = (m 2 2) + 1 := rfl
    have es3221 : (yup (yup m (336 + k.toNat) 0 1) 2 2 ((m 2 2) + 1)) 2 1 = m 2 1 := ((yup_nk (by decide)).trans (yup_na (by omega)))
    have tb3222 := hT.atp 2 1 ((-1)) 1 rfl
    have es3223 : (yup (yup m (336 + k.toNat) 0 1) 2 2 ((m 2 2) + 1)) 316 10 = m 316 10 := ((yup_na (by decide)).trans (yup_na (by omega)))
    have tb3224 := hT.atp 316 10 0 10 rfl
    have es3225 : (yup (yup m (336 + k.toNat) 0 1) 2 2 ((m 2 2) + 1)) 316 15 = m 316 15 := ((yup_na (by decide)).trans (yup_na (by omega)))
    have tb3226 := hT.atp 316 15 0 48 rfl
    refine y_callIB 33 [.ref 2] [.ref (336 + k.toNat)] c59_30 rfl rfl rfl rfl rfl (ycanO km58 ko2) (t58_316 hT3217 he (by have e1 : (yup (yup m (336 + k.toNat) 0 1) 2 2 ((m 2 2) + 1)) 5 e.toNat = m 5 e.toNat := ((yup_na (by decide)).trans (yup_na (by omega))); omega) (by omega) (by omega) (by omega)) (fun rq3219 mq3219 nq3219 hq3219 => ?_)
    obtain ⟨rfl, hTq3219, hFq3219, hq3219⟩ := hq3219
    have hF3227 := hF3218.tr hFq3219 wVr316_wBo316
    refine y_putI 36 c59_33 rfl (ff336_3 (by omega)) (y_fit0 _) ?_
    have hT3228 := hTq3219.up (336 + k.toNat) 3 rq3219 ((-1)) 47 (ft336_3 (by omega)) (by omega)
    have hF3229 := hF3227.up (336 + k.toNat) 3 rq3219 (wBo316_s (by omega))
    refine y_aload 37 c59_36 rfl rfl rfl ?_
    refine y_getX 40 rq3219 c59_37 rfl (ff336_3 (by omega)) (yup_eq _ _ _ _) ?_
    refine y_iconst 41 c59_40 rfl ?_
    refine y_icmp 54 44 c59_41 rfl rfl (yc_eq (by omega) (by omega)) (fun hb3230 => ?_) (fun hb3230 => ?_)
    · refine y_iconst 55 c59_54 rfl ?_
      have es3231 : (yup mq3219 (336 + k.toNat) 3 rq3219) 2 2 = mq3219 2 2 := (yup_na (by omega))
      have tb3232 := hTq3219.atp 2 2 0 320 rfl
      have es3233 : (yup mq3219 (336 + k.toNat) 3 rq3219) 316 16 = m 316 16 := ((yup_na (by omega)).trans ((hFq3219 316 16 rfl).trans ((yup_na (by decide)).trans (yup_na (by omega)))))
      have tb3234 := hT.atp 316 16 0 40 rfl
      have es3235 : (yup mq3219 (336 + k.toNat) 3 rq3219) 316 12 = m 316 12 := ((yup_na (by omega)).trans ((hFq3219 316 12 rfl).trans ((yup_na (by decide)).trans (yup_na (by omega)))))
      have tb3236 := hT.atp 316 12 0 12 rfl
      have es3237 : (yup mq3219 (336 + k.toNat) 3 rq3219) 316 13 = m 316 13 := ((yup_na (by omega)).trans ((hFq3219 316 13 rfl).trans ((yup_na (by decide)).trans (yup_na (by omega)))))
      have tb3238 := hT.atp 316 13 0 8 rfl
      have es3239 : (yup mq3219 (336 + k.toNat) 3 rq3219) (336 + k.toNat) 0 = 1 := ((yup_nk (by decide)).trans ((hFq3219 (336 + k.toNat) 0 wVr316_n336).trans ((yup_na (by omega)).trans (yup_eq _ _ _ _))))
      have es3240 : (yup mq3219 (336 + k.toNat) 3 rq3219) (336 + k.toNat) 3 = rq3219 := (yup_eq _ _ _ _)
      have es3241 : (yup mq3219 (336 + k.toNat) 3 rq3219) (336 + k.toNat) 11 = m (336 + k.toNat) 11 := ((yup_nk (by decide)).trans ((hFq3219 (336 + k.toNat) 11 wVr316_n336).trans ((yup_na (by omega)).trans (yup_nk (by decide)))))
      have tb3242 := hT.atp (336 + k.toNat) 11 0 40 (ft336_11 (by omega))
      exact y_retI c59_55 (y_fit1 (by omega)) ⟨rfl, hT3228, hF3229, by omega, fun z hz => ((yup_na (by omega)).trans ((hFq3219 325 z rfl).trans ((yup_na (by decide)).trans (yup_na (by omega))))), fun h1 => by omega⟩
    · refine y_aload 45 c59_44 rfl rfl rfl ?_
      refine y_iload 46 c59_45 rfl rfl ?_
      refine y_iconst 47 c59_46 rfl ?_
      refine y_iadd 48 c59_47 rfl ?_
      have es3244 : (yup mq3219 (336 + k.toNat) 3 rq3219) 2 2 = mq3219 2 2 := (yup_na (by omega))
      have tb3245 := hTq3219.atp 2 2 0 320 rfl
      have es3246 : (yup mq3219 (336 + k.toNat) 3 rq3219) 2 1 = m 2 1 := ((yup_na (by omega)).trans ((hFq3219 2 1 rfl).trans ((yup_nk (by decide)).trans (yup_na (by omega)))))
      have es3247 : (yup mq3219 (336 + k.toNat) 3 rq3219) 316 10 = m 316 10 := ((yup_na (by omega)).trans ((hFq3219 316 10 rfl).trans ((yup_na (by decide)).trans (yup_na (by omega)))))
      have es3248 : (yup mq3219 (336 + k.toNat) 3 rq3219) 316 12 = m 316 12 := ((yup_na (by omega)).trans ((hFq3219 316 12 rfl).trans ((yup_na (by decide)).trans (yup_na (by omega)))))
      have tb3249 := hT.atp 316 12 0 12 rfl
      have es3250 : (yup mq3219 (336 + k.toNat) 3 rq3219) 316 13 = m 316 13 := ((yup_na (by omega)).trans ((hFq3219 316 13 rfl).trans ((yup_na (by decide)).trans (yup_na (by omega)))))
      have tb3251 := hT.atp 316 13 0 8 rfl
      have es3252 : (yup mq3219 (336 + k.toNat) 3 rq3219) 316 16 = m 316 16 := ((yup_na (by omega)).trans ((hFq3219 316 16 rfl).trans ((yup_na (by decide)).trans (yup_na (by omega)))))
      have tb3253 := hT.atp 316 16 0 40 rfl
      refine y_callIB 51 [.ref 2, yI (dep + 1)] [] c59_48 rfl rfl rfl rfl rfl (ycanO km69 ko2) (hB _ _ hT3228 (by have e1 : (yup mq3219 (336 + k.toNat) 3 rq3219) 5 e.toNat = m 5 e.toNat := ((yup_na (by omega)).trans ((hFq3219 5 e.toNat rfl).trans ((yup_na (by decide)).trans (yup_na (by omega))))); omega) (by omega) (by omega) (by omega)) (fun rq3243 mq3243 nq3243 hq3243 => ?_)
      obtain ⟨rfl, hTq3243, hFq3243, hq3243, hZq3243, hGq3243⟩ := hq3243
      have hF3254 := hF3229.tr hFq3243 (wBo316_mono (by omega))
      refine y_if 56 54 c59_51 rfl rfl (yz_ne (by omega)) (fun hb3255 => ?_) (fun hb3255 => ?_)
      · refine y_aload 57 c59_56 rfl rfl rfl ?_
        refine y_aload 58 c59_57 rfl rfl rfl ?_
        refine y_getS 61 (B := 316) c59_58 rfl kf2_1 (by rw [show mq3243 2 1 = 1 from by have e : mq3243 2 1 = m 2 1 := ((hFq3243 2 1 ((wBo316_lt (by decide)).trans rfl)).trans ((yup_na (by omega)).trans ((hFq3219 2 1 rfl).trans ((yup_nk (by decide)).trans (yup_na (by omega)))))); omega]; rfl) ?_
        refine y_getX 64 (mq3243 316 16) c59_61 rfl kf316_16 rfl ?_
        have tb3256 := hTq3243.atp 316 16 0 40 rfl
        refine y_putI 67 c59_64 rfl (ff336_11 (by omega)) (y_fit0 _) ?_
        have hT3257 := hTq3243.up (336 + k.toNat) 11 (mq3243 316 16) 0 40 (ft336_11 (by omega)) (by omega)
        have hF3258 := hF3254.up (336 + k.toNat) 11 (mq3243 316 16) (wBo316_s (by omega))
        refine y_aload 68 c59_67 rfl rfl rfl ?_
        refine y_getX 71 1 c59_68 rfl (ff336_0 (by omega)) ((yup_nk (by decide)).trans ((hFq3243 (336 + k.toNat) 0 (wBo316_n (by omega))).trans ((yup_nk (by decide)).trans ((hFq3219 (336 + k.toNat) 0 wVr316_n336).trans ((yup_na (by omega)).trans (yup_eq _ _ _ _)))))) ?_
        refine y_iconst 72 c59_71 rfl ?_
        refine y_icmp 84 75 c59_72 rfl rfl (yc_eq (by omega) (by omega)) (fun hb3259 => ?_) (fun hb3259 => ?_)
        · refine y_iconst 85 c59_84 rfl ?_
          have es3260 : (yup mq3243 (336 + k.toNat) 11 (mq3243 316 16)) 2 2 = mq3243 2 2 := (yup_na (by omega))
          have tb3261 := hTq3243.atp 2 2 0 320 rfl
          have es3262 : (yup mq3243 (336 + k.toNat) 11 (mq3243 316 16)) 316 16 = mq3243 316 16 := (yup_na (by omega))
          have es3263 : (yup mq3243 (336 + k.toNat) 11 (mq3243 316 16)) 316 12 = mq3243 316 12 := (yup_na (by omega))
          have tb3264 := hTq3243.atp 316 12 0 12 rfl
          have es3265 : (yup mq3243 (336 + k.toNat) 11 (mq3243 316 16)) 316 13 = mq3243 316 13 := (yup_na (by omega))
          have tb3266 := hTq3243.atp 316 13 0 8 rfl
          have es3267 : (yup mq3243 (336 + k.toNat) 11 (mq3243 316 16)) (336 + k.toNat) 0 = 1 := ((yup_nk (by decide)).trans ((hFq3243 (336 + k.toNat) 0 (wBo316_n (by omega))).trans ((yup_nk (by decide)).trans ((hFq3219 (336 + k.toNat) 0 wVr316_n336).trans ((yup_na (by omega)).trans (yup_eq _ _ _ _))))))
          have es3268 : (yup mq3243 (336 + k.toNat) 11 (mq3243 316 16)) (336 + k.toNat) 3 = rq3219 := ((yup_nk (by decide)).trans ((hFq3243 (336 + k.toNat) 3 (wBo316_n (by omega))).trans (yup_eq _ _ _ _)))
          have es3269 : (yup mq3243 (336 + k.toNat) 11 (mq3243 316 16)) (336 + k.toNat) 11 = mq3243 316 16 := (yup_eq _ _ _ _)
          refine y_retI c59_85 (y_fit1 (by omega)) ⟨rfl, hT3257, hF3258, by omega, fun z hz => ((yup_na (by omega)).trans ((hZq3243 z (by omega)).trans ((yup_na (by omega)).trans ((hFq3219 325 z rfl).trans ((yup_na (by decide)).trans (yup_na (by omega))))))), fun h1 => ?_⟩
          obtain ⟨g1, n1⟩ := hGq3243 (by omega)
          have g2 := g1.fr (m' := yup mq3243 (336 + k.toNat) 11 (mq3243 316 16)) (c3 := mq3243 316 12) (fun j ja jb q _ => (yup_na (by omega))) (fun z za zb => (yup_na (by omega))) (by omega)
          have n2 := n1.fr (m' := yup mq3243 (336 + k.toNat) 11 (mq3243 316 16)) (c2 := (yup mq3243 (336 + k.toNat) 11 (mq3243 316 16)) 316 16) (fun j ja jb q => (yup_na (by omega))) (by omega)
          refine ⟨cast ?_ g2, cast ?_ n2⟩ <;> congr 1 <;> omega
        · exfalso; omega
      · refine y_iconst 55 c59_54 rfl ?_
        have tb3270 := hTq3243.atp 2 2 0 320 rfl
        have tb3271 := hTq3243.atp 316 16 0 40 rfl
        have tb3272 := hTq3243.atp 316 12 0 12 rfl
        have tb3273 := hTq3243.atp 316 13 0 8 rfl
        have es3274 : mq3243 (336 + k.toNat) 0 = 1 := ((hFq3243 (336 + k.toNat) 0 (wBo316_n (by omega))).trans ((yup_nk (by decide)).trans ((hFq3219 (336 + k.toNat) 0 wVr316_n336).trans ((yup_na (by omega)).trans (yup_eq _ _ _ _)))))
        have es3275 : mq3243 (336 + k.toNat) 3 = rq3219 := ((hFq3243 (336 + k.toNat) 3 (wBo316_n (by omega))).trans (yup_eq _ _ _ _))
        have es3276 : mq3243 (336 + k.toNat) 11 = m (336 + k.toNat) 11 := ((hFq3243 (336 + k.toNat) 11 (wBo316_n (by omega))).trans ((yup_nk (by decide)).trans ((hFq3219 (336 + k.toNat) 11 wVr316_n336).trans ((yup_na (by omega)).trans (yup_nk (by decide))))))
        have tb3277 := hT.atp (336 + k.toNat) 11 0 40 (ft336_11 (by omega))
        exact y_retI c59_55 (y_fit1 (by omega)) ⟨rfl, hTq3243, hF3254, by omega, fun z hz => ((hZq3243 z (by omega)).trans ((yup_na (by omega)).trans ((hFq3219 325 z rfl).trans ((yup_na (by decide)).trans (yup_na (by omega)))))), fun h1 => by omega⟩
  · refine y_iconst 11 c59_10 rfl ?_
    refine y_goto 15 c59_11 rfl ?_
    refine y_putI 18 c59_15 rfl (ff336_0 (by omega)) (y_fit0 _) ?_
    have hT3278 := hT.up (336 + k.toNat) 0 0 0 9 (ft336_0 (by omega)) (by omega)
    have hF3279 := hF.up (336 + k.toNat) 0 0 (wBo316_s (by omega))
    refine y_aload 19 c59_18 rfl rfl rfl ?_
    refine y_dup 20 c59_19 rfl rfl ?_
    refine y_getX 23 (m 2 2) c59_20 rfl kf2_2 (yup_na (by omega)) ?_
    refine y_iconst 24 c59_23 rfl ?_
    refine y_iadd 25 c59_24 rfl ?_
    refine y_putI 28 c59_25 rfl kf2_2 (y_fit0 _) ?_
    have hT3280 := hT3278.up 2 2 ((m 2 2) + 1) 0 320 rfl (by omega)
    have hF3281 := hF3279.up 2 2 ((m 2 2) + 1) rfl
    refine y_aload 29 c59_28 rfl rfl rfl ?_
    refine y_aload 30 c59_29 rfl rfl rfl ?_
    have es3283 : (yup (yup m (336 + k.toNat) 0 0) 2 2 ((m 2 2) + 1)) 2 2 = (m 2 2) + 1 := rfl
    have es3284 : (yup (yup m (336 + k.toNat) 0 0) 2 2 ((m 2 2) + 1)) 2 1 = m 2 1 := ((yup_nk (by decide)).trans (yup_na (by omega)))
    have tb3285 := hT.atp 2 1 ((-1)) 1 rfl
    have es3286 : (yup (yup m (336 + k.toNat) 0 0) 2 2 ((m 2 2) + 1)) 316 10 = m 316 10 := ((yup_na (by decide)).trans (yup_na (by omega)))
    have tb3287 := hT.atp 316 10 0 10 rfl
    have es3288 : (yup (yup m (336 + k.toNat) 0 0) 2 2 ((m 2 2) + 1)) 316 15 = m 316 15 := ((yup_na (by decide)).trans (yup_na (by omega)))
    have tb3289 := hT.atp 316 15 0 48 rfl
    refine y_callIB 33 [.ref 2] [.ref (336 + k.toNat)] c59_30 rfl rfl rfl rfl rfl (ycanO km58 ko2) (t58_316 hT3280 he (by have e1 : (yup (yup m (336 + k.toNat) 0 0) 2 2 ((m 2 2) + 1)) 5 e.toNat = m 5 e.toNat := ((yup_na (by decide)).trans (yup_na (by omega))); omega) (by omega) (by omega) (by omega)) (fun rq3282 mq3282 nq3282 hq3282 => ?_)
    obtain ⟨rfl, hTq3282, hFq3282, hq3282⟩ := hq3282
    have hF3290 := hF3281.tr hFq3282 wVr316_wBo316
    refine y_putI 36 c59_33 rfl (ff336_3 (by omega)) (y_fit0 _) ?_
    have hT3291 := hTq3282.up (336 + k.toNat) 3 rq3282 ((-1)) 47 (ft336_3 (by omega)) (by omega)
    have hF3292 := hF3290.up (336 + k.toNat) 3 rq3282 (wBo316_s (by omega))
    refine y_aload 37 c59_36 rfl rfl rfl ?_
    refine y_getX 40 rq3282 c59_37 rfl (ff336_3 (by omega)) (yup_eq _ _ _ _) ?_
    refine y_iconst 41 c59_40 rfl ?_
    refine y_icmp 54 44 c59_41 rfl rfl (yc_eq (by omega) (by omega)) (fun hb3293 => ?_) (fun hb3293 => ?_)
    · refine y_iconst 55 c59_54 rfl ?_
      have es3294 : (yup mq3282 (336 + k.toNat) 3 rq3282) 2 2 = mq3282 2 2 := (yup_na (by omega))
      have tb3295 := hTq3282.atp 2 2 0 320 rfl
      have es3296 : (yup mq3282 (336 + k.toNat) 3 rq3282) 316 16 = m 316 16 := ((yup_na (by omega)).trans ((hFq3282 316 16 rfl).trans ((yup_na (by decide)).trans (yup_na (by omega)))))
      have tb3297 := hT.atp 316 16 0 40 rfl
      have es3298 : (yup mq3282 (336 + k.toNat) 3 rq3282) 316 12 = m 316 12 := ((yup_na (by omega)).trans ((hFq3282 316 12 rfl).trans ((yup_na (by decide)).trans (yup_na (by omega)))))
      have tb3299 := hT.atp 316 12 0 12 rfl
      have es3300 : (yup mq3282 (336 + k.toNat) 3 rq3282) 316 13 = m 316 13 := ((yup_na (by omega)).trans ((hFq3282 316 13 rfl).trans ((yup_na (by decide)).trans (yup_na (by omega)))))
      have tb3301 := hT.atp 316 13 0 8 rfl
      have es3302 : (yup mq3282 (336 + k.toNat) 3 rq3282) (336 + k.toNat) 0 = 0 := ((yup_nk (by decide)).trans ((hFq3282 (336 + k.toNat) 0 wVr316_n336).trans ((yup_na (by omega)).trans (yup_eq _ _ _ _))))
      have es3303 : (yup mq3282 (336 + k.toNat) 3 rq3282) (336 + k.toNat) 3 = rq3282 := (yup_eq _ _ _ _)
      have es3304 : (yup mq3282 (336 + k.toNat) 3 rq3282) (336 + k.toNat) 11 = m (336 + k.toNat) 11 := ((yup_nk (by decide)).trans ((hFq3282 (336 + k.toNat) 11 wVr316_n336).trans ((yup_na (by omega)).trans (yup_nk (by decide)))))
      have tb3305 := hT.atp (336 + k.toNat) 11 0 40 (ft336_11 (by omega))
      exact y_retI c59_55 (y_fit1 (by omega)) ⟨rfl, hT3291, hF3292, by omega, fun z hz => ((yup_na (by omega)).trans ((hFq3282 325 z rfl).trans ((yup_na (by decide)).trans (yup_na (by omega))))), fun h1 => by omega⟩
    · refine y_aload 45 c59_44 rfl rfl rfl ?_
      refine y_iload 46 c59_45 rfl rfl ?_
      refine y_iconst 47 c59_46 rfl ?_
      refine y_iadd 48 c59_47 rfl ?_
      have es3307 : (yup mq3282 (336 + k.toNat) 3 rq3282) 2 2 = mq3282 2 2 := (yup_na (by omega))
      have tb3308 := hTq3282.atp 2 2 0 320 rfl
      have es3309 : (yup mq3282 (336 + k.toNat) 3 rq3282) 2 1 = m 2 1 := ((yup_na (by omega)).trans ((hFq3282 2 1 rfl).trans ((yup_nk (by decide)).trans (yup_na (by omega)))))
      have es3310 : (yup mq3282 (336 + k.toNat) 3 rq3282) 316 10 = m 316 10 := ((yup_na (by omega)).trans ((hFq3282 316 10 rfl).trans ((yup_na (by decide)).trans (yup_na (by omega)))))
      have es3311 : (yup mq3282 (336 + k.toNat) 3 rq3282) 316 12 = m 316 12 := ((yup_na (by omega)).trans ((hFq3282 316 12 rfl).trans ((yup_na (by decide)).trans (yup_na (by omega)))))
      have tb3312 := hT.atp 316 12 0 12 rfl
      have es3313 : (yup mq3282 (336 + k.toNat) 3 rq3282) 316 13 = m 316 13 := ((yup_na (by omega)).trans ((hFq3282 316 13 rfl).trans ((yup_na (by decide)).trans (yup_na (by omega)))))
      have tb3314 := hT.atp 316 13 0 8 rfl
      have es3315 : (yup mq3282 (336 + k.toNat) 3 rq3282) 316 16 = m 316 16 := ((yup_na (by omega)).trans ((hFq3282 316 16 rfl).trans ((yup_na (by decide)).trans (yup_na (by omega)))))
      have tb3316 := hT.atp 316 16 0 40 rfl
      refine y_callIB 51 [.ref 2, yI (dep + 1)] [] c59_48 rfl rfl rfl rfl rfl (ycanO km69 ko2) (hB _ _ hT3291 (by have e1 : (yup mq3282 (336 + k.toNat) 3 rq3282) 5 e.toNat = m 5 e.toNat := ((yup_na (by omega)).trans ((hFq3282 5 e.toNat rfl).trans ((yup_na (by decide)).trans (yup_na (by omega))))); omega) (by omega) (by omega) (by omega)) (fun rq3306 mq3306 nq3306 hq3306 => ?_)
      obtain ⟨rfl, hTq3306, hFq3306, hq3306, hZq3306, hGq3306⟩ := hq3306
      have hF3317 := hF3292.tr hFq3306 (wBo316_mono (by omega))
      refine y_if 56 54 c59_51 rfl rfl (yz_ne (by omega)) (fun hb3318 => ?_) (fun hb3318 => ?_)
      · refine y_aload 57 c59_56 rfl rfl rfl ?_
        refine y_aload 58 c59_57 rfl rfl rfl ?_
        refine y_getS 61 (B := 316) c59_58 rfl kf2_1 (by rw [show mq3306 2 1 = 1 from by have e : mq3306 2 1 = m 2 1 := ((hFq3306 2 1 ((wBo316_lt (by decide)).trans rfl)).trans ((yup_na (by omega)).trans ((hFq3282 2 1 rfl).trans ((yup_nk (by decide)).trans (yup_na (by omega)))))); omega]; rfl) ?_
        refine y_getX 64 (mq3306 316 16) c59_61 rfl kf316_16 rfl ?_
        have tb3319 := hTq3306.atp 316 16 0 40 rfl
        refine y_putI 67 c59_64 rfl (ff336_11 (by omega)) (y_fit0 _) ?_
        have hT3320 := hTq3306.up (336 + k.toNat) 11 (mq3306 316 16) 0 40 (ft336_11 (by omega)) (by omega)
        have hF3321 := hF3317.up (336 + k.toNat) 11 (mq3306 316 16) (wBo316_s (by omega))
        refine y_aload 68 c59_67 rfl rfl rfl ?_
        refine y_getX 71 0 c59_68 rfl (ff336_0 (by omega)) ((yup_nk (by decide)).trans ((hFq3306 (336 + k.toNat) 0 (wBo316_n (by omega))).trans ((yup_nk (by decide)).trans ((hFq3282 (336 + k.toNat) 0 wVr316_n336).trans ((yup_na (by omega)).trans (yup_eq _ _ _ _)))))) ?_
        refine y_iconst 72 c59_71 rfl ?_
        refine y_icmp 84 75 c59_72 rfl rfl (yc_eq (by omega) (by omega)) (fun hb3322 => ?_) (fun hb3322 => ?_)
        · exfalso; omega
        · refine y_aload 76 c59_75 rfl rfl rfl ?_
          have es3323 : (yup mq3306 (336 + k.toNat) 11 (mq3306 316 16)) 2 2 = mq3306 2 2 := (yup_na (by omega))
          have tb3324 := hTq3306.atp 2 2 0 320 rfl
          refine y_callP 79 [.ref 2] [] c59_76 rfl rfl rfl rfl rfl (ycanO km38 ko2) (t38 hT3320 he (by have e1 : (yup mq3306 (336 + k.toNat) 11 (mq3306 316 16)) 5 e.toNat = m 5 e.toNat := ((yup_na (by omega)).trans ((hFq3306 5 e.toNat ((wBo316_lt (by decide)).trans rfl)).trans ((yup_na (by omega)).trans ((hFq3282 5 e.toNat rfl).trans ((yup_na (by decide)).trans (yup_na (by omega))))))); omega) (by omega)) (fun r3325 hr3325 => ?_)
          refine y_iconst 81 c59_79 rfl ?_
          refine y_icmp 86 84 c59_81 rfl rfl (yc_eq (by omega) (by omega)) (fun hb3326 => ?_) (fun hb3326 => ?_)
          · refine y_aload 87 c59_86 rfl rfl rfl ?_
            refine y_dup 88 c59_87 rfl rfl ?_
            refine y_getX 91 (mq3306 2 2) c59_88 rfl kf2_2 (yup_na (by omega)) ?_
            refine y_iconst 92 c59_91 rfl ?_
            refine y_iadd 93 c59_92 rfl ?_
            refine y_putI 96 c59_93 rfl kf2_2 (y_fit0 _) ?_
            have hT3327 := hT3320.up 2 2 ((mq3306 2 2) + 1) 0 320 rfl (by omega)
            have hF3328 := hF3321.up 2 2 ((mq3306 2 2) + 1) rfl
            refine y_aload 97 c59_96 rfl rfl rfl ?_
            refine y_iload 98 c59_97 rfl rfl ?_
            refine y_iconst 99 c59_98 rfl ?_
            refine y_iadd 100 c59_99 rfl ?_
            have es3330 : (yup (yup mq3306 (336 + k.toNat) 11 (mq3306 316 16)) 2 2 ((mq3306 2 2) + 1)) 2 2 = (mq3306 2 2) + 1 := rfl
            have es3331 : (yup (yup mq3306 (336 + k.toNat) 11 (mq3306 316 16)) 2 2 ((mq3306 2 2) + 1)) 2 1 = m 2 1 := ((yup_nk (by decide)).trans ((yup_na (by omega)).trans ((hFq3306 2 1 ((wBo316_lt (by decide)).trans rfl)).trans ((yup_na (by omega)).trans ((hFq3282 2 1 rfl).trans ((yup_nk (by decide)).trans (yup_na (by omega))))))))
            have es3332 : (yup (yup mq3306 (336 + k.toNat) 11 (mq3306 316 16)) 2 2 ((mq3306 2 2) + 1)) 316 10 = m 316 10 := ((yup_na (by decide)).trans ((yup_na (by omega)).trans ((hFq3306 316 10 ((wBo316_lt (by decide)).trans rfl)).trans ((yup_na (by omega)).trans ((hFq3282 316 10 rfl).trans ((yup_na (by decide)).trans (yup_na (by omega))))))))
            have es3333 : (yup (yup mq3306 (336 + k.toNat) 11 (mq3306 316 16)) 2 2 ((mq3306 2 2) + 1)) 316 12 = mq3306 316 12 := ((yup_na (by decide)).trans (yup_na (by omega)))
            have tb3334 := hTq3306.atp 316 12 0 12 rfl
            have es3335 : (yup (yup mq3306 (336 + k.toNat) 11 (mq3306 316 16)) 2 2 ((mq3306 2 2) + 1)) 316 13 = mq3306 316 13 := ((yup_na (by decide)).trans (yup_na (by omega)))
            have tb3336 := hTq3306.atp 316 13 0 8 rfl
            have es3337 : (yup (yup mq3306 (336 + k.toNat) 11 (mq3306 316 16)) 2 2 ((mq3306 2 2) + 1)) 316 16 = mq3306 316 16 := ((yup_na (by decide)).trans (yup_na (by omega)))
            refine y_callIB 103 [.ref 2, yI (dep + 1)] [] c59_100 rfl rfl rfl rfl rfl (ycanO km69 ko2) (hB _ _ hT3327 (by have e1 : (yup (yup mq3306 (336 + k.toNat) 11 (mq3306 316 16)) 2 2 ((mq3306 2 2) + 1)) 5 e.toNat = m 5 e.toNat := ((yup_na (by decide)).trans ((yup_na (by omega)).trans ((hFq3306 5 e.toNat ((wBo316_lt (by decide)).trans rfl)).trans ((yup_na (by omega)).trans ((hFq3282 5 e.toNat rfl).trans ((yup_na (by decide)).trans (yup_na (by omega)))))))); omega) (by omega) (by omega) (by omega)) (fun rq3329 mq3329 nq3329 hq3329 => ?_)
            obtain ⟨rfl, hTq3329, hFq3329, hq3329, hZq3329, hGq3329⟩ := hq3329
            have hF3338 := hF3328.tr hFq3329 (wBo316_mono (by omega))
            have tb3339 := hTq3329.atp 2 2 0 320 rfl
            have tb3340 := hTq3329.atp 316 16 0 40 rfl
            have tb3341 := hTq3329.atp 316 12 0 12 rfl
            have tb3342 := hTq3329.atp 316 13 0 8 rfl
            have es3343 : mq3329 (336 + k.toNat) 0 = 0 := ((hFq3329 (336 + k.toNat) 0 (wBo316_n (by omega))).trans ((yup_na (by omega)).trans ((yup_nk (by decide)).trans ((hFq3306 (336 + k.toNat) 0 (wBo316_n (by omega))).trans ((yup_nk (by decide)).trans ((hFq3282 (336 + k.toNat) 0 wVr316_n336).trans ((yup_na (by omega)).trans (yup_eq _ _ _ _))))))))
            have es3344 : mq3329 (336 + k.toNat) 3 = rq3282 := ((hFq3329 (336 + k.toNat) 3 (wBo316_n (by omega))).trans ((yup_na (by omega)).trans ((yup_nk (by decide)).trans ((hFq3306 (336 + k.toNat) 3 (wBo316_n (by omega))).trans (yup_eq _ _ _ _)))))
            have es3345 : mq3329 (336 + k.toNat) 11 = mq3306 316 16 := ((hFq3329 (336 + k.toNat) 11 (wBo316_n (by omega))).trans ((yup_na (by omega)).trans (yup_eq _ _ _ _)))
            refine y_retI c59_103 (y_fit1 (by omega)) ⟨rfl, hTq3329, hF3338, by omega, fun z hz => ((hZq3329 z (by omega)).trans ((yup_na (by decide)).trans ((yup_na (by omega)).trans ((hZq3306 z (by omega)).trans ((yup_na (by omega)).trans ((hFq3282 325 z rfl).trans ((yup_na (by decide)).trans (yup_na (by omega))))))))), fun h1 => ?_⟩
            obtain ⟨g1, n1⟩ := hGq3306 (by omega)
            have g2 := g1.fr (m' := mq3329) (c3 := mq3306 316 12) (fun j ja jb q _ => ((hFq3329 _ _ (wBo316_n (by omega))).trans ((yup_na (by omega)).trans (yup_na (by omega))))) (fun z za zb => ((hZq3329 z (by omega)).trans ((yup_na (by decide)).trans (yup_na (by omega))))) (by omega)
            have n2 := n1.fr (m' := mq3329) (c2 := mq3329 316 16) (fun j ja jb q => ((hFq3329 _ _ (wBo316_n (by omega))).trans ((yup_na (by omega)).trans (yup_na (by omega))))) (by omega)
            obtain ⟨g3, n3⟩ := hGq3329 (by omega)
            have g4 := RG.app (c3 := mq3329 316 12) (d3 := mq3329 316 13) (c := mq3329 316 16) g2 (cast (by congr 1 <;> omega) g3) (by omega) (by omega) (by omega)
            have n4 := EN.app (b := mq3306 316 16) n2 (cast (by congr 1 <;> omega) n3)
            refine ⟨cast ?_ g4, cast ?_ n4⟩ <;> congr 1 <;> omega
          · refine y_iconst 85 c59_84 rfl ?_
            have es3346 : (yup mq3306 (336 + k.toNat) 11 (mq3306 316 16)) 2 2 = mq3306 2 2 := (yup_na (by omega))
            have es3347 : (yup mq3306 (336 + k.toNat) 11 (mq3306 316 16)) 316 16 = mq3306 316 16 := (yup_na (by omega))
            have es3348 : (yup mq3306 (336 + k.toNat) 11 (mq3306 316 16)) 316 12 = mq3306 316 12 := (yup_na (by omega))
            have tb3349 := hTq3306.atp 316 12 0 12 rfl
            have es3350 : (yup mq3306 (336 + k.toNat) 11 (mq3306 316 16)) 316 13 = mq3306 316 13 := (yup_na (by omega))
            have tb3351 := hTq3306.atp 316 13 0 8 rfl
            have es3352 : (yup mq3306 (336 + k.toNat) 11 (mq3306 316 16)) (336 + k.toNat) 0 = 0 := ((yup_nk (by decide)).trans ((hFq3306 (336 + k.toNat) 0 (wBo316_n (by omega))).trans ((yup_nk (by decide)).trans ((hFq3282 (336 + k.toNat) 0 wVr316_n336).trans ((yup_na (by omega)).trans (yup_eq _ _ _ _))))))
            have es3353 : (yup mq3306 (336 + k.toNat) 11 (mq3306 316 16)) (336 + k.toNat) 3 = rq3282 := ((yup_nk (by decide)).trans ((hFq3306 (336 + k.toNat) 3 (wBo316_n (by omega))).trans (yup_eq _ _ _ _)))
            have es3354 : (yup mq3306 (336 + k.toNat) 11 (mq3306 316 16)) (336 + k.toNat) 11 = mq3306 316 16 := (yup_eq _ _ _ _)
            refine y_retI c59_85 (y_fit1 (by omega)) ⟨rfl, hT3320, hF3321, by omega, fun z hz => ((yup_na (by omega)).trans ((hZq3306 z (by omega)).trans ((yup_na (by omega)).trans ((hFq3282 325 z rfl).trans ((yup_na (by decide)).trans (yup_na (by omega))))))), fun h1 => ?_⟩
            obtain ⟨g1, n1⟩ := hGq3306 (by omega)
            have g2 := g1.fr (m' := yup mq3306 (336 + k.toNat) 11 (mq3306 316 16)) (c3 := mq3306 316 12) (fun j ja jb q _ => (yup_na (by omega))) (fun z za zb => (yup_na (by omega))) (by omega)
            have n2 := n1.fr (m' := yup mq3306 (336 + k.toNat) 11 (mq3306 316 16)) (c2 := (yup mq3306 (336 + k.toNat) 11 (mq3306 316 16)) 316 16) (fun j ja jb q => (yup_na (by omega))) (by omega)
            refine ⟨cast ?_ g2, cast ?_ n2⟩ <;> congr 1 <;> omega
      · refine y_iconst 55 c59_54 rfl ?_
        have tb3355 := hTq3306.atp 2 2 0 320 rfl
        have tb3356 := hTq3306.atp 316 16 0 40 rfl
        have tb3357 := hTq3306.atp 316 12 0 12 rfl
        have tb3358 := hTq3306.atp 316 13 0 8 rfl
        have es3359 : mq3306 (336 + k.toNat) 0 = 0 := ((hFq3306 (336 + k.toNat) 0 (wBo316_n (by omega))).trans ((yup_nk (by decide)).trans ((hFq3282 (336 + k.toNat) 0 wVr316_n336).trans ((yup_na (by omega)).trans (yup_eq _ _ _ _)))))
        have es3360 : mq3306 (336 + k.toNat) 3 = rq3282 := ((hFq3306 (336 + k.toNat) 3 (wBo316_n (by omega))).trans (yup_eq _ _ _ _))
        have es3361 : mq3306 (336 + k.toNat) 11 = m (336 + k.toNat) 11 := ((hFq3306 (336 + k.toNat) 11 (wBo316_n (by omega))).trans ((yup_nk (by decide)).trans ((hFq3282 (336 + k.toNat) 11 wVr316_n336).trans ((yup_na (by omega)).trans (yup_nk (by decide))))))
        have tb3362 := hT.atp (336 + k.toNat) 11 0 40 (ft336_11 (by omega))
        exact y_retI c59_55 (y_fit1 (by omega)) ⟨rfl, hTq3306, hF3317, by omega, fun z hz => ((hZq3306 z (by omega)).trans ((yup_na (by omega)).trans ((hFq3282 325 z rfl).trans ((yup_na (by decide)).trans (yup_na (by omega)))))), fun h1 => by omega⟩
