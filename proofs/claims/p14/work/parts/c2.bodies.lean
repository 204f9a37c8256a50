section
/-! CONTRACTS: bodies. Printed by wip/whole/gen89.py -/
def wAs0256 (a q : Nat) : Bool := (a == 256 && q == 16)
def wAs256 (k a q : Nat) : Bool := ((a == 256 && q == 16)) || a == 276 + k
theorem wAs256_lt {k a q : Nat} (h : a < 276) : wAs256 k a q = wAs0256 a q := by
  have e : (a == 276 + k) = false := by simp; omega
  simp only [wAs256, wAs0256, e, Bool.or_false]
theorem wAs256_s {k j q : Nat} (h : j = k) : wAs256 k (276 + j) q = true := by
  simp [wAs256, h]
theorem wAs256_n {k j q : Nat} (h : j ≠ k) : wAs256 k (276 + j) q = false := by
  cases e : wAs256 k (276 + j) q with
  | false => rfl
  | true => simp [wAs256] at e <;> omega
theorem wAs256_wBo256 {k c : Nat} (hk : c ≤ k ∧ k < 40) : ∀ a q, wAs256 k a q = true → wBo256 c a q = true := by
  intro a q h
  simp [wAs256] at h
  simp [wBo256]
  omega
theorem t56f_256 {L : Nat} {xs : Nat → Int32} {d nn : Nat} {m : yM} (hT : Ty gT m) (hm : 1 ≤ m 256 10) (hs : m 256 16 ≤ 39) : YC (gZ L xs) d 56 [.ref 256] m nn (qA (fun R m' n' => n' = nn ∧ R = (276 + (m 256 16).toNat) ∧ Ty gT m' ∧ Fr (wAs256 (m 256 16).toNat) m m' ∧ m' 256 16 = m 256 16 + 1 ∧ m' (276 + (m 256 16).toNat) 8 = 0)) := by
  have t10 := hT.atp 256 10 0 10 rfl
  have t16 := hT.atp 256 16 0 40 rfl
  refine YC.mono (t56_256 hT hm hs) (fun o m' n' h => ?_)
  obtain ⟨R, rfl, rfl, rfl, rfl⟩ := h
  have h1 := hT.up (276 + (m 256 16).toNat) 1 (m 256 10 - 1) 0 9 (ft276_1 (by omega)) (by omega)
  have h2 := h1.up (276 + (m 256 16).toNat) 2 (-1) (-1) 47 (ft276_2 (by omega)) (by omega)
  have h3 := h2.up (276 + (m 256 16).toNat) 8 0 0 2 (ft276_8 (by omega)) (by omega)
  have h4 := h3.up 256 16 (m 256 16 + 1) 0 40 rfl (by omega)
  refine ⟨_, rfl, rfl, rfl, h4, ((((Fr.rf.up _ _ _ (wAs256_s rfl)).up _ _ _ (wAs256_s rfl)).up _ _ _ (wAs256_s rfl)).up _ _ _ ?_), yup_eq _ _ _ _, ?_⟩
  · simp [wAs256]
  · rw [yup_na (by omega), yup_eq]
set_option maxRecDepth 100000 in
set_option maxHeartbeats 1000000 in
theorem t69i_256 {L : Nat} {xs : Nat → Int32} {d nn : Nat} {m : yM} {e : Int} (hT : Ty gT m) (he : 0 ≤ e ∧ e ≤ 320) (hE : m 5 e.toNat = 0) (ha : m 2 2 ≤ e) (hp : m 2 1 = 0) {k : Int} (hk : 0 ≤ k ∧ k ≤ 39) (hm : 1 ≤ m 256 10) (h16 : m 256 16 = k + 1) (h8 : m (276 + k.toNat) 8 = 0) {dep i : Int} {x2 : Option Value} {Q : xO → yM → Nat → Prop} (hlt : m 2 2 < e) (hdep : 0 ≤ dep ∧ dep ≤ 3) (hB : BS256 L xs (d + 4) (dep + 1) e) (ho : ∀ (g : Int) (m4 : yM), (g = 0 ∨ g = 1) → Ty gT m4 → Fr (wBo256 k.toNat) m m4 → (m4 2 2 ≤ e ∧ k + 1 ≤ m4 256 16 ∧ m 256 12 ≤ m4 256 12 ∧ m 256 13 ≤ m4 256 13) → (∀ z : Nat, (z : Int) < m 256 13 → m4 265 z = m 265 z) → (g = 1 → RG 276 265 m4 k (m4 256 16) (m 256 12) (m4 256 12) (m 256 13) (m4 256 13) ∧ EN 276 m4 (k + 1) (m4 256 16) (m4 256 16) ∧ ((m4 (276 + k.toNat) 0 = 0 ∨ m4 (276 + k.toNat) 0 = 1) → m4 (276 + k.toNat) 11 ≤ m4 256 16)) → YW (gZ L xs) 69 (d + 6) 162 [some (.ref 2), some (yI dep), some (yI g), some (yI i), some (.ref (276 + k.toNat))] [] m4 nn Q) : YW (gZ L xs) 69 (d + 6) 100 [some (.ref 2), some (yI dep), x2, some (yI i), some (.ref (276 + k.toNat))] [] m nn Q := by
  have tb2 := hT.atp 2 2 0 320 rfl
  have tb12 := hT.atp 256 12 0 12 rfl
  have tb13 := hT.atp 256 13 0 8 rfl
  have hF : Fr (wBo256 k.toNat) m m := Fr.rf
  refine y_aload 101 c69_100 rfl rfl rfl ?_
  refine y_aload 103 c69_101 rfl rfl rfl ?_
  refine y_iload 104 c69_103 rfl rfl ?_
  have tb2901 := hT.atp 2 2 0 320 rfl
  have tb2902 := hT.atp 2 1 ((-1)) 1 rfl
  have tb2903 := hT.atp 256 10 0 10 rfl
  have tb2904 := hT.atp 256 12 0 12 rfl
  have tb2905 := hT.atp 256 13 0 8 rfl
  have tb2906 := hT.atp 256 16 0 40 rfl
  refine y_callIB 107 [.ref 2, .ref (276 + k.toNat), yI dep] [] c69_104 rfl rfl rfl rfl rfl (ycanO km59 ko2) (t59_256 hT he hE ha hp hk hm h16 hlt hdep hB) (fun rq2900 mq2900 nq2900 hq2900 => ?_)
  obtain ⟨rfl, hTq2900, hFq2900, hq2900, hZq2900, hGq2900⟩ := hq2900
  have hF2907 := hF.tr hFq2900 (wBo256_mono (by omega))
  refine y_istore 108 c69_107 rfl rfl ?_
  refine y_goto 162 c69_108 rfl ?_
  have tb2908 := hTq2900.atp 2 2 0 320 rfl
  have tb2909 := hTq2900.atp 256 16 0 40 rfl
  have tb2910 := hTq2900.atp 256 12 0 12 rfl
  have tb2911 := hTq2900.atp 256 13 0 8 rfl
  have tb2912 := hTq2900.atp (276 + k.toNat) 0 0 9 (ft276_0 (by omega))
  have tb2913 := hTq2900.atp (276 + k.toNat) 2 ((-1)) 47 (ft276_2 (by omega))
  have tb2914 := hTq2900.atp (276 + k.toNat) 3 ((-1)) 47 (ft276_3 (by omega))
  have tb2915 := hTq2900.atp (276 + k.toNat) 6 ((-1)) 11 (ft276_6 (by omega))
  have tb2916 := hTq2900.atp (276 + k.toNat) 8 0 2 (ft276_8 (by omega))
  have tb2917 := hTq2900.atp (276 + k.toNat) 9 ((-1)) 47 (ft276_9 (by omega))
  have tb2918 := hTq2900.atp (276 + k.toNat) 10 ((-1)) 47 (ft276_10 (by omega))
  have tb2919 := hTq2900.atp (276 + k.toNat) 11 0 40 (ft276_11 (by omega))
  refine ho rq2900 _ (by omega) hTq2900 hF2907 (by omega) (fun z hz => (hZq2900 z (by omega))) (fun h1 => ?_)
  have hsv : SV 276 mq2900 k.toNat := by
    unfold SV
    omega
  obtain ⟨g3, n3⟩ := hGq2900 (by omega)
  have g2 := RG.one (K := 265) (c1 := m 256 12) (c2 := m 256 12) (d1 := m 256 13) (d2 := m 256 13) hsv (by omega) (by omega)
  have g4 := RG.app (a := k) (b := k + 1) (c := mq2900 256 16) (c1 := m 256 12) (c2 := m 256 12) (c3 := mq2900 256 12) (d1 := m 256 13) (d2 := m 256 13) (d3 := mq2900 256 13) (cast (by congr 1 <;> omega) g2) g3 (by omega) (by omega) (by omega)
  exact ⟨g4, n3, by omega⟩
set_option maxRecDepth 100000 in
set_option maxHeartbeats 1000000 in
theorem t69j_256 {L : Nat} {xs : Nat → Int32} {d nn : Nat} {m : yM} {e : Int} (hT : Ty gT m) (he : 0 ≤ e ∧ e ≤ 320) (hE : m 5 e.toNat = 0) (ha : m 2 2 ≤ e) (hp : m 2 1 = 0) {k : Int} (hk : 0 ≤ k ∧ k ≤ 39) (hm : 1 ≤ m 256 10) (h16 : m 256 16 = k + 1) (h8 : m (276 + k.toNat) 8 = 0) {dep i : Int} {x2 : Option Value} {Q : xO → yM → Nat → Prop} (hlt : m 2 2 < e) (ho : ∀ (g : Int) (m4 : yM), (g = 0 ∨ g = 1) → Ty gT m4 → Fr (wBo256 k.toNat) m m4 → (m4 2 2 ≤ e ∧ k + 1 ≤ m4 256 16 ∧ m 256 12 ≤ m4 256 12 ∧ m 256 13 ≤ m4 256 13) → (∀ z : Nat, (z : Int) < m 256 13 → m4 265 z = m 265 z) → (g = 1 → RG 276 265 m4 k (m4 256 16) (m 256 12) (m4 256 12) (m 256 13) (m4 256 13) ∧ EN 276 m4 (k + 1) (m4 256 16) (m4 256 16) ∧ ((m4 (276 + k.toNat) 0 = 0 ∨ m4 (276 + k.toNat) 0 = 1) → m4 (276 + k.toNat) 11 ≤ m4 256 16)) → YW (gZ L xs) 69 (d + 6) 162 [some (.ref 2), some (yI dep), some (yI g), some (yI i), some (.ref (276 + k.toNat))] [] m4 nn Q) : YW (gZ L xs) 69 (d + 6) 111 [some (.ref 2), some (yI dep), x2, some (yI i), some (.ref (276 + k.toNat))] [] m nn Q := by
  have tb2 := hT.atp 2 2 0 320 rfl
  have tb12 := hT.atp 256 12 0 12 rfl
  have tb13 := hT.atp 256 13 0 8 rfl
  have hF : Fr (wBo256 k.toNat) m m := Fr.rf
  refine y_aload 112 c69_111 rfl rfl rfl ?_
  refine y_aload 114 c69_112 rfl rfl rfl ?_
  have tb2921 := hT.atp 2 2 0 320 rfl
  have tb2922 := hT.atp 2 1 ((-1)) 1 rfl
  have tb2923 := hT.atp 256 10 0 10 rfl
  have tb2924 := hT.atp 256 12 0 12 rfl
  have tb2925 := hT.atp 256 13 0 8 rfl
  have tb2926 := hT.atp 256 16 0 40 rfl
  refine y_callIB 117 [.ref 2, .ref (276 + k.toNat)] [] c69_114 rfl rfl rfl rfl rfl (ycanO km60 ko2) (t60_256 hT he hE ha hp hk hm hlt) (fun rq2920 mq2920 nq2920 hq2920 => ?_)
  obtain ⟨rfl, hTq2920, hFq2920, hq2920⟩ := hq2920
  have hF2927 := hF.tr hFq2920 (wSv256_wBo256 (by omega))
  refine y_if 133 120 c69_117 rfl rfl (yz_eq (by omega)) (fun hb2928 => ?_) (fun hb2928 => ?_)
  · refine y_iconst 134 c69_133 rfl ?_
    refine y_istore 135 c69_134 rfl rfl ?_
    refine y_goto 162 c69_135 rfl ?_
    have tb2929 := hTq2920.atp 2 2 0 320 rfl
    have es2930 : mq2920 256 16 = m 256 16 := (hFq2920 256 16 ((wSv256_lt (by decide)).trans rfl))
    have es2931 : mq2920 256 12 = m 256 12 := (hFq2920 256 12 ((wSv256_lt (by decide)).trans rfl))
    have es2932 : mq2920 256 13 = m 256 13 := (hFq2920 256 13 ((wSv256_lt (by decide)).trans rfl))
    have tb2933 := hTq2920.atp (276 + k.toNat) 0 0 9 (ft276_0 (by omega))
    have tb2934 := hTq2920.atp (276 + k.toNat) 2 ((-1)) 47 (ft276_2 (by omega))
    have tb2935 := hTq2920.atp (276 + k.toNat) 3 ((-1)) 47 (ft276_3 (by omega))
    have tb2936 := hTq2920.atp (276 + k.toNat) 6 ((-1)) 11 (ft276_6 (by omega))
    have tb2937 := hTq2920.atp (276 + k.toNat) 8 0 2 (ft276_8 (by omega))
    have tb2938 := hTq2920.atp (276 + k.toNat) 9 ((-1)) 47 (ft276_9 (by omega))
    have tb2939 := hTq2920.atp (276 + k.toNat) 10 ((-1)) 47 (ft276_10 (by omega))
    have tb2940 := hTq2920.atp (276 + k.toNat) 11 0 40 (ft276_11 (by omega))
    refine ho 0 _ (by omega) hTq2920 hF2927 (by omega) (fun z hz => (hFq2920 265 z ((wSv256_lt (by decide)).trans rfl))) (fun h1 => ?_)
    omega
  · refine y_aload 121 c69_120 rfl rfl rfl ?_
    refine y_iconst 123 c69_121 rfl ?_
    have tb2942 := hTq2920.atp 2 2 0 320 rfl
    refine y_callIB 126 [.ref 2, yI 59] [] c69_123 rfl rfl rfl rfl rfl (ycanO km37 ko2) (t37 hTq2920 he (by have e1 : mq2920 5 e.toNat = m 5 e.toNat := (hFq2920 5 e.toNat ((wSv256_lt (by decide)).trans rfl)); omega) (by omega) (by omega)) (fun rq2941 mq2941 nq2941 hq2941 => ?_)
    obtain ⟨rfl, hTq2941, hFq2941, hq2941⟩ := hq2941
    have hF2943 := hF2927.tr hFq2941 wAt_wBo256
    refine y_if 133 129 c69_126 rfl rfl (yz_eq (by omega)) (fun hb2944 => ?_) (fun hb2944 => ?_)
    · refine y_iconst 134 c69_133 rfl ?_
      refine y_istore 135 c69_134 rfl rfl ?_
      refine y_goto 162 c69_135 rfl ?_
      have tb2945 := hTq2941.atp 2 2 0 320 rfl
      have es2946 : mq2941 256 16 = m 256 16 := ((hFq2941 256 16 rfl).trans (hFq2920 256 16 ((wSv256_lt (by decide)).trans rfl)))
      have es2947 : mq2941 256 12 = m 256 12 := ((hFq2941 256 12 rfl).trans (hFq2920 256 12 ((wSv256_lt (by decide)).trans rfl)))
      have es2948 : mq2941 256 13 = m 256 13 := ((hFq2941 256 13 rfl).trans (hFq2920 256 13 ((wSv256_lt (by decide)).trans rfl)))
      have es2949 : mq2941 (276 + k.toNat) 0 = mq2920 (276 + k.toNat) 0 := (hFq2941 (276 + k.toNat) 0 wAt_n276)
      have tb2950 := hTq2920.atp (276 + k.toNat) 0 0 9 (ft276_0 (by omega))
      have es2951 : mq2941 (276 + k.toNat) 2 = mq2920 (276 + k.toNat) 2 := (hFq2941 (276 + k.toNat) 2 wAt_n276)
      have tb2952 := hTq2920.atp (276 + k.toNat) 2 ((-1)) 47 (ft276_2 (by omega))
      have es2953 : mq2941 (276 + k.toNat) 3 = mq2920 (276 + k.toNat) 3 := (hFq2941 (276 + k.toNat) 3 wAt_n276)
      have tb2954 := hTq2920.atp (276 + k.toNat) 3 ((-1)) 47 (ft276_3 (by omega))
      have es2955 : mq2941 (276 + k.toNat) 6 = mq2920 (276 + k.toNat) 6 := (hFq2941 (276 + k.toNat) 6 wAt_n276)
      have tb2956 := hTq2920.atp (276 + k.toNat) 6 ((-1)) 11 (ft276_6 (by omega))
      have es2957 : mq2941 (276 + k.toNat) 8 = mq2920 (276 + k.toNat) 8 := (hFq2941 (276 + k.toNat) 8 wAt_n276)
      have tb2958 := hTq2920.atp (276 + k.toNat) 8 0 2 (ft276_8 (by omega))
      have es2959 : mq2941 (276 + k.toNat) 9 = mq2920 (276 + k.toNat) 9 := (hFq2941 (276 + k.toNat) 9 wAt_n276)
      have tb2960 := hTq2920.atp (276 + k.toNat) 9 ((-1)) 47 (ft276_9 (by omega))
      have es2961 : mq2941 (276 + k.toNat) 10 = mq2920 (276 + k.toNat) 10 := (hFq2941 (276 + k.toNat) 10 wAt_n276)
      have tb2962 := hTq2920.atp (276 + k.toNat) 10 ((-1)) 47 (ft276_10 (by omega))
      have es2963 : mq2941 (276 + k.toNat) 11 = mq2920 (276 + k.toNat) 11 := (hFq2941 (276 + k.toNat) 11 wAt_n276)
      have tb2964 := hTq2920.atp (276 + k.toNat) 11 0 40 (ft276_11 (by omega))
      refine ho 0 _ (by omega) hTq2941 hF2943 (by omega) (fun z hz => ((hFq2941 265 z rfl).trans (hFq2920 265 z ((wSv256_lt (by decide)).trans rfl)))) (fun h1 => ?_)
      omega
    · refine y_iconst 130 c69_129 rfl ?_
      refine y_goto 134 c69_130 rfl ?_
      refine y_istore 135 c69_134 rfl rfl ?_
      refine y_goto 162 c69_135 rfl ?_
      have tb2965 := hTq2941.atp 2 2 0 320 rfl
      have es2966 : mq2941 256 16 = m 256 16 := ((hFq2941 256 16 rfl).trans (hFq2920 256 16 ((wSv256_lt (by decide)).trans rfl)))
      have es2967 : mq2941 256 12 = m 256 12 := ((hFq2941 256 12 rfl).trans (hFq2920 256 12 ((wSv256_lt (by decide)).trans rfl)))
      have es2968 : mq2941 256 13 = m 256 13 := ((hFq2941 256 13 rfl).trans (hFq2920 256 13 ((wSv256_lt (by decide)).trans rfl)))
      have es2969 : mq2941 (276 + k.toNat) 0 = mq2920 (276 + k.toNat) 0 := (hFq2941 (276 + k.toNat) 0 wAt_n276)
      have tb2970 := hTq2920.atp (276 + k.toNat) 0 0 9 (ft276_0 (by omega))
      have es2971 : mq2941 (276 + k.toNat) 2 = mq2920 (276 + k.toNat) 2 := (hFq2941 (276 + k.toNat) 2 wAt_n276)
      have tb2972 := hTq2920.atp (276 + k.toNat) 2 ((-1)) 47 (ft276_2 (by omega))
      have es2973 : mq2941 (276 + k.toNat) 3 = mq2920 (276 + k.toNat) 3 := (hFq2941 (276 + k.toNat) 3 wAt_n276)
      have tb2974 := hTq2920.atp (276 + k.toNat) 3 ((-1)) 47 (ft276_3 (by omega))
      have es2975 : mq2941 (276 + k.toNat) 6 = mq2920 (276 + k.toNat) 6 := (hFq2941 (276 + k.toNat) 6 wAt_n276)
      have tb2976 := hTq2920.atp (276 + k.toNat) 6 ((-1)) 11 (ft276_6 (by omega))
      have es2977 : mq2941 (276 + k.toNat) 8 = mq2920 (276 + k.toNat) 8 := (hFq2941 (276 + k.toNat) 8 wAt_n276)
      have tb2978 := hTq2920.atp (276 + k.toNat) 8 0 2 (ft276_8 (by omega))
      have es2979 : mq2941 (276 + k.toNat) 9 = mq2920 (276 + k.toNat) 9 := (hFq2941 (276 + k.toNat) 9 wAt_n276)
      have tb2980 := hTq2920.atp (276 + k.toNat) 9 ((-1)) 47 (ft276_9 (by omega))
      have es2981 : mq2941 (276 + k.toNat) 10 = mq2920 (276 + k.toNat) 10 := (hFq2941 (276 + k.toNat) 10 wAt_n276)
      have tb2982 := hTq2920.atp (276 + k.toNat) 10 ((-1)) 47 (ft276_10 (by omega))
      have es2983 : mq2941 (276 + k.toNat) 11 = mq2920 (276 + k.toNat) 11 := (hFq2941 (276 + k.toNat) 11 wAt_n276)
      have tb2984 := hTq2920.atp (276 + k.toNat) 11 0 40 (ft276_11 (by omega))
      refine ho 1 _ (by omega) hTq2941 hF2943 (by omega) (fun z hz => ((hFq2941 265 z rfl).trans (hFq2920 265 z ((wSv256_lt (by decide)).trans rfl)))) (fun h1 => ?_)
      have hsv : SV 276 mq2941 k.toNat := by
        unfold SV
        omega
      have g2 := RG.one (K := 265) (c1 := m 256 12) (c2 := mq2941 256 12) (d1 := m 256 13) (d2 := mq2941 256 13) hsv (by omega) (by omega)
      exact ⟨cast (by congr 1 <;> omega) g2, EN.nil (by omega), by omega⟩
set_option maxRecDepth 100000 in
set_option maxHeartbeats 1000000 in
theorem t69k_256 {L : Nat} {xs : Nat → Int32} {d nn : Nat} {m : yM} {e : Int} (hT : Ty gT m) (he : 0 ≤ e ∧ e ≤ 320) (hE : m 5 e.toNat = 0) (ha : m 2 2 ≤ e) (hp : m 2 1 = 0) {k : Int} (hk : 0 ≤ k ∧ k ≤ 39) (hm : 1 ≤ m 256 10) (h16 : m 256 16 = k + 1) (h8 : m (276 + k.toNat) 8 = 0) {dep i : Int} {x2 : Option Value} {Q : xO → yM → Nat → Prop} (ho : ∀ (g : Int) (m4 : yM), (g = 0 ∨ g = 1) → Ty gT m4 → Fr (wBo256 k.toNat) m m4 → (m4 2 2 ≤ e ∧ k + 1 ≤ m4 256 16 ∧ m 256 12 ≤ m4 256 12 ∧ m 256 13 ≤ m4 256 13) → (∀ z : Nat, (z : Int) < m 256 13 → m4 265 z = m 265 z) → (g = 1 → RG 276 265 m4 k (m4 256 16) (m 256 12) (m4 256 12) (m 256 13) (m4 256 13) ∧ EN 276 m4 (k + 1) (m4 256 16) (m4 256 16) ∧ ((m4 (276 + k.toNat) 0 = 0 ∨ m4 (276 + k.toNat) 0 = 1) → m4 (276 + k.toNat) 11 ≤ m4 256 16)) → YW (gZ L xs) 69 (d + 6) 162 [some (.ref 2), some (yI dep), some (yI g), some (yI i), some (.ref (276 + k.toNat))] [] m4 nn Q) : YW (gZ L xs) 69 (d + 6) 138 [some (.ref 2), some (yI dep), x2, some (yI i), some (.ref (276 + k.toNat))] [] m nn Q := by
  have tb2 := hT.atp 2 2 0 320 rfl
  have tb12 := hT.atp 256 12 0 12 rfl
  have tb13 := hT.atp 256 13 0 8 rfl
  have hF : Fr (wBo256 k.toNat) m m := Fr.rf
  refine y_aload 139 c69_138 rfl rfl rfl ?_
  refine y_aload 141 c69_139 rfl rfl rfl ?_
  have tb2986 := hT.atp 2 2 0 320 rfl
  have tb2987 := hT.atp 2 1 ((-1)) 1 rfl
  have tb2988 := hT.atp 256 10 0 10 rfl
  have tb2989 := hT.atp 256 12 0 12 rfl
  have tb2990 := hT.atp 256 13 0 8 rfl
  have tb2991 := hT.atp 256 16 0 40 rfl
  refine y_callIB 144 [.ref 2, .ref (276 + k.toNat)] [] c69_141 rfl rfl rfl rfl rfl (ycanO km68 ko2) (t68_256 hT he hE ha hp hk hm h16 h8) (fun rq2985 mq2985 nq2985 hq2985 => ?_)
  obtain ⟨rfl, hTq2985, hFq2985, hq2985, hZq2985⟩ := hq2985
  have hF2992 := hF.tr hFq2985 (wSs256_wBo256 (by omega))
  refine y_if 160 147 c69_144 rfl rfl (yz_eq (by omega)) (fun hb2993 => ?_) (fun hb2993 => ?_)
  · refine y_iconst 161 c69_160 rfl ?_
    refine y_istore 162 c69_161 rfl rfl ?_
    have tb2994 := hTq2985.atp 2 2 0 320 rfl
    have es2995 : mq2985 256 16 = m 256 16 := (hFq2985 256 16 ((wSs256_lt (by decide)).trans rfl))
    have tb2996 := hTq2985.atp 256 12 0 12 rfl
    have tb2997 := hTq2985.atp 256 13 0 8 rfl
    have tb2998 := hTq2985.atp (276 + k.toNat) 0 0 9 (ft276_0 (by omega))
    have tb2999 := hTq2985.atp (276 + k.toNat) 2 ((-1)) 47 (ft276_2 (by omega))
    have tb3000 := hTq2985.atp (276 + k.toNat) 3 ((-1)) 47 (ft276_3 (by omega))
    have tb3001 := hTq2985.atp (276 + k.toNat) 6 ((-1)) 11 (ft276_6 (by omega))
    have tb3002 := hTq2985.atp (276 + k.toNat) 8 0 2 (ft276_8 (by omega))
    have tb3003 := hTq2985.atp (276 + k.toNat) 9 ((-1)) 47 (ft276_9 (by omega))
    have tb3004 := hTq2985.atp (276 + k.toNat) 10 ((-1)) 47 (ft276_10 (by omega))
    have tb3005 := hTq2985.atp (276 + k.toNat) 11 0 40 (ft276_11 (by omega))
    refine ho 0 _ (by omega) hTq2985 hF2992 (by omega) (fun z hz => (hZq2985 z (by omega))) (fun h1 => ?_)
    omega
  · refine y_aload 148 c69_147 rfl rfl rfl ?_
    refine y_iconst 150 c69_148 rfl ?_
    have tb3007 := hTq2985.atp 2 2 0 320 rfl
    refine y_callIB 153 [.ref 2, yI 59] [] c69_150 rfl rfl rfl rfl rfl (ycanO km37 ko2) (t37 hTq2985 he (by have e1 : mq2985 5 e.toNat = m 5 e.toNat := (hFq2985 5 e.toNat ((wSs256_lt (by decide)).trans rfl)); omega) (by omega) (by omega)) (fun rq3006 mq3006 nq3006 hq3006 => ?_)
    obtain ⟨rfl, hTq3006, hFq3006, hq3006⟩ := hq3006
    have hF3008 := hF2992.tr hFq3006 wAt_wBo256
    refine y_if 160 156 c69_153 rfl rfl (yz_eq (by omega)) (fun hb3009 => ?_) (fun hb3009 => ?_)
    · refine y_iconst 161 c69_160 rfl ?_
      refine y_istore 162 c69_161 rfl rfl ?_
      have tb3010 := hTq3006.atp 2 2 0 320 rfl
      have es3011 : mq3006 256 16 = m 256 16 := ((hFq3006 256 16 rfl).trans (hFq2985 256 16 ((wSs256_lt (by decide)).trans rfl)))
      have es3012 : mq3006 256 12 = mq2985 256 12 := (hFq3006 256 12 rfl)
      have tb3013 := hTq2985.atp 256 12 0 12 rfl
      have es3014 : mq3006 256 13 = mq2985 256 13 := (hFq3006 256 13 rfl)
      have tb3015 := hTq2985.atp 256 13 0 8 rfl
      have es3016 : mq3006 (276 + k.toNat) 0 = mq2985 (276 + k.toNat) 0 := (hFq3006 (276 + k.toNat) 0 wAt_n276)
      have tb3017 := hTq2985.atp (276 + k.toNat) 0 0 9 (ft276_0 (by omega))
      have es3018 : mq3006 (276 + k.toNat) 2 = mq2985 (276 + k.toNat) 2 := (hFq3006 (276 + k.toNat) 2 wAt_n276)
      have tb3019 := hTq2985.atp (276 + k.toNat) 2 ((-1)) 47 (ft276_2 (by omega))
      have es3020 : mq3006 (276 + k.toNat) 3 = mq2985 (276 + k.toNat) 3 := (hFq3006 (276 + k.toNat) 3 wAt_n276)
      have tb3021 := hTq2985.atp (276 + k.toNat) 3 ((-1)) 47 (ft276_3 (by omega))
      have es3022 : mq3006 (276 + k.toNat) 6 = mq2985 (276 + k.toNat) 6 := (hFq3006 (276 + k.toNat) 6 wAt_n276)
      have tb3023 := hTq2985.atp (276 + k.toNat) 6 ((-1)) 11 (ft276_6 (by omega))
      have es3024 : mq3006 (276 + k.toNat) 8 = mq2985 (276 + k.toNat) 8 := (hFq3006 (276 + k.toNat) 8 wAt_n276)
      have tb3025 := hTq2985.atp (276 + k.toNat) 8 0 2 (ft276_8 (by omega))
      have es3026 : mq3006 (276 + k.toNat) 9 = mq2985 (276 + k.toNat) 9 := (hFq3006 (276 + k.toNat) 9 wAt_n276)
      have tb3027 := hTq2985.atp (276 + k.toNat) 9 ((-1)) 47 (ft276_9 (by omega))
      have es3028 : mq3006 (276 + k.toNat) 10 = mq2985 (276 + k.toNat) 10 := (hFq3006 (276 + k.toNat) 10 wAt_n276)
      have tb3029 := hTq2985.atp (276 + k.toNat) 10 ((-1)) 47 (ft276_10 (by omega))
      have es3030 : mq3006 (276 + k.toNat) 11 = mq2985 (276 + k.toNat) 11 := (hFq3006 (276 + k.toNat) 11 wAt_n276)
      have tb3031 := hTq2985.atp (276 + k.toNat) 11 0 40 (ft276_11 (by omega))
      refine ho 0 _ (by omega) hTq3006 hF3008 (by omega) (fun z hz => ((hFq3006 265 z rfl).trans (hZq2985 z (by omega)))) (fun h1 => ?_)
      omega
    · refine y_iconst 157 c69_156 rfl ?_
      refine y_goto 161 c69_157 rfl ?_
      refine y_istore 162 c69_161 rfl rfl ?_
      have tb3032 := hTq3006.atp 2 2 0 320 rfl
      have es3033 : mq3006 256 16 = m 256 16 := ((hFq3006 256 16 rfl).trans (hFq2985 256 16 ((wSs256_lt (by decide)).trans rfl)))
      have es3034 : mq3006 256 12 = mq2985 256 12 := (hFq3006 256 12 rfl)
      have tb3035 := hTq2985.atp 256 12 0 12 rfl
      have es3036 : mq3006 256 13 = mq2985 256 13 := (hFq3006 256 13 rfl)
      have tb3037 := hTq2985.atp 256 13 0 8 rfl
      have es3038 : mq3006 (276 + k.toNat) 0 = mq2985 (276 + k.toNat) 0 := (hFq3006 (276 + k.toNat) 0 wAt_n276)
      have tb3039 := hTq2985.atp (276 + k.toNat) 0 0 9 (ft276_0 (by omega))
      have es3040 : mq3006 (276 + k.toNat) 2 = mq2985 (276 + k.toNat) 2 := (hFq3006 (276 + k.toNat) 2 wAt_n276)
      have tb3041 := hTq2985.atp (276 + k.toNat) 2 ((-1)) 47 (ft276_2 (by omega))
      have es3042 : mq3006 (276 + k.toNat) 3 = mq2985 (276 + k.toNat) 3 := (hFq3006 (276 + k.toNat) 3 wAt_n276)
      have tb3043 := hTq2985.atp (276 + k.toNat) 3 ((-1)) 47 (ft276_3 (by omega))
      have es3044 : mq3006 (276 + k.toNat) 6 = mq2985 (276 + k.toNat) 6 := (hFq3006 (276 + k.toNat) 6 wAt_n276)
      have tb3045 := hTq2985.atp (276 + k.toNat) 6 ((-1)) 11 (ft276_6 (by omega))
      have es3046 : mq3006 (276 + k.toNat) 8 = mq2985 (276 + k.toNat) 8 := (hFq3006 (276 + k.toNat) 8 wAt_n276)
      have tb3047 := hTq2985.atp (276 + k.toNat) 8 0 2 (ft276_8 (by omega))
      have es3048 : mq3006 (276 + k.toNat) 9 = mq2985 (276 + k.toNat) 9 := (hFq3006 (276 + k.toNat) 9 wAt_n276)
      have tb3049 := hTq2985.atp (276 + k.toNat) 9 ((-1)) 47 (ft276_9 (by omega))
      have es3050 : mq3006 (276 + k.toNat) 10 = mq2985 (276 + k.toNat) 10 := (hFq3006 (276 + k.toNat) 10 wAt_n276)
      have tb3051 := hTq2985.atp (276 + k.toNat) 10 ((-1)) 47 (ft276_10 (by omega))
      have es3052 : mq3006 (276 + k.toNat) 11 = mq2985 (276 + k.toNat) 11 := (hFq3006 (276 + k.toNat) 11 wAt_n276)
      have tb3053 := hTq2985.atp (276 + k.toNat) 11 0 40 (ft276_11 (by omega))
      refine ho 1 _ (by omega) hTq3006 hF3008 (by omega) (fun z hz => ((hFq3006 265 z rfl).trans (hZq2985 z (by omega)))) (fun h1 => ?_)
      have hsv : SV 276 mq3006 k.toNat := by
        unfold SV
        omega
      have ek : mq3006 265 (m 256 13).toNat = mq2985 265 ((m 256 13).toNat) := (hFq3006 265 ((m 256 13).toNat) rfl)
      have g2 := RG.one (K := 265) (c1 := m 256 12) (c2 := mq3006 256 12) (d1 := m 256 13) (d2 := mq3006 256 13) hsv (by omega) (by omega)
      exact ⟨cast (by congr 1 <;> omega) g2, EN.nil (by omega), by omega⟩
set_option maxRecDepth 100000 in
set_option maxHeartbeats 2000000 in
theorem t69a_256 {L : Nat} {xs : Nat → Int32} {d nn : Nat} {m : yM} {e : Int} (hT : Ty gT m) (he : 0 ≤ e ∧ e ≤ 320) (hE : m 5 e.toNat = 0) (ha : m 2 2 ≤ e) (hp : m 2 1 = 0) (hm : 1 ≤ m 256 10) {dep : Int} (hdep : 0 ≤ dep ∧ dep ≤ 3) (hB : BS256 L xs (d + 4) (dep + 1) e) : ∀ (k : Nat) (g i : Int) (x4 : Option Value) (mi : yM), 41 - i = k → 0 ≤ i ∧ i ≤ 41 → g = 0 ∨ g = 1 → Ty gT mi → Fr (wBo256 (m 256 16).toNat) m mi → (mi 2 2 ≤ e ∧ m 256 16 ≤ mi 256 16 ∧ m 256 12 ≤ mi 256 12 ∧ m 256 13 ≤ mi 256 13) → (∀ z : Nat, (z : Int) < m 256 13 → mi 265 z = m 265 z) → (g = 1 → RG 276 265 mi (m 256 16) (mi 256 16) (m 256 12) (mi 256 12) (m 256 13) (mi 256 13) ∧ EN 276 mi (m 256 16) (mi 256 16) (mi 256 16)) → YW (gZ L xs) 69 (d + 6) 19 [some (.ref 2), some (yI dep), some (yI g), some (yI i), x4] [] mi nn (qI (fun r m' n' => n' = nn ∧ Ty gT m' ∧ Fr (wBo256 (m 256 16).toNat) m m' ∧ ((r = 0 ∨ r = 1) ∧ m' 2 2 ≤ e ∧ m 256 16 ≤ m' 256 16 ∧ m 256 12 ≤ m' 256 12 ∧ m 256 13 ≤ m' 256 13) ∧ (∀ z : Nat, (z : Int) < m 256 13 → m' 265 z = m 265 z) ∧ (r = 1 → RG 276 265 m' (m 256 16) (m' 256 16) (m 256 12) (m' 256 12) (m 256 13) (m' 256 13) ∧ EN 276 m' (m 256 16) (m' 256 16) (m' 256 16)))) := by
  intro k
  induction k using Nat.strongRecOn with
  | ind k ih =>
    intro g i x4 mi hk hi0 hg0 hTi hFi hcn hz hg
    have tm12 := hT.atp 256 12 0 12 rfl
    have ti12 := hTi.atp 256 12 0 12 rfl
    have tm13 := hT.atp 256 13 0 8 rfl
    have ti13 := hTi.atp 256 13 0 8 rfl
    have tm16 := hT.atp 256 16 0 40 rfl
    have ti16 := hTi.atp 256 16 0 40 rfl
    have ta := hTi.atp 2 2 0 320 rfl
    refine y_iload 20 c69_19 rfl rfl ?_
    refine y_iconst 22 c69_20 rfl ?_
    refine y_icmp 180 25 c69_22 rfl rfl (yc_gt (by omega) (by omega)) (fun hb3054 => ?_) (fun hb3054 => ?_)
    · refine y_iload 181 c69_180 rfl rfl ?_
      refine y_if 197 184 c69_181 rfl rfl (yz_eq (by omega)) (fun hb3055 => ?_) (fun hb3055 => ?_)
      · refine y_iconst 198 c69_197 rfl ?_
        refine y_retI c69_198 (y_fit1 (by omega)) ⟨rfl, hTi, hFi, by omega, fun z hz0 => (hz z hz0), fun h1 => ?_⟩
        omega
      · refine y_aload 185 c69_184 rfl rfl rfl ?_
        refine y_iconst 187 c69_185 rfl ?_
        refine y_callIB 190 [.ref 2, yI 125] [] c69_187 rfl rfl rfl rfl rfl (ycanO km37 ko2) (t37 hTi he (by have e1 : mi 5 e.toNat = m 5 e.toNat := (hFi 5 e.toNat ((wBo256_lt (by decide)).trans rfl)); omega) (by omega) (by omega)) (fun rq3056 mq3056 nq3056 hq3056 => ?_)
        obtain ⟨rfl, hTq3056, hFq3056, hq3056⟩ := hq3056
        have hF3057 := hFi.tr hFq3056 wAt_wBo256
        refine y_if 197 193 c69_190 rfl rfl (yz_eq (by omega)) (fun hb3058 => ?_) (fun hb3058 => ?_)
        · refine y_iconst 198 c69_197 rfl ?_
          have tb3059 := hTq3056.atp 2 2 0 320 rfl
          have es3060 : mq3056 256 16 = mi 256 16 := (hFq3056 256 16 rfl)
          have es3061 : mq3056 256 12 = mi 256 12 := (hFq3056 256 12 rfl)
          have es3062 : mq3056 256 13 = mi 256 13 := (hFq3056 256 13 rfl)
          refine y_retI c69_198 (y_fit1 (by omega)) ⟨rfl, hTq3056, hF3057, by omega, fun z hz0 => ((hFq3056 265 z rfl).trans (hz z hz0)), fun h1 => ?_⟩
          omega
        · refine y_iconst 194 c69_193 rfl ?_
          refine y_goto 198 c69_194 rfl ?_
          have tb3063 := hTq3056.atp 2 2 0 320 rfl
          have es3064 : mq3056 256 16 = mi 256 16 := (hFq3056 256 16 rfl)
          have es3065 : mq3056 256 12 = mi 256 12 := (hFq3056 256 12 rfl)
          have es3066 : mq3056 256 13 = mi 256 13 := (hFq3056 256 13 rfl)
          refine y_retI c69_198 (y_fit1 (by omega)) ⟨rfl, hTq3056, hF3057, by omega, fun z hz0 => ((hFq3056 265 z rfl).trans (hz z hz0)), fun h1 => ?_⟩
          obtain ⟨g0, n0⟩ := hg (by omega)
          have g1 := g0.fr (m' := mq3056) (c3 := mq3056 256 12) (fun j ja jb q _ => (hFq3056 _ _ wAt_n276)) (fun z za zb => (hFq3056 265 z rfl)) (by omega)
          have n1 := n0.fr (m' := mq3056) (c2 := mq3056 256 16) (fun j ja jb q => (hFq3056 _ _ wAt_n276)) (by omega)
          refine ⟨cast ?_ g1, cast ?_ n1⟩ <;> congr 1 <;> omega
    · refine y_iload 26 c69_25 rfl rfl ?_
      refine y_if 180 29 c69_26 rfl rfl (yz_eq (by omega)) (fun hb3067 => ?_) (fun hb3067 => ?_)
      · refine y_iload 181 c69_180 rfl rfl ?_
        refine y_if 197 184 c69_181 rfl rfl (yz_eq (by omega)) (fun hb3068 => ?_) (fun hb3068 => ?_)
        · refine y_iconst 198 c69_197 rfl ?_
          refine y_retI c69_198 (y_fit1 (by omega)) ⟨rfl, hTi, hFi, by omega, fun z hz0 => (hz z hz0), fun h1 => ?_⟩
          omega
        · exfalso; omega
      · refine y_aload 30 c69_29 rfl rfl rfl ?_
        refine y_callP 33 [.ref 2] [] c69_30 rfl rfl rfl rfl rfl (ycanO km38 ko2) (t38 hTi he (by have e1 : mi 5 e.toNat = m 5 e.toNat := (hFi 5 e.toNat ((wBo256_lt (by decide)).trans rfl)); omega) (by omega)) (fun r3069 hr3069 => ?_)
        refine y_iconst 35 c69_33 rfl ?_
        refine y_icmp 180 38 c69_35 rfl rfl (yc_eq (by omega) (by omega)) (fun hb3070 => ?_) (fun hb3070 => ?_)
        · refine y_iload 181 c69_180 rfl rfl ?_
          refine y_if 197 184 c69_181 rfl rfl (yz_eq (by omega)) (fun hb3071 => ?_) (fun hb3071 => ?_)
          · exfalso; omega
          · refine y_aload 185 c69_184 rfl rfl rfl ?_
            refine y_iconst 187 c69_185 rfl ?_
            refine y_callIB 190 [.ref 2, yI 125] [] c69_187 rfl rfl rfl rfl rfl (ycanO km37 ko2) (t37 hTi he (by have e1 : mi 5 e.toNat = m 5 e.toNat := (hFi 5 e.toNat ((wBo256_lt (by decide)).trans rfl)); omega) (by omega) (by omega)) (fun rq3072 mq3072 nq3072 hq3072 => ?_)
            obtain ⟨rfl, hTq3072, hFq3072, hq3072⟩ := hq3072
            have hF3073 := hFi.tr hFq3072 wAt_wBo256
            refine y_if 197 193 c69_190 rfl rfl (yz_eq (by omega)) (fun hb3074 => ?_) (fun hb3074 => ?_)
            · refine y_iconst 198 c69_197 rfl ?_
              have tb3075 := hTq3072.atp 2 2 0 320 rfl
              have es3076 : mq3072 256 16 = mi 256 16 := (hFq3072 256 16 rfl)
              have es3077 : mq3072 256 12 = mi 256 12 := (hFq3072 256 12 rfl)
              have es3078 : mq3072 256 13 = mi 256 13 := (hFq3072 256 13 rfl)
              refine y_retI c69_198 (y_fit1 (by omega)) ⟨rfl, hTq3072, hF3073, by omega, fun z hz0 => ((hFq3072 265 z rfl).trans (hz z hz0)), fun h1 => ?_⟩
              omega
            · refine y_iconst 194 c69_193 rfl ?_
              refine y_goto 198 c69_194 rfl ?_
              have tb3079 := hTq3072.atp 2 2 0 320 rfl
              have es3080 : mq3072 256 16 = mi 256 16 := (hFq3072 256 16 rfl)
              have es3081 : mq3072 256 12 = mi 256 12 := (hFq3072 256 12 rfl)
              have es3082 : mq3072 256 13 = mi 256 13 := (hFq3072 256 13 rfl)
              refine y_retI c69_198 (y_fit1 (by omega)) ⟨rfl, hTq3072, hF3073, by omega, fun z hz0 => ((hFq3072 265 z rfl).trans (hz z hz0)), fun h1 => ?_⟩
              obtain ⟨g0, n0⟩ := hg (by omega)
              have g1 := g0.fr (m' := mq3072) (c3 := mq3072 256 12) (fun j ja jb q _ => (hFq3072 _ _ wAt_n276)) (fun z za zb => (hFq3072 265 z rfl)) (by omega)
              have n1 := n0.fr (m' := mq3072) (c2 := mq3072 256 16) (fun j ja jb q => (hFq3072 _ _ wAt_n276)) (by omega)
              refine ⟨cast ?_ g1, cast ?_ n1⟩ <;> congr 1 <;> omega
        · refine y_aload 39 c69_38 rfl rfl rfl ?_
          refine y_getS 42 (B := 256) c69_39 rfl kf2_1 (by rw [show mi 2 1 = 0 from by have e : mi 2 1 = m 2 1 := (hFi 2 1 ((wBo256_lt (by decide)).trans rfl)); omega]; rfl) ?_
          refine y_getX 45 (mi 256 16) c69_42 rfl kf256_16 rfl ?_
          refine y_iconst 47 c69_45 rfl ?_
          refine y_icmp 55 50 c69_47 rfl rfl (yc_ne (by omega) (by omega)) (fun hb3083 => ?_) (fun hb3083 => ?_)
          · refine y_aload 56 c69_55 rfl rfl rfl ?_
            refine y_getS 59 (B := 256) c69_56 rfl kf2_1 (by rw [show mi 2 1 = 0 from by have e : mi 2 1 = m 2 1 := (hFi 2 1 ((wBo256_lt (by decide)).trans rfl)); omega]; rfl) ?_
            have es3085 : mi 256 10 = m 256 10 := (hFi 256 10 ((wBo256_lt (by decide)).trans rfl))
            have tb3086 := hT.atp 256 10 0 10 rfl
            refine y_callAB 62 [.ref 256] [] c69_59 rfl rfl rfl rfl rfl (ycanO km56 ko256) (t56f_256 hTi (by omega) (by omega)) (fun Rq3084 mq3084 nq3084 hq3084 => ?_)
            obtain ⟨rfl, rfl, hTq3084, hFq3084, hq3084, k8⟩ := hq3084
            have hF3087 := hFi.tr hFq3084 (wAs256_wBo256 (by omega))
            refine y_astore 64 c69_62 rfl rfl rfl ?_
            refine y_aload 65 c69_64 rfl rfl rfl ?_
            have es3088 : mq3084 2 2 = mi 2 2 := (hFq3084 2 2 ((wAs256_lt (by decide)).trans rfl))
            refine y_callP 68 [.ref 2] [] c69_65 rfl rfl rfl rfl rfl (ycanO km38 ko2) (t38 hTq3084 he (by have e1 : mq3084 5 e.toNat = m 5 e.toNat := ((hFq3084 5 e.toNat ((wAs256_lt (by decide)).trans rfl)).trans (hFi 5 e.toNat ((wBo256_lt (by decide)).trans rfl))); omega) (by omega)) (fun r3089 hr3089 => ?_)
            by_cases hk3090 : r3089 = 6
            · refine y_top 6 hk3090 ?_
              refine y_tsw 100 c69_68 (by decide) (by decide) rfl rfl ?_
              have es3091 : mq3084 2 2 = mi 2 2 := (hFq3084 2 2 ((wAs256_lt (by decide)).trans rfl))
              have es3092 : mq3084 2 1 = m 2 1 := ((hFq3084 2 1 ((wAs256_lt (by decide)).trans rfl)).trans (hFi 2 1 ((wBo256_lt (by decide)).trans rfl)))
              have tb3093 := hT.atp 2 1 ((-1)) 1 rfl
              have es3094 : mq3084 256 10 = m 256 10 := ((hFq3084 256 10 ((wAs256_lt (by decide)).trans rfl)).trans (hFi 256 10 ((wBo256_lt (by decide)).trans rfl)))
              have es3095 : mq3084 256 12 = mi 256 12 := (hFq3084 256 12 ((wAs256_lt (by decide)).trans rfl))
              have es3096 : mq3084 256 13 = mi 256 13 := (hFq3084 256 13 ((wAs256_lt (by decide)).trans rfl))
              have tb3097 := hTq3084.atp 256 16 0 40 rfl
              refine t69i_256 (k := mi 256 16) hTq3084 he (by have e1 : mq3084 5 e.toNat = m 5 e.toNat := ((hFq3084 5 e.toNat ((wAs256_lt (by decide)).trans rfl)).trans (hFi 5 e.toNat ((wBo256_lt (by decide)).trans rfl))); omega) (by omega) (by omega) (by omega) (by omega) (by omega) k8 (by omega) hdep hB (fun g4 m4 hg4 hT4 hF4 h4 hZ4 hS4 => ?_)
              have hF3098 := hF3087.tr hF4 (wBo256_mono (by omega))
              refine y_aload 164 c69_162 rfl rfl rfl ?_
              refine y_aload 165 c69_164 rfl rfl rfl ?_
              refine y_getS 168 (B := 256) c69_165 rfl kf2_1 (by rw [show m4 2 1 = 0 from by have e : m4 2 1 = m 2 1 := ((hF4 2 1 ((wBo256_lt (by decide)).trans rfl)).trans ((hFq3084 2 1 ((wAs256_lt (by decide)).trans rfl)).trans (hFi 2 1 ((wBo256_lt (by decide)).trans rfl)))); omega]; rfl) ?_
              refine y_getX 171 (m4 256 16) c69_168 rfl kf256_16 rfl ?_
              have tb3099 := hT4.atp 256 16 0 40 rfl
              refine y_putI 174 c69_171 rfl (ff276_12 (by omega)) (y_fit0 _) ?_
              have hT3100 := hT4.up (276 + (mi 256 16).toNat) 12 (m4 256 16) 0 40 (ft276_12 (by omega)) (by omega)
              have hF3101 := hF3098.up (276 + (mi 256 16).toNat) 12 (m4 256 16) (wBo256_s (by omega))
              refine y_iinc 177 c69_174 rfl rfl rfl ?_
              refine y_goto 19 c69_177 rfl ?_
              have es3102 : (yup m4 (276 + (mi 256 16).toNat) 12 (m4 256 16)) 2 2 = m4 2 2 := (yup_na (by omega))
              have tb3103 := hT4.atp 2 2 0 320 rfl
              have es3104 : (yup m4 (276 + (mi 256 16).toNat) 12 (m4 256 16)) 256 16 = m4 256 16 := (yup_na (by omega))
              have es3105 : (yup m4 (276 + (mi 256 16).toNat) 12 (m4 256 16)) 256 12 = m4 256 12 := (yup_na (by omega))
              have tb3106 := hT4.atp 256 12 0 12 rfl
              have es3107 : (yup m4 (276 + (mi 256 16).toNat) 12 (m4 256 16)) 256 13 = m4 256 13 := (yup_na (by omega))
              have tb3108 := hT4.atp 256 13 0 8 rfl
              refine ih (41 - (i + 1 : Int)).toNat (by omega) g4 (i + 1) _ _ (by omega) (by omega) (by omega) hT3100 hF3101 (by omega) (fun z hz0 => ((yup_na (by omega)).trans ((hZ4 z (by omega)).trans ((hFq3084 265 z ((wAs256_lt (by decide)).trans rfl)).trans (hz z hz0))))) (fun h1 => ?_)
              obtain ⟨g0, n0⟩ := hg (by omega)
              obtain ⟨p0, p1, p2⟩ := hS4 h1
              have g1 := g0.fr (m' := yup m4 (276 + (mi 256 16).toNat) 12 (m4 256 16)) (c3 := mi 256 12) (fun j ja jb q _ => ((yup_na (by omega)).trans ((hF4 _ _ (wBo256_n (by omega))).trans (hFq3084 _ _ (wAs256_n (by omega)))))) (fun z za zb => ((yup_na (by omega)).trans ((hZ4 z (by omega)).trans (hFq3084 265 z ((wAs256_lt (by decide)).trans rfl))))) (by omega)
              have g2 := p0.fr (m' := yup m4 (276 + (mi 256 16).toNat) 12 (m4 256 16)) (c3 := (yup m4 (276 + (mi 256 16).toNat) 12 (m4 256 16)) 256 12) (fun j ja jb q hq => yup_ne (fun e => hq e.2)) (fun z za zb => yup_na (by omega)) (by omega)
              have g3 := RG.app (b := mi 256 16) (c := (yup m4 (276 + (mi 256 16).toNat) 12 (m4 256 16)) 256 16) (c2 := mi 256 12) (c3 := (yup m4 (276 + (mi 256 16).toNat) 12 (m4 256 16)) 256 12) (d2 := mi 256 13) (d3 := (yup m4 (276 + (mi 256 16).toNat) 12 (m4 256 16)) 256 13) g1 (cast (by congr 1 <;> omega) g2) (by omega) (by omega) (by omega)
              have n1 := n0.fr (m' := yup m4 (276 + (mi 256 16).toNat) 12 (m4 256 16)) (c2 := (yup m4 (276 + (mi 256 16).toNat) 12 (m4 256 16)) 256 16) (fun j ja jb q => ((yup_na (by omega)).trans ((hF4 _ _ (wBo256_n (by omega))).trans (hFq3084 _ _ (wAs256_n (by omega)))))) (by omega)
              have n2 := p1.fr (m' := yup m4 (276 + (mi 256 16).toNat) 12 (m4 256 16)) (c2 := (yup m4 (276 + (mi 256 16).toNat) 12 (m4 256 16)) 256 16) (fun j ja jb q => yup_na (by omega)) (by omega)
              have n3 : EN 276 (yup m4 (276 + (mi 256 16).toNat) 12 (m4 256 16)) (mi 256 16) (mi 256 16 + 1) ((yup m4 (276 + (mi 256 16).toNat) 12 (m4 256 16)) 256 16) := EN.one (by omega) (by rw [yup_eq]; omega) (by rw [yup_nk (by decide), yup_nk (by decide)]; omega)
              exact ⟨g3, cast (by congr 1 <;> omega) (EN.app n1 (EN.app (b := mi 256 16 + 1) n3 n2))⟩
            by_cases hk3109 : r3089 = 7
            · refine y_top 7 hk3109 ?_
              refine y_tsw 138 c69_68 (by decide) (by decide) rfl rfl ?_
              have es3110 : mq3084 2 2 = mi 2 2 := (hFq3084 2 2 ((wAs256_lt (by decide)).trans rfl))
              have es3111 : mq3084 2 1 = m 2 1 := ((hFq3084 2 1 ((wAs256_lt (by decide)).trans rfl)).trans (hFi 2 1 ((wBo256_lt (by decide)).trans rfl)))
              have tb3112 := hT.atp 2 1 ((-1)) 1 rfl
              have es3113 : mq3084 256 10 = m 256 10 := ((hFq3084 256 10 ((wAs256_lt (by decide)).trans rfl)).trans (hFi 256 10 ((wBo256_lt (by decide)).trans rfl)))
              have es3114 : mq3084 256 12 = mi 256 12 := (hFq3084 256 12 ((wAs256_lt (by decide)).trans rfl))
              have es3115 : mq3084 256 13 = mi 256 13 := (hFq3084 256 13 ((wAs256_lt (by decide)).trans rfl))
              have tb3116 := hTq3084.atp 256 16 0 40 rfl
              refine t69k_256 (k := mi 256 16) hTq3084 he (by have e1 : mq3084 5 e.toNat = m 5 e.toNat := ((hFq3084 5 e.toNat ((wAs256_lt (by decide)).trans rfl)).trans (hFi 5 e.toNat ((wBo256_lt (by decide)).trans rfl))); omega) (by omega) (by omega) (by omega) (by omega) (by omega) k8 (fun g4 m4 hg4 hT4 hF4 h4 hZ4 hS4 => ?_)
              have hF3117 := hF3087.tr hF4 (wBo256_mono (by omega))
              refine y_aload 164 c69_162 rfl rfl rfl ?_
              refine y_aload 165 c69_164 rfl rfl rfl ?_
              refine y_getS 168 (B := 256) c69_165 rfl kf2_1 (by rw [show m4 2 1 = 0 from by have e : m4 2 1 = m 2 1 := ((hF4 2 1 ((wBo256_lt (by decide)).trans rfl)).trans ((hFq3084 2 1 ((wAs256_lt (by decide)).trans rfl)).trans (hFi 2 1 ((wBo256_lt (by decide)).trans rfl)))); omega]; rfl) ?_
              refine y_getX 171 (m4 256 16) c69_168 rfl kf256_16 rfl ?_
              have tb3118 := hT4.atp 256 16 0 40 rfl
              refine y_putI 174 c69_171 rfl (ff276_12 (by omega)) (y_fit0 _) ?_
              have hT3119 := hT4.up (276 + (mi 256 16).toNat) 12 (m4 256 16) 0 40 (ft276_12 (by omega)) (by omega)
              have hF3120 := hF3117.up (276 + (mi 256 16).toNat) 12 (m4 256 16) (wBo256_s (by omega))
              refine y_iinc 177 c69_174 rfl rfl rfl ?_
              refine y_goto 19 c69_177 rfl ?_
              have es3121 : (yup m4 (276 + (mi 256 16).toNat) 12 (m4 256 16)) 2 2 = m4 2 2 := (yup_na (by omega))
              have tb3122 := hT4.atp 2 2 0 320 rfl
              have es3123 : (yup m4 (276 + (mi 256 16).toNat) 12 (m4 256 16)) 256 16 = m4 256 16 := (yup_na (by omega))
              have es3124 : (yup m4 (276 + (mi 256 16).toNat) 12 (m4 256 16)) 256 12 = m4 256 12 := (yup_na (by omega))
              have tb3125 := hT4.atp 256 12 0 12 rfl
              have es3126 : (yup m4 (276 + (mi 256 16).toNat) 12 (m4 256 16)) 256 13 = m4 256 13 := (yup_na (by omega))
              have tb3127 := hT4.atp 256 13 0 8 rfl
              refine ih (41 - (i + 1 : Int)).toNat (by omega) g4 (i + 1) _ _ (by omega) (by omega) (by omega) hT3119 hF3120 (by omega) (fun z hz0 => ((yup_na (by omega)).trans ((hZ4 z (by omega)).trans ((hFq3084 265 z ((wAs256_lt (by decide)).trans rfl)).trans (hz z hz0))))) (fun h1 => ?_)
              obtain ⟨g0, n0⟩ := hg (by omega)
              obtain ⟨p0, p1, p2⟩ := hS4 h1
              have g1 := g0.fr (m' := yup m4 (276 + (mi 256 16).toNat) 12 (m4 256 16)) (c3 := mi 256 12) (fun j ja jb q _ => ((yup_na (by omega)).trans ((hF4 _ _ (wBo256_n (by omega))).trans (hFq3084 _ _ (wAs256_n (by omega)))))) (fun z za zb => ((yup_na (by omega)).trans ((hZ4 z (by omega)).trans (hFq3084 265 z ((wAs256_lt (by decide)).trans rfl))))) (by omega)
              have g2 := p0.fr (m' := yup m4 (276 + (mi 256 16).toNat) 12 (m4 256 16)) (c3 := (yup m4 (276 + (mi 256 16).toNat) 12 (m4 256 16)) 256 12) (fun j ja jb q hq => yup_ne (fun e => hq e.2)) (fun z za zb => yup_na (by omega)) (by omega)
              have g3 := RG.app (b := mi 256 16) (c := (yup m4 (276 + (mi 256 16).toNat) 12 (m4 256 16)) 256 16) (c2 := mi 256 12) (c3 := (yup m4 (276 + (mi 256 16).toNat) 12 (m4 256 16)) 256 12) (d2 := mi 256 13) (d3 := (yup m4 (276 + (mi 256 16).toNat) 12 (m4 256 16)) 256 13) g1 (cast (by congr 1 <;> omega) g2) (by omega) (by omega) (by omega)
              have n1 := n0.fr (m' := yup m4 (276 + (mi 256 16).toNat) 12 (m4 256 16)) (c2 := (yup m4 (276 + (mi 256 16).toNat) 12 (m4 256 16)) 256 16) (fun j ja jb q => ((yup_na (by omega)).trans ((hF4 _ _ (wBo256_n (by omega))).trans (hFq3084 _ _ (wAs256_n (by omega)))))) (by omega)
              have n2 := p1.fr (m' := yup m4 (276 + (mi 256 16).toNat) 12 (m4 256 16)) (c2 := (yup m4 (276 + (mi 256 16).toNat) 12 (m4 256 16)) 256 16) (fun j ja jb q => yup_na (by omega)) (by omega)
              have n3 : EN 276 (yup m4 (276 + (mi 256 16).toNat) 12 (m4 256 16)) (mi 256 16) (mi 256 16 + 1) ((yup m4 (276 + (mi 256 16).toNat) 12 (m4 256 16)) 256 16) := EN.one (by omega) (by rw [yup_eq]; omega) (by rw [yup_nk (by decide), yup_nk (by decide)]; omega)
              exact ⟨g3, cast (by congr 1 <;> omega) (EN.app n1 (EN.app (b := mi 256 16 + 1) n3 n2))⟩
            by_cases hk3128 : r3089 = 8
            · refine y_top 8 hk3128 ?_
              refine y_tsw 100 c69_68 (by decide) (by decide) rfl rfl ?_
              have es3129 : mq3084 2 2 = mi 2 2 := (hFq3084 2 2 ((wAs256_lt (by decide)).trans rfl))
              have es3130 : mq3084 2 1 = m 2 1 := ((hFq3084 2 1 ((wAs256_lt (by decide)).trans rfl)).trans (hFi 2 1 ((wBo256_lt (by decide)).trans rfl)))
              have tb3131 := hT.atp 2 1 ((-1)) 1 rfl
              have es3132 : mq3084 256 10 = m 256 10 := ((hFq3084 256 10 ((wAs256_lt (by decide)).trans rfl)).trans (hFi 256 10 ((wBo256_lt (by decide)).trans rfl)))
              have es3133 : mq3084 256 12 = mi 256 12 := (hFq3084 256 12 ((wAs256_lt (by decide)).trans rfl))
              have es3134 : mq3084 256 13 = mi 256 13 := (hFq3084 256 13 ((wAs256_lt (by decide)).trans rfl))
              have tb3135 := hTq3084.atp 256 16 0 40 rfl
              refine t69i_256 (k := mi 256 16) hTq3084 he (by have e1 : mq3084 5 e.toNat = m 5 e.toNat := ((hFq3084 5 e.toNat ((wAs256_lt (by decide)).trans rfl)).trans (hFi 5 e.toNat ((wBo256_lt (by decide)).trans rfl))); omega) (by omega) (by omega) (by omega) (by omega) (by omega) k8 (by omega) hdep hB (fun g4 m4 hg4 hT4 hF4 h4 hZ4 hS4 => ?_)
              have hF3136 := hF3087.tr hF4 (wBo256_mono (by omega))
              refine y_aload 164 c69_162 rfl rfl rfl ?_
              refine y_aload 165 c69_164 rfl rfl rfl ?_
              refine y_getS 168 (B := 256) c69_165 rfl kf2_1 (by rw [show m4 2 1 = 0 from by have e : m4 2 1 = m 2 1 := ((hF4 2 1 ((wBo256_lt (by decide)).trans rfl)).trans ((hFq3084 2 1 ((wAs256_lt (by decide)).trans rfl)).trans (hFi 2 1 ((wBo256_lt (by decide)).trans rfl)))); omega]; rfl) ?_
              refine y_getX 171 (m4 256 16) c69_168 rfl kf256_16 rfl ?_
              have tb3137 := hT4.atp 256 16 0 40 rfl
              refine y_putI 174 c69_171 rfl (ff276_12 (by omega)) (y_fit0 _) ?_
              have hT3138 := hT4.up (276 + (mi 256 16).toNat) 12 (m4 256 16) 0 40 (ft276_12 (by omega)) (by omega)
              have hF3139 := hF3136.up (276 + (mi 256 16).toNat) 12 (m4 256 16) (wBo256_s (by omega))
              refine y_iinc 177 c69_174 rfl rfl rfl ?_
              refine y_goto 19 c69_177 rfl ?_
              have es3140 : (yup m4 (276 + (mi 256 16).toNat) 12 (m4 256 16)) 2 2 = m4 2 2 := (yup_na (by omega))
              have tb3141 := hT4.atp 2 2 0 320 rfl
              have es3142 : (yup m4 (276 + (mi 256 16).toNat) 12 (m4 256 16)) 256 16 = m4 256 16 := (yup_na (by omega))
              have es3143 : (yup m4 (276 + (mi 256 16).toNat) 12 (m4 256 16)) 256 12 = m4 256 12 := (yup_na (by omega))
              have tb3144 := hT4.atp 256 12 0 12 rfl
              have es3145 : (yup m4 (276 + (mi 256 16).toNat) 12 (m4 256 16)) 256 13 = m4 256 13 := (yup_na (by omega))
              have tb3146 := hT4.atp 256 13 0 8 rfl
              refine ih (41 - (i + 1 : Int)).toNat (by omega) g4 (i + 1) _ _ (by omega) (by omega) (by omega) hT3138 hF3139 (by omega) (fun z hz0 => ((yup_na (by omega)).trans ((hZ4 z (by omega)).trans ((hFq3084 265 z ((wAs256_lt (by decide)).trans rfl)).trans (hz z hz0))))) (fun h1 => ?_)
              obtain ⟨g0, n0⟩ := hg (by omega)
              obtain ⟨p0, p1, p2⟩ := hS4 h1
              have g1 := g0.fr (m' := yup m4 (276 + (mi 256 16).toNat) 12 (m4 256 16)) (c3 := mi 256 12) (fun j ja jb q _ => ((yup_na (by omega)).trans ((hF4 _ _ (wBo256_n (by omega))).trans (hFq3084 _ _ (wAs256_n (by omega)))))) (fun z za zb => ((yup_na (by omega)).trans ((hZ4 z (by omega)).trans (hFq3084 265 z ((wAs256_lt (by decide)).trans rfl))))) (by omega)
              have g2 := p0.fr (m' := yup m4 (276 + (mi 256 16).toNat) 12 (m4 256 16)) (c3 := (yup m4 (276 + (mi 256 16).toNat) 12 (m4 256 16)) 256 12) (fun j ja jb q hq => yup_ne (fun e => hq e.2)) (fun z za zb => yup_na (by omega)) (by omega)
              have g3 := RG.app (b := mi 256 16) (c := (yup m4 (276 + (mi 256 16).toNat) 12 (m4 256 16)) 256 16) (c2 := mi 256 12) (c3 := (yup m4 (276 + (mi 256 16).toNat) 12 (m4 256 16)) 256 12) (d2 := mi 256 13) (d3 := (yup m4 (276 + (mi 256 16).toNat) 12 (m4 256 16)) 256 13) g1 (cast (by congr 1 <;> omega) g2) (by omega) (by omega) (by omega)
              have n1 := n0.fr (m' := yup m4 (276 + (mi 256 16).toNat) 12 (m4 256 16)) (c2 := (yup m4 (276 + (mi 256 16).toNat) 12 (m4 256 16)) 256 16) (fun j ja jb q => ((yup_na (by omega)).trans ((hF4 _ _ (wBo256_n (by omega))).trans (hFq3084 _ _ (wAs256_n (by omega)))))) (by omega)
              have n2 := p1.fr (m' := yup m4 (276 + (mi 256 16).toNat) 12 (m4 256 16)) (c2 := (yup m4 (276 + (mi 256 16).toNat) 12 (m4 256 16)) 256 16) (fun j ja jb q => yup_na (by omega)) (by omega)
              have n3 : EN 276 (yup m4 (276 + (mi 256 16).toNat) 12 (m4 256 16)) (mi 256 16) (mi 256 16 + 1) ((yup m4 (276 + (mi 256 16).toNat) 12 (m4 256 16)) 256 16) := EN.one (by omega) (by rw [yup_eq]; omega) (by rw [yup_nk (by decide), yup_nk (by decide)]; omega)
              exact ⟨g3, cast (by congr 1 <;> omega) (EN.app n1 (EN.app (b := mi 256 16 + 1) n3 n2))⟩
            by_cases hk3147 : r3089 = 9
            · refine y_top 9 hk3147 ?_
              refine y_tsw 111 c69_68 (by decide) (by decide) rfl rfl ?_
              have es3148 : mq3084 2 2 = mi 2 2 := (hFq3084 2 2 ((wAs256_lt (by decide)).trans rfl))
              have es3149 : mq3084 2 1 = m 2 1 := ((hFq3084 2 1 ((wAs256_lt (by decide)).trans rfl)).trans (hFi 2 1 ((wBo256_lt (by decide)).trans rfl)))
              have tb3150 := hT.atp 2 1 ((-1)) 1 rfl
              have es3151 : mq3084 256 10 = m 256 10 := ((hFq3084 256 10 ((wAs256_lt (by decide)).trans rfl)).trans (hFi 256 10 ((wBo256_lt (by decide)).trans rfl)))
              have es3152 : mq3084 256 12 = mi 256 12 := (hFq3084 256 12 ((wAs256_lt (by decide)).trans rfl))
              have es3153 : mq3084 256 13 = mi 256 13 := (hFq3084 256 13 ((wAs256_lt (by decide)).trans rfl))
              have tb3154 := hTq3084.atp 256 16 0 40 rfl
              refine t69j_256 (k := mi 256 16) hTq3084 he (by have e1 : mq3084 5 e.toNat = m 5 e.toNat := ((hFq3084 5 e.toNat ((wAs256_lt (by decide)).trans rfl)).trans (hFi 5 e.toNat ((wBo256_lt (by decide)).trans rfl))); omega) (by omega) (by omega) (by omega) (by omega) (by omega) k8 (by omega) (fun g4 m4 hg4 hT4 hF4 h4 hZ4 hS4 => ?_)
              have hF3155 := hF3087.tr hF4 (wBo256_mono (by omega))
              refine y_aload 164 c69_162 rfl rfl rfl ?_
              refine y_aload 165 c69_164 rfl rfl rfl ?_
              refine y_getS 168 (B := 256) c69_165 rfl kf2_1 (by rw [show m4 2 1 = 0 from by have e : m4 2 1 = m 2 1 := ((hF4 2 1 ((wBo256_lt (by decide)).trans rfl)).trans ((hFq3084 2 1 ((wAs256_lt (by decide)).trans rfl)).trans (hFi 2 1 ((wBo256_lt (by decide)).trans rfl)))); omega]; rfl) ?_
              refine y_getX 171 (m4 256 16) c69_168 rfl kf256_16 rfl ?_
              have tb3156 := hT4.atp 256 16 0 40 rfl
              refine y_putI 174 c69_171 rfl (ff276_12 (by omega)) (y_fit0 _) ?_
              have hT3157 := hT4.up (276 + (mi 256 16).toNat) 12 (m4 256 16) 0 40 (ft276_12 (by omega)) (by omega)
              have hF3158 := hF3155.up (276 + (mi 256 16).toNat) 12 (m4 256 16) (wBo256_s (by omega))
              refine y_iinc 177 c69_174 rfl rfl rfl ?_
              refine y_goto 19 c69_177 rfl ?_
              have es3159 : (yup m4 (276 + (mi 256 16).toNat) 12 (m4 256 16)) 2 2 = m4 2 2 := (yup_na (by omega))
              have tb3160 := hT4.atp 2 2 0 320 rfl
              have es3161 : (yup m4 (276 + (mi 256 16).toNat) 12 (m4 256 16)) 256 16 = m4 256 16 := (yup_na (by omega))
              have es3162 : (yup m4 (276 + (mi 256 16).toNat) 12 (m4 256 16)) 256 12 = m4 256 12 := (yup_na (by omega))
              have tb3163 := hT4.atp 256 12 0 12 rfl
              have es3164 : (yup m4 (276 + (mi 256 16).toNat) 12 (m4 256 16)) 256 13 = m4 256 13 := (yup_na (by omega))
              have tb3165 := hT4.atp 256 13 0 8 rfl
              refine ih (41 - (i + 1 : Int)).toNat (by omega) g4 (i + 1) _ _ (by omega) (by omega) (by omega) hT3157 hF3158 (by omega) (fun z hz0 => ((yup_na (by omega)).trans ((hZ4 z (by omega)).trans ((hFq3084 265 z ((wAs256_lt (by decide)).trans rfl)).trans (hz z hz0))))) (fun h1 => ?_)
              obtain ⟨g0, n0⟩ := hg (by omega)
              obtain ⟨p0, p1, p2⟩ := hS4 h1
              have g1 := g0.fr (m' := yup m4 (276 + (mi 256 16).toNat) 12 (m4 256 16)) (c3 := mi 256 12) (fun j ja jb q _ => ((yup_na (by omega)).trans ((hF4 _ _ (wBo256_n (by omega))).trans (hFq3084 _ _ (wAs256_n (by omega)))))) (fun z za zb => ((yup_na (by omega)).trans ((hZ4 z (by omega)).trans (hFq3084 265 z ((wAs256_lt (by decide)).trans rfl))))) (by omega)
              have g2 := p0.fr (m' := yup m4 (276 + (mi 256 16).toNat) 12 (m4 256 16)) (c3 := (yup m4 (276 + (mi 256 16).toNat) 12 (m4 256 16)) 256 12) (fun j ja jb q hq => yup_ne (fun e => hq e.2)) (fun z za zb => yup_na (by omega)) (by omega)
              have g3 := RG.app (b := mi 256 16) (c := (yup m4 (276 + (mi 256 16).toNat) 12 (m4 256 16)) 256 16) (c2 := mi 256 12) (c3 := (yup m4 (276 + (mi 256 16).toNat) 12 (m4 256 16)) 256 12) (d2 := mi 256 13) (d3 := (yup m4 (276 + (mi 256 16).toNat) 12 (m4 256 16)) 256 13) g1 (cast (by congr 1 <;> omega) g2) (by omega) (by omega) (by omega)
              have n1 := n0.fr (m' := yup m4 (276 + (mi 256 16).toNat) 12 (m4 256 16)) (c2 := (yup m4 (276 + (mi 256 16).toNat) 12 (m4 256 16)) 256 16) (fun j ja jb q => ((yup_na (by omega)).trans ((hF4 _ _ (wBo256_n (by omega))).trans (hFq3084 _ _ (wAs256_n (by omega)))))) (by omega)
              have n2 := p1.fr (m' := yup m4 (276 + (mi 256 16).toNat) 12 (m4 256 16)) (c2 := (yup m4 (276 + (mi 256 16).toNat) 12 (m4 256 16)) 256 16) (fun j ja jb q => yup_na (by omega)) (by omega)
              have n3 : EN 276 (yup m4 (276 + (mi 256 16).toNat) 12 (m4 256 16)) (mi 256 16) (mi 256 16 + 1) ((yup m4 (276 + (mi 256 16).toNat) 12 (m4 256 16)) 256 16) := EN.one (by omega) (by rw [yup_eq]; omega) (by rw [yup_nk (by decide), yup_nk (by decide)]; omega)
              exact ⟨g3, cast (by congr 1 <;> omega) (EN.app n1 (EN.app (b := mi 256 16 + 1) n3 n2))⟩
            refine y_tswd 138 c69_68 (by omega) (by omega) rfl ?_
            have es3166 : mq3084 2 2 = mi 2 2 := (hFq3084 2 2 ((wAs256_lt (by decide)).trans rfl))
            have es3167 : mq3084 2 1 = m 2 1 := ((hFq3084 2 1 ((wAs256_lt (by decide)).trans rfl)).trans (hFi 2 1 ((wBo256_lt (by decide)).trans rfl)))
            have tb3168 := hT.atp 2 1 ((-1)) 1 rfl
            have es3169 : mq3084 256 10 = m 256 10 := ((hFq3084 256 10 ((wAs256_lt (by decide)).trans rfl)).trans (hFi 256 10 ((wBo256_lt (by decide)).trans rfl)))
            have es3170 : mq3084 256 12 = mi 256 12 := (hFq3084 256 12 ((wAs256_lt (by decide)).trans rfl))
            have es3171 : mq3084 256 13 = mi 256 13 := (hFq3084 256 13 ((wAs256_lt (by decide)).trans rfl))
            have tb3172 := hTq3084.atp 256 16 0 40 rfl
            refine t69k_256 (k := mi 256 16) hTq3084 he (by have e1 : mq3084 5 e.toNat = m 5 e.toNat := ((hFq3084 5 e.toNat ((wAs256_lt (by decide)).trans rfl)).trans (hFi 5 e.toNat ((wBo256_lt (by decide)).trans rfl))); omega) (by omega) (by omega) (by omega) (by omega) (by omega) k8 (fun g4 m4 hg4 hT4 hF4 h4 hZ4 hS4 => ?_)
            have hF3173 := hF3087.tr hF4 (wBo256_mono (by omega))
            refine y_aload 164 c69_162 rfl rfl rfl ?_
            refine y_aload 165 c69_164 rfl rfl rfl ?_
            refine y_getS 168 (B := 256) c69_165 rfl kf2_1 (by rw [show m4 2 1 = 0 from by have e : m4 2 1 = m 2 1 := ((hF4 2 1 ((wBo256_lt (by decide)).trans rfl)).trans ((hFq3084 2 1 ((wAs256_lt (by decide)).trans rfl)).trans (hFi 2 1 ((wBo256_lt (by decide)).trans rfl)))); omega]; rfl) ?_
            refine y_getX 171 (m4 256 16) c69_168 rfl kf256_16 rfl ?_
            have tb3174 := hT4.atp 256 16 0 40 rfl
            refine y_putI 174 c69_171 rfl (ff276_12 (by omega)) (y_fit0 _) ?_
            have hT3175 := hT4.up (276 + (mi 256 16).toNat) 12 (m4 256 16) 0 40 (ft276_12 (by omega)) (by omega)
            have hF3176 := hF3173.up (276 + (mi 256 16).toNat) 12 (m4 256 16) (wBo256_s (by omega))
            refine y_iinc 177 c69_174 rfl rfl rfl ?_
            refine y_goto 19 c69_177 rfl ?_
            have es3177 : (yup m4 (276 + (mi 256 16).toNat) 12 (m4 256 16)) 2 2 = m4 2 2 := (yup_na (by omega))
            have tb3178 := hT4.atp 2 2 0 320 rfl
            have es3179 : (yup m4 (276 + (mi 256 16).toNat) 12 (m4 256 16)) 256 16 = m4 256 16 := (yup_na (by omega))
            have es3180 : (yup m4 (276 + (mi 256 16).toNat) 12 (m4 256 16)) 256 12 = m4 256 12 := (yup_na (by omega))
            have tb3181 := hT4.atp 256 12 0 12 rfl
            have es3182 : (yup m4 (276 + (mi 256 16).toNat) 12 (m4 256 16)) 256 13 = m4 256 13 := (yup_na (by omega))
            have tb3183 := hT4.atp 256 13 0 8 rfl
            refine ih (41 - (i + 1 : Int)).toNat (by omega) g4 (i + 1) _ _ (by omega) (by omega) (by omega) hT3175 hF3176 (by omega) (fun z hz0 => ((yup_na (by omega)).trans ((hZ4 z (by omega)).trans ((hFq3084 265 z ((wAs256_lt (by decide)).trans rfl)).trans (hz z hz0))))) (fun h1 => ?_)
            obtain ⟨g0, n0⟩ := hg (by omega)
            obtain ⟨p0, p1, p2⟩ := hS4 h1
            have g1 := g0.fr (m' := yup m4 (276 + (mi 256 16).toNat) 12 (m4 256 16)) (c3 := mi 256 12) (fun j ja jb q _ => ((yup_na (by omega)).trans ((hF4 _ _ (wBo256_n (by omega))).trans (hFq3084 _ _ (wAs256_n (by omega)))))) (fun z za zb => ((yup_na (by omega)).trans ((hZ4 z (by omega)).trans (hFq3084 265 z ((wAs256_lt (by decide)).trans rfl))))) (by omega)
            have g2 := p0.fr (m' := yup m4 (276 + (mi 256 16).toNat) 12 (m4 256 16)) (c3 := (yup m4 (276 + (mi 256 16).toNat) 12 (m4 256 16)) 256 12) (fun j ja jb q hq => yup_ne (fun e => hq e.2)) (fun z za zb => yup_na (by omega)) (by omega)
            have g3 := RG.app (b := mi 256 16) (c := (yup m4 (276 + (mi 256 16).toNat) 12 (m4 256 16)) 256 16) (c2 := mi 256 12) (c3 := (yup m4 (276 + (mi 256 16).toNat) 12 (m4 256 16)) 256 12) (d2 := mi 256 13) (d3 := (yup m4 (276 + (mi 256 16).toNat) 12 (m4 256 16)) 256 13) g1 (cast (by congr 1 <;> omega) g2) (by omega) (by omega) (by omega)
            have n1 := n0.fr (m' := yup m4 (276 + (mi 256 16).toNat) 12 (m4 256 16)) (c2 := (yup m4 (276 + (mi 256 16).toNat) 12 (m4 256 16)) 256 16) (fun j ja jb q => ((yup_na (by omega)).trans ((hF4 _ _ (wBo256_n (by omega))).trans (hFq3084 _ _ (wAs256_n (by omega)))))) (by omega)
            have n2 := p1.fr (m' := yup m4 (276 + (mi 256 16).toNat) 12 (m4 256 16)) (c2 := (yup m4 (276 + (mi 256 16).toNat) 12 (m4 256 16)) 256 16) (fun j ja jb q => yup_na (by omega)) (by omega)
            have n3 : EN 276 (yup m4 (276 + (mi 256 16).toNat) 12 (m4 256 16)) (mi 256 16) (mi 256 16 + 1) ((yup m4 (276 + (mi 256 16).toNat) 12 (m4 256 16)) 256 16) := EN.one (by omega) (by rw [yup_eq]; omega) (by rw [yup_nk (by decide), yup_nk (by decide)]; omega)
            exact ⟨g3, cast (by congr 1 <;> omega) (EN.app n1 (EN.app (b := mi 256 16 + 1) n3 n2))⟩
          · refine y_aload 51 c69_50 rfl rfl rfl ?_
            refine y_callIB 54 [.ref 2] [] c69_51 rfl rfl rfl rfl rfl (ycanO km43 ko2) (t43 hTi) (fun rq3184 mq3184 nq3184 hq3184 => ?_)
            obtain ⟨rfl, hTq3184, hFq3184, hq3184⟩ := hq3184
            have hF3185 := hFi.tr hFq3184 wFa_wBo256
            have es3186 : mq3184 2 2 = mi 2 2 := (hFq3184 2 2 rfl)
            have es3187 : mq3184 256 16 = mi 256 16 := (hFq3184 256 16 rfl)
            have es3188 : mq3184 256 12 = mi 256 12 := (hFq3184 256 12 rfl)
            have es3189 : mq3184 256 13 = mi 256 13 := (hFq3184 256 13 rfl)
            refine y_retI c69_54 (y_fit1 (by omega)) ⟨rfl, hTq3184, hF3185, by omega, fun z hz0 => ((hFq3184 265 z rfl).trans (hz z hz0)), fun h1 => ?_⟩
            omega
set_option maxRecDepth 100000 in
theorem t69s_256 {L : Nat} {xs : Nat → Int32} {d nn : Nat} {m : yM} {e : Int} (hT : Ty gT m) (he : 0 ≤ e ∧ e ≤ 320) (hE : m 5 e.toNat = 0) (ha : m 2 2 ≤ e) (hp : m 2 1 = 0) (hm : 1 ≤ m 256 10) {dep : Int} (hdep : 0 ≤ dep ∧ dep ≤ 3) (hB : BS256 L xs (d + 4) (dep + 1) e) : YC (gZ L xs) (d + 6) 69 [.ref 2, yI dep] m nn (qI (fun r m' n' => n' = nn ∧ Ty gT m' ∧ Fr (wBo256 (m 256 16).toNat) m m' ∧ ((r = 0 ∨ r = 1) ∧ m' 2 2 ≤ e ∧ m 256 16 ≤ m' 256 16 ∧ m 256 12 ≤ m' 256 12 ∧ m 256 13 ≤ m' 256 13) ∧ (∀ z : Nat, (z : Int) < m 256 13 → m' 265 z = m 265 z) ∧ (r = 1 → RG 276 265 m' (m 256 16) (m' 256 16) (m 256 12) (m' 256 12) (m 256 13) (m' 256 13) ∧ EN 276 m' (m 256 16) (m' 256 16) (m' 256 16)))) := by
  have tb2 := hT.atp 2 2 0 320 rfl
  have tb12 := hT.atp 256 12 0 12 rfl
  have tb13 := hT.atp 256 13 0 8 rfl
  have tb16 := hT.atp 256 16 0 40 rfl
  refine YC.mkB [some (.ref 2), some (yI dep), none, none, none] kn69 rfl rfl ?_
  have hF : Fr (wBo256 (m 256 16).toNat) m m := Fr.rf
  refine y_iload 1 c69_0 rfl rfl ?_
  refine y_iconst 2 c69_1 rfl ?_
  refine y_icmp 10 5 c69_2 rfl rfl (yc_le (by omega) (by omega)) (fun hb3190 => ?_) (fun hb3190 => ?_)
  · refine y_aload 11 c69_10 rfl rfl rfl ?_
    refine y_iconst 13 c69_11 rfl ?_
    have tb3192 := hT.atp 2 2 0 320 rfl
    refine y_callIB 16 [.ref 2, yI 123] [] c69_13 rfl rfl rfl rfl rfl (ycanO km37 ko2) (t37 hT he hE (by omega) (by omega)) (fun rq3191 mq3191 nq3191 hq3191 => ?_)
    obtain ⟨rfl, hTq3191, hFq3191, hq3191⟩ := hq3191
    have hF3193 := hF.tr hFq3191 wAt_wBo256
    refine y_istore 17 c69_16 rfl rfl ?_
    refine y_iconst 18 c69_17 rfl ?_
    refine y_istore 19 c69_18 rfl rfl ?_
    have tb3194 := hTq3191.atp 2 2 0 320 rfl
    have es3195 : mq3191 256 16 = m 256 16 := (hFq3191 256 16 rfl)
    have tb3196 := hT.atp 256 16 0 40 rfl
    have es3197 : mq3191 256 12 = m 256 12 := (hFq3191 256 12 rfl)
    have tb3198 := hT.atp 256 12 0 12 rfl
    have es3199 : mq3191 256 13 = m 256 13 := (hFq3191 256 13 rfl)
    have tb3200 := hT.atp 256 13 0 8 rfl
    exact t69a_256 hT he hE ha hp hm hdep hB 41 rq3191 0 _ _ (by omega) (by omega) (by omega) hTq3191 hF3193 (by omega) (fun z hz => (hFq3191 265 z rfl)) (fun _ => ⟨RG.nil (by omega) (by omega), EN.nil (by omega)⟩)
  · exfalso; omega
set_option maxRecDepth 100000 in
theorem t69z_256 {L : Nat} {xs : Nat → Int32} {d nn : Nat} {m : yM} {e : Int} (hT : Ty gT m) (he : 0 ≤ e ∧ e ≤ 320) (hE : m 5 e.toNat = 0) (ha : m 2 2 ≤ e) (hp : m 2 1 = 0) (hm : 1 ≤ m 256 10) : YC (gZ L xs) (d + 4) 69 [.ref 2, yI 4] m nn (qI (fun r m' n' => n' = nn ∧ Ty gT m' ∧ Fr (wBo256 (m 256 16).toNat) m m' ∧ ((r = 0 ∨ r = 1) ∧ m' 2 2 ≤ e ∧ m 256 16 ≤ m' 256 16 ∧ m 256 12 ≤ m' 256 12 ∧ m 256 13 ≤ m' 256 13) ∧ (∀ z : Nat, (z : Int) < m 256 13 → m' 265 z = m 265 z) ∧ (r = 1 → RG 276 265 m' (m 256 16) (m' 256 16) (m 256 12) (m' 256 12) (m 256 13) (m' 256 13) ∧ EN 276 m' (m 256 16) (m' 256 16) (m' 256 16)))) := by
  have tb2 := hT.atp 2 2 0 320 rfl
  have tb12 := hT.atp 256 12 0 12 rfl
  have tb13 := hT.atp 256 13 0 8 rfl
  have tb16 := hT.atp 256 16 0 40 rfl
  refine YC.mkB [some (.ref 2), some (yI 4), none, none, none] kn69 rfl rfl ?_
  have hF : Fr (wBo256 (m 256 16).toNat) m m := Fr.rf
  refine y_iload 1 c69_0 rfl rfl ?_
  refine y_iconst 2 c69_1 rfl ?_
  refine y_icmp 10 5 c69_2 rfl rfl (yc_le (by omega) (by omega)) (fun hb3201 => ?_) (fun hb3201 => ?_)
  · exfalso; omega
  · refine y_aload 6 c69_5 rfl rfl rfl ?_
    have tb3203 := hT.atp 2 2 0 320 rfl
    refine y_callIB 9 [.ref 2] [] c69_6 rfl rfl rfl rfl rfl (ycanO km43 ko2) (t43 hT) (fun rq3202 mq3202 nq3202 hq3202 => ?_)
    obtain ⟨rfl, hTq3202, hFq3202, hq3202⟩ := hq3202
    have hF3204 := hF.tr hFq3202 wFa_wBo256
    have es3205 : mq3202 2 2 = m 2 2 := (hFq3202 2 2 rfl)
    have es3206 : mq3202 256 16 = m 256 16 := (hFq3202 256 16 rfl)
    have tb3207 := hT.atp 256 16 0 40 rfl
    have es3208 : mq3202 256 12 = m 256 12 := (hFq3202 256 12 rfl)
    have tb3209 := hT.atp 256 12 0 12 rfl
    have es3210 : mq3202 256 13 = m 256 13 := (hFq3202 256 13 rfl)
    have tb3211 := hT.atp 256 13 0 8 rfl
    exact y_retI c69_9 (y_fit1 (by omega)) ⟨rfl, hTq3202, hF3204, by omega, fun z hz => (hFq3202 265 z rfl), fun h1 => by omega⟩
theorem t69_256 {L : Nat} {xs : Nat → Int32} {d nn : Nat} {m : yM} {e : Int} (hT : Ty gT m) (he : 0 ≤ e ∧ e ≤ 320) (hE : m 5 e.toNat = 0) (ha : m 2 2 ≤ e) (hp : m 2 1 = 0) (hm : 1 ≤ m 256 10) : YC (gZ L xs) (d + 12) 69 [.ref 2, yI 0] m nn (qI (fun r m' n' => n' = nn ∧ Ty gT m' ∧ Fr (wBo256 (m 256 16).toNat) m m' ∧ ((r = 0 ∨ r = 1) ∧ m' 2 2 ≤ e ∧ m 256 16 ≤ m' 256 16 ∧ m 256 12 ≤ m' 256 12 ∧ m 256 13 ≤ m' 256 13) ∧ (∀ z : Nat, (z : Int) < m 256 13 → m' 265 z = m 265 z) ∧ (r = 1 → RG 276 265 m' (m 256 16) (m' 256 16) (m 256 12) (m' 256 12) (m 256 13) (m' 256 13) ∧ EN 276 m' (m 256 16) (m' 256 16) (m' 256 16)))) :=
  have b4 : BS256 L xs (d + 4) (3 + 1) e := fun nn m h1 h2 h3 h4 h5 => t69z_256 (d := d) h1 he h2 h3 h4 h5
  have b3 : BS256 L xs (d + 6) (2 + 1) e := fun nn m h1 h2 h3 h4 h5 => t69s_256 (d := d + 0) (dep := 3) h1 he h2 h3 h4 h5 (by omega) b4
  have b2 : BS256 L xs (d + 8) (1 + 1) e := fun nn m h1 h2 h3 h4 h5 => t69s_256 (d := d + 2) (dep := 2) h1 he h2 h3 h4 h5 (by omega) b3
  have b1 : BS256 L xs (d + 10) (0 + 1) e := fun nn m h1 h2 h3 h4 h5 => t69s_256 (d := d + 4) (dep := 1) h1 he h2 h3 h4 h5 (by omega) b2
  t69s_256 (d := d + 6) (dep := 0) hT he hE ha hp hm (by omega) b1
end
section
/-! CONTRACTS: bodies. Printed by wip/whole/gen89.py -/
def wAs0316 (a q : Nat) : Bool := (a == 316 && q == 16)
def wAs316 (k a q : Nat) : Bool := ((a == 316 && q == 16)) || a == 336 + k
theorem wAs316_lt {k a q : Nat} (h : a < 336) : wAs316 k a q = wAs0316 a q := by
  have e : (a == 336 + k) = false := by simp; omega
  simp only [wAs316, wAs0316, e, Bool.or_false]
theorem wAs316_s {k j q : Nat} (h : j = k) : wAs316 k (336 + j) q = true := by
  simp [wAs316, h]
theorem wAs316_n {k j q : Nat} (h : j ≠ k) : wAs316 k (336 + j) q = false := by
  cases e : wAs316 k (336 + j) q with
  | false => rfl
  | true => simp [wAs316] at e <;> omega
theorem wAs316_wBo316 {k c : Nat} (hk : c ≤ k ∧ k < 40) : ∀ a q, wAs316 k a q = true → wBo316 c a q = true := by
  intro a q h
  simp [wAs316] at h
  simp [wBo316]
  omega
theorem t56f_316 {L : Nat} {xs : Nat → Int32} {d nn : Nat} {m : yM} (hT : Ty gT m) (hm : 1 ≤ m 316 10) (hs : m 316 16 ≤ 39) : YC (gZ L xs) d 56 [.ref 316] m nn (qA (fun R m' n' => n' = nn ∧ R = (336 + (m 316 16).toNat) ∧ Ty gT m' ∧ Fr (wAs316 (m 316 16).toNat) m m' ∧ m' 316 16 = m 316 16 + 1 ∧ m' (336 + (m 316 16).toNat) 8 = 0)) := by
  have t10 := hT.atp 316 10 0 10 rfl
  have t16 := hT.atp 316 16 0 40 rfl
  refine YC.mono (t56_316 hT hm hs) (fun o m' n' h => ?_)
  obtain ⟨R, rfl, rfl, rfl, rfl⟩ := h
  have h1 := hT.up (336 + (m 316 16).toNat) 1 (m 316 10 - 1) 0 9 (ft336_1 (by omega)) (by omega)
  have h2 := h1.up (336 + (m 316 16).toNat) 2 (-1) (-1) 47 (ft336_2 (by omega)) (by omega)
  have h3 := h2.up (336 + (m 316 16).toNat) 8 0 0 2 (ft336_8 (by omega)) (by omega)
  have h4 := h3.up 316 16 (m 316 16 + 1) 0 40 rfl (by omega)
  refine ⟨_, rfl, rfl, rfl, h4, ((((Fr.rf.up _ _ _ (wAs316_s rfl)).up _ _ _ (wAs316_s rfl)).up _ _ _ (wAs316_s rfl)).up _ _ _ ?_), yup_eq _ _ _ _, ?_⟩
  · simp [wAs316]
  · rw [yup_na (by omega), yup_eq]
set_option maxRecDepth 100000 in
set_option maxHeartbeats 1000000 in
theorem t69i_316 {L : Nat} {xs : Nat → Int32} {d nn : Nat} {m : yM} {e : Int} (hT : Ty gT m) (he : 0 ≤ e ∧ e ≤ 320) (hE : m 5 e.toNat = 0) (ha : m 2 2 ≤ e) (hp : m 2 1 = 1) {k : Int} (hk : 0 ≤ k ∧ k ≤ 39) (hm : 1 ≤ m 316 10) (h16 : m 316 16 = k + 1) (h8 : m (336 + k.toNat) 8 = 0) {dep i : Int} {x2 : Option Value} {Q : xO → yM → Nat → Prop} (hlt : m 2 2 < e) (hdep : 0 ≤ dep ∧ dep ≤ 3) (hB : BS316 L xs (d + 4) (dep + 1) e) (ho : ∀ (g : Int) (m4 : yM), (g = 0 ∨ g = 1) → Ty gT m4 → Fr (wBo316 k.toNat) m m4 → (m4 2 2 ≤ e ∧ k + 1 ≤ m4 316 16 ∧ m 316 12 ≤ m4 316 12 ∧ m 316 13 ≤ m4 316 13) → (∀ z : Nat, (z : Int) < m 316 13 → m4 325 z = m 325 z) → (g = 1 → RG 336 325 m4 k (m4 316 16) (m 316 12) (m4 316 12) (m 316 13) (m4 316 13) ∧ EN 336 m4 (k + 1) (m4 316 16) (m4 316 16) ∧ ((m4 (336 + k.toNat) 0 = 0 ∨ m4 (336 + k.toNat) 0 = 1) → m4 (336 + k.toNat) 11 ≤ m4 316 16)) → YW (gZ L xs) 69 (d + 6) 162 [some (.ref 2), some (yI dep), some (yI g), some (yI i), some (.ref (336 + k.toNat))] [] m4 nn Q) : YW (gZ L xs) 69 (d + 6) 100 [some (.ref 2), some (yI dep), x2, some (yI i), some (.ref (336 + k.toNat))] [] m nn Q := by
  have tb2 := hT.atp 2 2 0 320 rfl
  have tb12 := hT.atp 316 12 0 12 rfl
  have tb13 := hT.atp 316 13 0 8 rfl
  have hF : Fr (wBo316 k.toNat) m m := Fr.rf
  refine y_aload 101 c69_100 rfl rfl rfl ?_
  refine y_aload 103 c69_101 rfl rfl rfl ?_
  refine y_iload 104 c69_103 rfl rfl ?_
  have tb3364 := hT.atp 2 2 0 320 rfl
  have tb3365 := hT.atp 2 1 ((-1)) 1 rfl
  have tb3366 := hT.atp 316 10 0 10 rfl
  have tb3367 := hT.atp 316 12 0 12 rfl
  have tb3368 := hT.atp 316 13 0 8 rfl
  have tb3369 := hT.atp 316 16 0 40 rfl
  refine y_callIB 107 [.ref 2, .ref (336 + k.toNat), yI dep] [] c69_104 rfl rfl rfl rfl rfl (ycanO km59 ko2) (t59_316 hT he hE ha hp hk hm h16 hlt hdep hB) (fun rq3363 mq3363 nq3363 hq3363 => ?_)
  obtain ⟨rfl, hTq3363, hFq3363, hq3363, hZq3363, hGq3363⟩ := hq3363
  have hF3370 := hF.tr hFq3363 (wBo316_mono (by omega))
  refine y_istore 108 c69_107 rfl rfl ?_
  refine y_goto 162 c69_108 rfl ?_
  have tb3371 := hTq3363.atp 2 2 0 320 rfl
  have tb3372 := hTq3363.atp 316 16 0 40 rfl
  have tb3373 := hTq3363.atp 316 12 0 12 rfl
  have tb3374 := hTq3363.atp 316 13 0 8 rfl
  have tb3375 := hTq3363.atp (336 + k.toNat) 0 0 9 (ft336_0 (by omega))
  have tb3376 := hTq3363.atp (336 + k.toNat) 2 ((-1)) 47 (ft336_2 (by omega))
  have tb3377 := hTq3363.atp (336 + k.toNat) 3 ((-1)) 47 (ft336_3 (by omega))
  have tb3378 := hTq3363.atp (336 + k.toNat) 6 ((-1)) 11 (ft336_6 (by omega))
  have tb3379 := hTq3363.atp (336 + k.toNat) 8 0 2 (ft336_8 (by omega))
  have tb3380 := hTq3363.atp (336 + k.toNat) 9 ((-1)) 47 (ft336_9 (by omega))
  have tb3381 := hTq3363.atp (336 + k.toNat) 10 ((-1)) 47 (ft336_10 (by omega))
  have tb3382 := hTq3363.atp (336 + k.toNat) 11 0 40 (ft336_11 (by omega))
  refine ho rq3363 _ (by omega) hTq3363 hF3370 (by omega) (fun z hz => (hZq3363 z (by omega))) (fun h1 => ?_)
  have hsv : SV 336 mq3363 k.toNat := by
    unfold SV
    omega
  obtain ⟨g3, n3⟩ := hGq3363 (by omega)
  have g2 := RG.one (K := 325) (c1 := m 316 12) (c2 := m 316 12) (d1 := m 316 13) (d2 := m 316 13) hsv (by omega) (by omega)
  have g4 := RG.app (a := k) (b := k + 1) (c := mq3363 316 16) (c1 := m 316 12) (c2 := m 316 12) (c3 := mq3363 316 12) (d1 := m 316 13) (d2 := m 316 13) (d3 := mq3363 316 13) (cast (by congr 1 <;> omega) g2) g3 (by omega) (by omega) (by omega)
  exact ⟨g4, n3, by omega⟩
set_option maxRecDepth 100000 in
set_option maxHeartbeats 1000000 in
theorem t69j_316 {L : Nat} {xs : Nat → Int32} {d nn : Nat} {m : yM} {e : Int} (hT : Ty gT m) (he : 0 ≤ e ∧ e ≤ 320) (hE : m 5 e.toNat = 0) (ha : m 2 2 ≤ e) (hp : m 2 1 = 1) {k : Int} (hk : 0 ≤ k ∧ k ≤ 39) (hm : 1 ≤ m 316 10) (h16 : m 316 16 = k + 1) (h8 : m (336 + k.toNat) 8 = 0) {dep i : Int} {x2 : Option Value} {Q : xO → yM → Nat → Prop} (hlt : m 2 2 < e) (ho : ∀ (g : Int) (m4 : yM), (g = 0 ∨ g = 1) → Ty gT m4 → Fr (wBo316 k.toNat) m m4 → (m4 2 2 ≤ e ∧ k + 1 ≤ m4 316 16 ∧ m 316 12 ≤ m4 316 12 ∧ m 316 13 ≤ m4 316 13) → (∀ z : Nat, (z : Int) < m 316 13 → m4 325 z = m 325 z) → (g = 1 → RG 336 325 m4 k (m4 316 16) (m 316 12) (m4 316 12) (m 316 13) (m4 316 13) ∧ EN 336 m4 (k + 1) (m4 316 16) (m4 316 16) ∧ ((m4 (336 + k.toNat) 0 = 0 ∨ m4 (336 + k.toNat) 0 = 1) → m4 (336 + k.toNat) 11 ≤ m4 316 16)) → YW (gZ L xs) 69 (d + 6) 162 [some (.ref 2), some (yI dep), some (yI g), some (yI i), some (.ref (336 + k.toNat))] [] m4 nn Q) : YW (gZ L xs) 69 (d + 6) 111 [some (.ref 2), some (yI dep), x2, some (yI i), some (.ref (336 + k.toNat))] [] m nn Q := by
  have tb2 := hT.atp 2 2 0 320 rfl
  have tb12 := hT.atp 316 12 0 12 rfl
  have tb13 := hT.atp 316 13 0 8 rfl
  have hF : Fr (wBo316 k.toNat) m m := Fr.rf
  refine y_aload 112 c69_111 rfl rfl rfl ?_
  refine y_aload 114 c69_112 rfl rfl rfl ?_
  have tb3384 := hT.atp 2 2 0 320 rfl
  have tb3385 := hT.atp 2 1 ((-1)) 1 rfl
  have tb3386 := hT.atp 316 10 0 10 rfl
  have tb3387 := hT.atp 316 12 0 12 rfl
  have tb3388 := hT.atp 316 13 0 8 rfl
  have tb3389 := hT.atp 316 16 0 40 rfl
  refine y_callIB 117 [.ref 2, .ref (336 + k.toNat)] [] c69_114 rfl rfl rfl rfl rfl (ycanO km60 ko2) (t60_316 hT he hE ha hp hk hm hlt) (fun rq3383 mq3383 nq3383 hq3383 => ?_)
  obtain ⟨rfl, hTq3383, hFq3383, hq3383⟩ := hq3383
  have hF3390 := hF.tr hFq3383 (wSv316_wBo316 (by omega))
  refine y_if 133 120 c69_117 rfl rfl (yz_eq (by omega)) (fun hb3391 => ?_) (fun hb3391 => ?_)
  · refine y_iconst 134 c69_133 rfl ?_
    refine y_istore 135 c69_134 rfl rfl ?_
    refine y_goto 162 c69_135 rfl ?_
    have tb3392 := hTq3383.atp 2 2 0 320 rfl
    have es3393 : mq3383 316 16 = m 316 16 := (hFq3383 316 16 ((wSv316_lt (by decide)).trans rfl))
    have es3394 : mq3383 316 12 = m 316 12 := (hFq3383 316 12 ((wSv316_lt (by decide)).trans rfl))
    have es3395 : mq3383 316 13 = m 316 13 := (hFq3383 316 13 ((wSv316_lt (by decide)).trans rfl))
    have tb3396 := hTq3383.atp (336 + k.toNat) 0 0 9 (ft336_0 (by omega))
    have tb3397 := hTq3383.atp (336 + k.toNat) 2 ((-1)) 47 (ft336_2 (by omega))
    have tb3398 := hTq3383.atp (336 + k.toNat) 3 ((-1)) 47 (ft336_3 (by omega))
    have tb3399 := hTq3383.atp (336 + k.toNat) 6 ((-1)) 11 (ft336_6 (by omega))
    have tb3400 := hTq3383.atp (336 + k.toNat) 8 0 2 (ft336_8 (by omega))
    have tb3401 := hTq3383.atp (336 + k.toNat) 9 ((-1)) 47 (ft336_9 (by omega))
    have tb3402 := hTq3383.atp (336 + k.toNat) 10 ((-1)) 47 (ft336_10 (by omega))
    have tb3403 := hTq3383.atp (336 + k.toNat) 11 0 40 (ft336_11 (by omega))
    refine ho 0 _ (by omega) hTq3383 hF3390 (by omega) (fun z hz => (hFq3383 325 z ((wSv316_lt (by decide)).trans rfl))) (fun h1 => ?_)
    omega
  · refine y_aload 121 c69_120 rfl rfl rfl ?_
    refine y_iconst 123 c69_121 rfl ?_
    have tb3405 := hTq3383.atp 2 2 0 320 rfl
    refine y_callIB 126 [.ref 2, yI 59] [] c69_123 rfl rfl rfl rfl rfl (ycanO km37 ko2) (t37 hTq3383 he (by have e1 : mq3383 5 e.toNat = m 5 e.toNat := (hFq3383 5 e.toNat ((wSv316_lt (by decide)).trans rfl)); omega) (by omega) (by omega)) (fun rq3404 mq3404 nq3404 hq3404 => ?_)
    obtain ⟨rfl, hTq3404, hFq3404, hq3404⟩ := hq3404
    have hF3406 := hF3390.tr hFq3404 wAt_wBo316
    refine y_if 133 129 c69_126 rfl rfl (yz_eq (by omega)) (fun hb3407 => ?_) (fun hb3407 => ?_)
    · refine y_iconst 134 c69_133 rfl ?_
      refine y_istore 135 c69_134 rfl rfl ?_
      refine y_goto 162 c69_135 rfl ?_
      have tb3408 := hTq3404.atp 2 2 0 320 rfl
      have es3409 : mq3404 316 16 = m 316 16 := ((hFq3404 316 16 rfl).trans (hFq3383 316 16 ((wSv316_lt (by decide)).trans rfl)))
      have es3410 : mq3404 316 12 = m 316 12 := ((hFq3404 316 12 rfl).trans (hFq3383 316 12 ((wSv316_lt (by decide)).trans rfl)))
      have es3411 : mq3404 316 13 = m 316 13 := ((hFq3404 316 13 rfl).trans (hFq3383 316 13 ((wSv316_lt (by decide)).trans rfl)))
      have es3412 : mq3404 (336 + k.toNat) 0 = mq3383 (336 + k.toNat) 0 := (hFq3404 (336 + k.toNat) 0 wAt_n336)
      have tb3413 := hTq3383.atp (336 + k.toNat) 0 0 9 (ft336_0 (by omega))
      have es3414 : mq3404 (336 + k.toNat) 2 = mq3383 (336 + k.toNat) 2 := (hFq3404 (336 + k.toNat) 2 wAt_n336)
      have tb3415 := hTq3383.atp (336 + k.toNat) 2 ((-1)) 47 (ft336_2 (by omega))
      have es3416 : mq3404 (336 + k.toNat) 3 = mq3383 (336 + k.toNat) 3 := (hFq3404 (336 + k.toNat) 3 wAt_n336)
      have tb3417 := hTq3383.atp (336 + k.toNat) 3 ((-1)) 47 (ft336_3 (by omega))
      have es3418 : mq3404 (336 + k.toNat) 6 = mq3383 (336 + k.toNat) 6 := (hFq3404 (336 + k.toNat) 6 wAt_n336)
      have tb3419 := hTq3383.atp (336 + k.toNat) 6 ((-1)) 11 (ft336_6 (by omega))
      have es3420 : mq3404 (336 + k.toNat) 8 = mq3383 (336 + k.toNat) 8 := (hFq3404 (336 + k.toNat) 8 wAt_n336)
      have tb3421 := hTq3383.atp (336 + k.toNat) 8 0 2 (ft336_8 (by omega))
      have es3422 : mq3404 (336 + k.toNat) 9 = mq3383 (336 + k.toNat) 9 := (hFq3404 (336 + k.toNat) 9 wAt_n336)
      have tb3423 := hTq3383.atp (336 + k.toNat) 9 ((-1)) 47 (ft336_9 (by omega))
      have es3424 : mq3404 (336 + k.toNat) 10 = mq3383 (336 + k.toNat) 10 := (hFq3404 (336 + k.toNat) 10 wAt_n336)
      have tb3425 := hTq3383.atp (336 + k.toNat) 10 ((-1)) 47 (ft336_10 (by omega))
      have es3426 : mq3404 (336 + k.toNat) 11 = mq3383 (336 + k.toNat) 11 := (hFq3404 (336 + k.toNat) 11 wAt_n336)
      have tb3427 := hTq3383.atp (336 + k.toNat) 11 0 40 (ft336_11 (by omega))
      refine ho 0 _ (by omega) hTq3404 hF3406 (by omega) (fun z hz => ((hFq3404 325 z rfl).trans (hFq3383 325 z ((wSv316_lt (by decide)).trans rfl)))) (fun h1 => ?_)
      omega
    · refine y_iconst 130 c69_129 rfl ?_
      refine y_goto 134 c69_130 rfl ?_
      refine y_istore 135 c69_134 rfl rfl ?_
      refine y_goto 162 c69_135 rfl ?_
      have tb3428 := hTq3404.atp 2 2 0 320 rfl
      have es3429 : mq3404 316 16 = m 316 16 := ((hFq3404 316 16 rfl).trans (hFq3383 316 16 ((wSv316_lt (by decide)).trans rfl)))
      have es3430 : mq3404 316 12 = m 316 12 := ((hFq3404 316 12 rfl).trans (hFq3383 316 12 ((wSv316_lt (by decide)).trans rfl)))
      have es3431 : mq3404 316 13 = m 316 13 := ((hFq3404 316 13 rfl).trans (hFq3383 316 13 ((wSv316_lt (by decide)).trans rfl)))
      have es3432 : mq3404 (336 + k.toNat) 0 = mq3383 (336 + k.toNat) 0 := (hFq3404 (336 + k.toNat) 0 wAt_n336)
      have tb3433 := hTq3383.atp (336 + k.toNat) 0 0 9 (ft336_0 (by omega))
      have es3434 : mq3404 (336 + k.toNat) 2 = mq3383 (336 + k.toNat) 2 := (hFq3404 (336 + k.toNat) 2 wAt_n336)
      have tb3435 := hTq3383.atp (336 + k.toNat) 2 ((-1)) 47 (ft336_2 (by omega))
      have es3436 : mq3404 (336 + k.toNat) 3 = mq3383 (336 + k.toNat) 3 := (hFq3404 (336 + k.toNat) 3 wAt_n336)
      have tb3437 := hTq3383.atp (336 + k.toNat) 3 ((-1)) 47 (ft336_3 (by omega))
      have es3438 : mq3404 (336 + k.toNat) 6 = mq3383 (336 + k.toNat) 6 := (hFq3404 (336 + k.toNat) 6 wAt_n336)
      have tb3439 := hTq3383.atp (336 + k.toNat) 6 ((-1)) 11 (ft336_6 (by omega))
      have es3440 : mq3404 (336 + k.toNat) 8 = mq3383 (336 + k.toNat) 8 := (hFq3404 (336 + k.toNat) 8 wAt_n336)
      have tb3441 := hTq3383.atp (336 + k.toNat) 8 0 2 (ft336_8 (by omega))
      have es3442 : mq3404 (336 + k.toNat) 9 = mq3383 (336 + k.toNat) 9 := (hFq3404 (336 + k.toNat) 9 wAt_n336)
      have tb3443 := hTq3383.atp (336 + k.toNat) 9 ((-1)) 47 (ft336_9 (by omega))
      have es3444 : mq3404 (336 + k.toNat) 10 = mq3383 (336 + k.toNat) 10 := (hFq3404 (336 + k.toNat) 10 wAt_n336)
      have tb3445 := hTq3383.atp (336 + k.toNat) 10 ((-1)) 47 (ft336_10 (by omega))
      have es3446 : mq3404 (336 + k.toNat) 11 = mq3383 (336 + k.toNat) 11 := (hFq3404 (336 + k.toNat) 11 wAt_n336)
      have tb3447 := hTq3383.atp (336 + k.toNat) 11 0 40 (ft336_11 (by omega))
      refine ho 1 _ (by omega) hTq3404 hF3406 (by omega) (fun z hz => ((hFq3404 325 z rfl).trans (hFq3383 325 z ((wSv316_lt (by decide)).trans rfl)))) (fun h1 => ?_)
      have hsv : SV 336 mq3404 k.toNat := by
        unfold SV
        omega
      have g2 := RG.one (K := 325) (c1 := m 316 12) (c2 := mq3404 316 12) (d1 := m 316 13) (d2 := mq3404 316 13) hsv (by omega) (by omega)
      exact ⟨cast (by congr 1 <;> omega) g2, EN.nil (by omega), by omega⟩
set_option maxRecDepth 100000 in
set_option maxHeartbeats 1000000 in
theorem t69k_316 {L : Nat} {xs : Nat → Int32} {d nn : Nat} {m : yM} {e : Int} (hT : Ty gT m) (he : 0 ≤ e ∧ e ≤ 320) (hE : m 5 e.toNat = 0) (ha : m 2 2 ≤ e) (hp : m 2 1 = 1) {k : Int} (hk : 0 ≤ k ∧ k ≤ 39) (hm : 1 ≤ m 316 10) (h16 : m 316 16 = k + 1) (h8 : m (336 + k.toNat) 8 = 0) {dep i : Int} {x2 : Option Value} {Q : xO → yM → Nat → Prop} (ho : ∀ (g : Int) (m4 : yM), (g = 0 ∨ g = 1) → Ty gT m4 → Fr (wBo316 k.toNat) m m4 → (m4 2 2 ≤ e ∧ k + 1 ≤ m4 316 16 ∧ m 316 12 ≤ m4 316 12 ∧ m 316 13 ≤ m4 316 13) → (∀ z : Nat, (z : Int) < m 316 13 → m4 325 z = m 325 z) → (g = 1 → RG 336 325 m4 k (m4 316 16) (m 316 12) (m4 316 12) (m 316 13) (m4 316 13) ∧ EN 336 m4 (k + 1) (m4 316 16) (m4 316 16) ∧ ((m4 (336 + k.toNat) 0 = 0 ∨ m4 (336 + k.toNat) 0 = 1) → m4 (336 + k.toNat) 11 ≤ m4 316 16)) → YW (gZ L xs) 69 (d + 6) 162 [some (.ref 2), some (yI dep), some (yI g), some (yI i), some (.ref (336 + k.toNat))] [] m4 nn Q) : YW (gZ L xs) 69 (d + 6) 138 [some (.ref 2), some (yI dep), x2, some (yI i), some (.ref (336 + k.toNat))] [] m nn Q := by
  have tb2 := hT.atp 2 2 0 320 rfl
  have tb12 := hT.atp 316 12 0 12 rfl
  have tb13 := hT.atp 316 13 0 8 rfl
  have hF : Fr (wBo316 k.toNat) m m := Fr.rf
  refine y_aload 139 c69_138 rfl rfl rfl ?_
  refine y_aload 141 c69_139 rfl rfl rfl ?_
  have tb3449 := hT.atp 2 2 0 320 rfl
  have tb3450 := hT.atp 2 1 ((-1)) 1 rfl
  have tb3451 := hT.atp 316 10 0 10 rfl
  have tb3452 := hT.atp 316 12 0 12 rfl
  have tb3453 := hT.atp 316 13 0 8 rfl
  have tb3454 := hT.atp 316 16 0 40 rfl
  refine y_callIB 144 [.ref 2, .ref (336 + k.toNat)] [] c69_141 rfl rfl rfl rfl rfl (ycanO km68 ko2) (t68_316 hT he hE ha hp hk hm h16 h8) (fun rq3448 mq3448 nq3448 hq3448 => ?_)
  obtain ⟨rfl, hTq3448, hFq3448, hq3448, hZq3448⟩ := hq3448
  have hF3455 := hF.tr hFq3448 (wSs316_wBo316 (by omega))
  refine y_if 160 147 c69_144 rfl rfl (yz_eq (by omega)) (fun hb3456 => ?_) (fun hb3456 => ?_)
  · refine y_iconst 161 c69_160 rfl ?_
    refine y_istore 162 c69_161 rfl rfl ?_
    have tb3457 := hTq3448.atp 2 2 0 320 rfl
    have es3458 : mq3448 316 16 = m 316 16 := (hFq3448 316 16 ((wSs316_lt (by decide)).trans rfl))
    have tb3459 := hTq3448.atp 316 12 0 12 rfl
    have tb3460 := hTq3448.atp 316 13 0 8 rfl
    have tb3461 := hTq3448.atp (336 + k.toNat) 0 0 9 (ft336_0 (by omega))
    have tb3462 := hTq3448.atp (336 + k.toNat) 2 ((-1)) 47 (ft336_2 (by omega))
    have tb3463 := hTq3448.atp (336 + k.toNat) 3 ((-1)) 47 (ft336_3 (by omega))
    have tb3464 := hTq3448.atp (336 + k.toNat) 6 ((-1)) 11 (ft336_6 (by omega))
    have tb3465 := hTq3448.atp (336 + k.toNat) 8 0 2 (ft336_8 (by omega))
    have tb3466 := hTq3448.atp (336 + k.toNat) 9 ((-1)) 47 (ft336_9 (by omega))
    have tb3467 := hTq3448.atp (336 + k.toNat) 10 ((-1)) 47 (ft336_10 (by omega))
    have tb3468 := hTq3448.atp (336 + k.toNat) 11 0 40 (ft336_11 (by omega))
    refine ho 0 _ (by omega) hTq3448 hF3455 (by omega) (fun z hz => (hZq3448 z (by omega))) (fun h1 => ?_)
    omega
  · refine y_aload 148 c69_147 rfl rfl rfl ?_
    refine y_iconst 150 c69_148 rfl ?_
    have tb3470 := hTq3448.atp 2 2 0 320 rfl
    refine y_callIB 153 [.ref 2, yI 59] [] c69_150 rfl rfl rfl rfl rfl (ycanO km37 ko2) (t37 hTq3448 he (by have e1 : mq3448 5 e.toNat = m 5 e.toNat := (hFq3448 5 e.toNat ((wSs316_lt (by decide)).trans rfl)); omega) (by omega) (by omega)) (fun rq3469 mq3469 nq3469 hq3469 => ?_)
    obtain ⟨rfl, hTq3469, hFq3469, hq3469⟩ := hq3469
    have hF3471 := hF3455.tr hFq3469 wAt_wBo316
    refine y_if 160 156 c69_153 rfl rfl (yz_eq (by omega)) (fun hb3472 => ?_) (fun hb3472 => ?_)
    · refine y_iconst 161 c69_160 rfl ?_
      refine y_istore 162 c69_161 rfl rfl ?_
      have tb3473 := hTq3469.atp 2 2 0 320 rfl
      have es3474 : mq3469 316 16 = m 316 16 := ((hFq3469 316 16 rfl).trans (hFq3448 316 16 ((wSs316_lt (by decide)).trans rfl)))
      have es3475 : mq3469 316 12 = mq3448 316 12 := (hFq3469 316 12 rfl)
      have tb3476 := hTq3448.atp 316 12 0 12 rfl
      have es3477 : mq3469 316 13 = mq3448 316 13 := (hFq3469 316 13 rfl)
      have tb3478 := hTq3448.atp 316 13 0 8 rfl
      have es3479 : mq3469 (336 + k.toNat) 0 = mq3448 (336 + k.toNat) 0 := (hFq3469 (336 + k.toNat) 0 wAt_n336)
      have tb3480 := hTq3448.atp (336 + k.toNat) 0 0 9 (ft336_0 (by omega))
      have es3481 : mq3469 (336 + k.toNat) 2 = mq3448 (336 + k.toNat) 2 := (hFq3469 (336 + k.toNat) 2 wAt_n336)
      have tb3482 := hTq3448.atp (336 + k.toNat) 2 ((-1)) 47 (ft336_2 (by omega))
      have es3483 : mq3469 (336 + k.toNat) 3 = mq3448 (336 + k.toNat) 3 := (hFq3469 (336 + k.toNat) 3 wAt_n336)
      have tb3484 := hTq3448.atp (336 + k.toNat) 3 ((-1)) 47 (ft336_3 (by omega))
      have es3485 : mq3469 (336 + k.toNat) 6 = mq3448 (336 + k.toNat) 6 := (hFq3469 (336 + k.toNat) 6 wAt_n336)
      have tb3486 := hTq3448.atp (336 + k.toNat) 6 ((-1)) 11 (ft336_6 (by omega))
      have es3487 : mq3469 (336 + k.toNat) 8 = mq3448 (336 + k.toNat) 8 := (hFq3469 (336 + k.toNat) 8 wAt_n336)
      have tb3488 := hTq3448.atp (336 + k.toNat) 8 0 2 (ft336_8 (by omega))
      have es3489 : mq3469 (336 + k.toNat) 9 = mq3448 (336 + k.toNat) 9 := (hFq3469 (336 + k.toNat) 9 wAt_n336)
      have tb3490 := hTq3448.atp (336 + k.toNat) 9 ((-1)) 47 (ft336_9 (by omega))
      have es3491 : mq3469 (336 + k.toNat) 10 = mq3448 (336 + k.toNat) 10 := (hFq3469 (336 + k.toNat) 10 wAt_n336)
      have tb3492 := hTq3448.atp (336 + k.toNat) 10 ((-1)) 47 (ft336_10 (by omega))
      have es3493 : mq3469 (336 + k.toNat) 11 = mq3448 (336 + k.toNat) 11 := (hFq3469 (336 + k.toNat) 11 wAt_n336)
      have tb3494 := hTq3448.atp (336 + k.toNat) 11 0 40 (ft336_11 (by omega))
      refine ho 0 _ (by omega) hTq3469 hF3471 (by omega) (fun z hz => ((hFq3469 325 z rfl).trans (hZq3448 z (by omega)))) (fun h1 => ?_)
      omega
    · refine y_iconst 157 c69_156 rfl ?_
      refine y_goto 161 c69_157 rfl ?_
      refine y_istore 162 c69_161 rfl rfl ?_
      have tb3495 := hTq3469.atp 2 2 0 320 rfl
      have es3496 : mq3469 316 16 = m 316 16 := ((hFq3469 316 16 rfl).trans (hFq3448 316 16 ((wSs316_lt (by decide)).trans rfl)))
      have es3497 : mq3469 316 12 = mq3448 316 12 := (hFq3469 316 12 rfl)
      have tb3498 := hTq3448.atp 316 12 0 12 rfl
      have es3499 : mq3469 316 13 = mq3448 316 13 := (hFq3469 316 13 rfl)
      have tb3500 := hTq3448.atp 316 13 0 8 rfl
      have es3501 : mq3469 (336 + k.toNat) 0 = mq3448 (336 + k.toNat) 0 := (hFq3469 (336 + k.toNat) 0 wAt_n336)
      have tb3502 := hTq3448.atp (336 + k.toNat) 0 0 9 (ft336_0 (by omega))
      have es3503 : mq3469 (336 + k.toNat) 2 = mq3448 (336 + k.toNat) 2 := (hFq3469 (336 + k.toNat) 2 wAt_n336)
      have tb3504 := hTq3448.atp (336 + k.toNat) 2 ((-1)) 47 (ft336_2 (by omega))
      have es3505 : mq3469 (336 + k.toNat) 3 = mq3448 (336 + k.toNat) 3 := (hFq3469 (336 + k.toNat) 3 wAt_n336)
      have tb3506 := hTq3448.atp (336 + k.toNat) 3 ((-1)) 47 (ft336_3 (by omega))
      have es3507 : mq3469 (336 + k.toNat) 6 = mq3448 (336 + k.toNat) 6 := (hFq3469 (336 + k.toNat) 6 wAt_n336)
      have tb3508 := hTq3448.atp (336 + k.toNat) 6 ((-1)) 11 (ft336_6 (by omega))
      have es3509 : mq3469 (336 + k.toNat) 8 = mq3448 (336 + k.toNat) 8 := (hFq3469 (336 + k.toNat) 8 wAt_n336)
      have tb3510 := hTq3448.atp (336 + k.toNat) 8 0 2 (ft336_8 (by omega))
      have es3511 : mq3469 (336 + k.toNat) 9 = mq3448 (336 + k.toNat) 9 := (hFq3469 (336 + k.toNat) 9 wAt_n336)
      have tb3512 := hTq3448.atp (336 + k.toNat) 9 ((-1)) 47 (ft336_9 (by omega))
      have es3513 : mq3469 (336 + k.toNat) 10 = mq3448 (336 + k.toNat) 10 := (hFq3469 (336 + k.toNat) 10 wAt_n336)
      have tb3514 := hTq3448.atp (336 + k.toNat) 10 ((-1)) 47 (ft336_10 (by omega))
      have es3515 : mq3469 (336 + k.toNat) 11 = mq3448 (336 + k.toNat) 11 := (hFq3469 (336 + k.toNat) 11 wAt_n336)
      have tb3516 := hTq3448.atp (336 + k.toNat) 11 0 40 (ft336_11 (by omega))
      refine ho 1 _ (by omega) hTq3469 hF3471 (by omega) (fun z hz => ((hFq3469 325 z rfl).trans (hZq3448 z (by omega)))) (fun h1 => ?_)
      have hsv : SV 336 mq3469 k.toNat := by
        unfold SV
        omega
      have ek : mq3469 325 (m 316 13).toNat = mq3448 325 ((m 316 13).toNat) := (hFq3469 325 ((m 316 13).toNat) rfl)
      have g2 := RG.one (K := 325) (c1 := m 316 12) (c2 := mq3469 316 12) (d1 := m 316 13) (d2 := mq3469 316 13) hsv (by omega) (by omega)
      exact ⟨cast (by congr 1 <;> omega) g2, EN.nil (by omega), by omega⟩
set_option maxRecDepth 100000 in
set_option maxHeartbeats 2000000 in
theorem t69a_316 {L : Nat} {xs : Nat → Int32} {d nn : Nat} {m : yM} {e : Int} (hT : Ty gT m) (he : 0 ≤ e ∧ e ≤ 320) (hE : m 5 e.toNat = 0) (ha : m 2 2 ≤ e) (hp : m 2 1 = 1) (hm : 1 ≤ m 316 10) {dep : Int} (hdep : 0 ≤ dep ∧ dep ≤ 3) (hB : BS316 L xs (d + 4) (dep + 1) e) : ∀ (k : Nat) (g i : Int) (x4 : Option Value) (mi : yM), 41 - i = k → 0 ≤ i ∧ i ≤ 41 → g = 0 ∨ g = 1 → Ty gT mi → Fr (wBo316 (m 316 16).toNat) m mi → (mi 2 2 ≤ e ∧ m 316 16 ≤ mi 316 16 ∧ m 316 12 ≤ mi 316 12 ∧ m 316 13 ≤ mi 316 13) → (∀ z : Nat, (z : Int) < m 316 13 → mi 325 z = m 325 z) → (g = 1 → RG 336 325 mi (m 316 16) (mi 316 16) (m 316 12) (mi 316 12) (m 316 13) (mi 316 13) ∧ EN 336 mi (m 316 16) (mi 316 16) (mi 316 16)) → YW (gZ L xs) 69 (d + 6) 19 [some (.ref 2), some (yI dep), some (yI g), some (yI i), x4] [] mi nn (qI (fun r m' n' => n' = nn ∧ Ty gT m' ∧ Fr (wBo316 (m 316 16).toNat) m m' ∧ ((r = 0 ∨ r = 1) ∧ m' 2 2 ≤ e ∧ m 316 16 ≤ m' 316 16 ∧ m 316 12 ≤ m' 316 12 ∧ m 316 13 ≤ m' 316 13) ∧ (∀ z : Nat, (z : Int) < m 316 13 → m' 325 z = m 325 z) ∧ (r = 1 → RG 336 325 m' (m 316 16) (m' 316 16) (m 316 12) (m' 316 12) (m 316 13) (m' 316 13) ∧ EN 336 m' (m 316 16) (m' 316 16) (m' 316 16)))) := by
  intro k
  induction k using Nat.strongRecOn with
  | ind k ih =>
    intro g i x4 mi hk hi0 hg0 hTi hFi hcn hz hg
    have tm12 := hT.atp 316 12 0 12 rfl
    have ti12 := hTi.atp 316 12 0 12 rfl
    have tm13 := hT.atp 316 13 0 8 rfl
    have ti13 := hTi.atp 316 13 0 8 rfl
    have tm16 := hT.atp 316 16 0 40 rfl
    have ti16 := hTi.atp 316 16 0 40 rfl
    have ta := hTi.atp 2 2 0 320 rfl
    refine y_iload 20 c69_19 rfl rfl ?_
    refine y_iconst 22 c69_20 rfl ?_
    refine y_icmp 180 25 c69_22 rfl rfl (yc_gt (by omega) (by omega)) (fun hb3517 => ?_) (fun hb3517 => ?_)
    · refine y_iload 181 c69_180 rfl rfl ?_
      refine y_if 197 184 c69_181 rfl rfl (yz_eq (by omega)) (fun hb3518 => ?_) (fun hb3518 => ?_)
      · refine y_iconst 198 c69_197 rfl ?_
        refine y_retI c69_198 (y_fit1 (by omega)) ⟨rfl, hTi, hFi, by omega, fun z hz0 => (hz z hz0), fun h1 => ?_⟩
        omega
      · refine y_aload 185 c69_184 rfl rfl rfl ?_
        refine y_iconst 187 c69_185 rfl ?_
        refine y_callIB 190 [.ref 2, yI 125] [] c69_187 rfl rfl rfl rfl rfl (ycanO km37 ko2) (t37 hTi he (by have e1 : mi 5 e.toNat = m 5 e.toNat := (hFi 5 e.toNat ((wBo316_lt (by decide)).trans rfl)); omega) (by omega) (by omega)) (fun rq3519 mq3519 nq3519 hq3519 => ?_)
        obtain ⟨rfl, hTq3519, hFq3519, hq3519⟩ := hq3519
        have hF3520 := hFi.tr hFq3519 wAt_wBo316
        refine y_if 197 193 c69_190 rfl rfl (yz_eq (by omega)) (fun hb3521 => ?_) (fun hb3521 => ?_)
        · refine y_iconst 198 c69_197 rfl ?_
          have tb3522 := hTq3519.atp 2 2 0 320 rfl
          have es3523 : mq3519 316 16 = mi 316 16 := (hFq3519 316 16 rfl)
          have es3524 : mq3519 316 12 = mi 316 12 := (hFq3519 316 12 rfl)
          have es3525 : mq3519 316 13 = mi 316 13 := (hFq3519 316 13 rfl)
          refine y_retI c69_198 (y_fit1 (by omega)) ⟨rfl, hTq3519, hF3520, by omega, fun z hz0 => ((hFq3519 325 z rfl).trans (hz z hz0)), fun h1 => ?_⟩
          omega
        · refine y_iconst 194 c69_193 rfl ?_
          refine y_goto 198 c69_194 rfl ?_
          have tb3526 := hTq3519.atp 2 2 0 320 rfl
          have es3527 : mq3519 316 16 = mi 316 16 := (hFq3519 316 16 rfl)
          have es3528 : mq3519 316 12 = mi 316 12 := (hFq3519 316 12 rfl)
          have es3529 : mq3519 316 13 = mi 316 13 := (hFq3519 316 13 rfl)
          refine y_retI c69_198 (y_fit1 (by omega)) ⟨rfl, hTq3519, hF3520, by omega, fun z hz0 => ((hFq3519 325 z rfl).trans (hz z hz0)), fun h1 => ?_⟩
          obtain ⟨g0, n0⟩ := hg (by omega)
          have g1 := g0.fr (m' := mq3519) (c3 := mq3519 316 12) (fun j ja jb q _ => (hFq3519 _ _ wAt_n336)) (fun z za zb => (hFq3519 325 z rfl)) (by omega)
          have n1 := n0.fr (m' := mq3519) (c2 := mq3519 316 16) (fun j ja jb q => (hFq3519 _ _ wAt_n336)) (by omega)
          refine ⟨cast ?_ g1, cast ?_ n1⟩ <;> congr 1 <;> omega
    · refine y_iload 26 c69_25 rfl rfl ?_
      refine y_if 180 29 c69_26 rfl rfl (yz_eq (by omega)) (fun hb3530 => ?_) (fun hb3530 => ?_)
      · refine y_iload 181 c69_180 rfl rfl ?_
        refine y_if 197 184 c69_181 rfl rfl (yz_eq (by omega)) (fun hb3531 => ?_) (fun hb3531 => ?_)
        · refine y_iconst 198 c69_197 rfl ?_
          refine y_retI c69_198 (y_fit1 (by omega)) ⟨rfl, hTi, hFi, by omega, fun z hz0 => (hz z hz0), fun h1 => ?_⟩
          omega
        · exfalso; omega
      · refine y_aload 30 c69_29 rfl rfl rfl ?_
        refine y_callP 33 [.ref 2] [] c69_30 rfl rfl rfl rfl rfl (ycanO km38 ko2) (t38 hTi he (by have e1 : mi 5 e.toNat = m 5 e.toNat := (hFi 5 e.toNat ((wBo316_lt (by decide)).trans rfl)); omega) (by omega)) (fun r3532 hr3532 => ?_)
        refine y_iconst 35 c69_33 rfl ?_
        refine y_icmp 180 38 c69_35 rfl rfl (yc_eq (by omega) (by omega)) (fun hb3533 => ?_) (fun hb3533 => ?_)
        · refine y_iload 181 c69_180 rfl rfl ?_
          refine y_if 197 184 c69_181 rfl rfl (yz_eq (by omega)) (fun hb3534 => ?_) (fun hb3534 => ?_)
          · exfalso; omega
          · refine y_aload 185 c69_184 rfl rfl rfl ?_
            refine y_iconst 187 c69_185 rfl ?_
            refine y_callIB 190 [.ref 2, yI 125] [] c69_187 rfl rfl rfl rfl rfl (ycanO km37 ko2) (t37 hTi he (by have e1 : mi 5 e.toNat = m 5 e.toNat := (hFi 5 e.toNat ((wBo316_lt (by decide)).trans rfl)); omega) (by omega) (by omega)) (fun rq3535 mq3535 nq3535 hq3535 => ?_)
            obtain ⟨rfl, hTq3535, hFq3535, hq3535⟩ := hq3535
            have hF3536 := hFi.tr hFq3535 wAt_wBo316
            refine y_if 197 193 c69_190 rfl rfl (yz_eq (by omega)) (fun hb3537 => ?_) (fun hb3537 => ?_)
            · refine y_iconst 198 c69_197 rfl ?_
              have tb3538 := hTq3535.atp 2 2 0 320 rfl
              have es3539 : mq3535 316 16 = mi 316 16 := (hFq3535 316 16 rfl)
              have es3540 : mq3535 316 12 = mi 316 12 := (hFq3535 316 12 rfl)
              have es3541 : mq3535 316 13 = mi 316 13 := (hFq3535 316 13 rfl)
              refine y_retI c69_198 (y_fit1 (by omega)) ⟨rfl, hTq3535, hF3536, by omega, fun z hz0 => ((hFq3535 325 z rfl).trans (hz z hz0)), fun h1 => ?_⟩
              omega
            · refine y_iconst 194 c69_193 rfl ?_
              refine y_goto 198 c69_194 rfl ?_
              have tb3542 := hTq3535.atp 2 2 0 320 rfl
              have es3543 : mq3535 316 16 = mi 316 16 := (hFq3535 316 16 rfl)
              have es3544 : mq3535 316 12 = mi 316 12 := (hFq3535 316 12 rfl)
              have es3545 : mq3535 316 13 = mi 316 13 := (hFq3535 316 13 rfl)
              refine y_retI c69_198 (y_fit1 (by omega)) ⟨rfl, hTq3535, hF3536, by omega, fun z hz0 => ((hFq3535 325 z rfl).trans (hz z hz0)), fun h1 => ?_⟩
              obtain ⟨g0, n0⟩ := hg (by omega)
              have g1 := g0.fr (m' := mq3535) (c3 := mq3535 316 12) (fun j ja jb q _ => (hFq3535 _ _ wAt_n336)) (fun z za zb => (hFq3535 325 z rfl)) (by omega)
              have n1 := n0.fr (m' := mq3535) (c2 := mq3535 316 16) (fun j ja jb q => (hFq3535 _ _ wAt_n336)) (by omega)
              refine ⟨cast ?_ g1, cast ?_ n1⟩ <;> congr 1 <;> omega
        · refine y_aload 39 c69_38 rfl rfl rfl ?_
          refine y_getS 42 (B := 316) c69_39 rfl kf2_1 (by rw [show mi 2 1 = 1 from by have e : mi 2 1 = m 2 1 := (hFi 2 1 ((wBo316_lt (by decide)).trans rfl)); omega]; rfl) ?_
          refine y_getX 45 (mi 316 16) c69_42 rfl kf316_16 rfl ?_
          refine y_iconst 47 c69_45 rfl ?_
          refine y_icmp 55 50 c69_47 rfl rfl (yc_ne (by omega) (by omega)) (fun hb3546 => ?_) (fun hb3546 => ?_)
          · refine y_aload 56 c69_55 rfl rfl rfl ?_
            refine y_getS 59 (B := 316) c69_56 rfl kf2_1 (by rw [show mi 2 1 = 1 from by have e : mi 2 1 = m 2 1 := (hFi 2 1 ((wBo316_lt (by decide)).trans rfl)); omega]; rfl) ?_
            have es3548 : mi 316 10 = m 316 10 := (hFi 316 10 ((wBo316_lt (by decide)).trans rfl))
            have tb3549 := hT.atp 316 10 0 10 rfl
            refine y_callAB 62 [.ref 316] [] c69_59 rfl rfl rfl rfl rfl (ycanO km56 ko316) (t56f_316 hTi (by omega) (by omega)) (fun Rq3547 mq3547 nq3547 hq3547 => ?_)
            obtain ⟨rfl, rfl, hTq3547, hFq3547, hq3547, k8⟩ := hq3547
            have hF3550 := hFi.tr hFq3547 (wAs316_wBo316 (by omega))
            refine y_astore 64 c69_62 rfl rfl rfl ?_
            refine y_aload 65 c69_64 rfl rfl rfl ?_
            have es3551 : mq3547 2 2 = mi 2 2 := (hFq3547 2 2 ((wAs316_lt (by decide)).trans rfl))
            refine y_callP 68 [.ref 2] [] c69_65 rfl rfl rfl rfl rfl (ycanO km38 ko2) (t38 hTq3547 he (by have e1 : mq3547 5 e.toNat = m 5 e.toNat := ((hFq3547 5 e.toNat ((wAs316_lt (by decide)).trans rfl)).trans (hFi 5 e.toNat ((wBo316_lt (by decide)).trans rfl))); omega) (by omega)) (fun r3552 hr3552 => ?_)
            by_cases hk3553 : r3552 = 6
            · refine y_top 6 hk3553 ?_
              refine y_tsw 100 c69_68 (by decide) (by decide) rfl rfl ?_
              have es3554 : mq3547 2 2 = mi 2 2 := (hFq3547 2 2 ((wAs316_lt (by decide)).trans rfl))
              have es3555 : mq3547 2 1 = m 2 1 := ((hFq3547 2 1 ((wAs316_lt (by decide)).trans rfl)).trans (hFi 2 1 ((wBo316_lt (by decide)).trans rfl)))
              have tb3556 := hT.atp 2 1 ((-1)) 1 rfl
              have es3557 : mq3547 316 10 = m 316 10 := ((hFq3547 316 10 ((wAs316_lt (by decide)).trans rfl)).trans (hFi 316 10 ((wBo316_lt (by decide)).trans rfl)))
              have es3558 : mq3547 316 12 = mi 316 12 := (hFq3547 316 12 ((wAs316_lt (by decide)).trans rfl))
              have es3559 : mq3547 316 13 = mi 316 13 := (hFq3547 316 13 ((wAs316_lt (by decide)).trans rfl))
              have tb3560 := hTq3547.atp 316 16 0 40 rfl
              refine t69i_316 (k := mi 316 16) hTq3547 he (by have e1 : mq3547 5 e.toNat = m 5 e.toNat := ((hFq3547 5 e.toNat ((wAs316_lt (by decide)).trans rfl)).trans (hFi 5 e.toNat ((wBo316_lt (by decide)).trans rfl))); omega) (by omega) (by omega) (by omega) (by omega) (by omega) k8 (by omega) hdep hB (fun g4 m4 hg4 hT4 hF4 h4 hZ4 hS4 => ?_)
              have hF3561 := hF3550.tr hF4 (wBo316_mono (by omega))
              refine y_aload 164 c69_162 rfl rfl rfl ?_
              refine y_aload 165 c69_164 rfl rfl rfl ?_
              refine y_getS 168 (B := 316) c69_165 rfl kf2_1 (by rw [show m4 2 1 = 1 from by have e : m4 2 1 = m 2 1 := ((hF4 2 1 ((wBo316_lt (by decide)).trans rfl)).trans ((hFq3547 2 1 ((wAs316_lt (by decide)).trans rfl)).trans (hFi 2 1 ((wBo316_lt (by decide)).trans rfl)))); omega]; rfl) ?_
              refine y_getX 171 (m4 316 16) c69_168 rfl kf316_16 rfl ?_
              have tb3562 := hT4.atp 316 16 0 40 rfl
              refine y_putI 174 c69_171 rfl (ff336_12 (by omega)) (y_fit0 _) ?_
              have hT3563 := hT4.up (336 + (mi 316 16).toNat) 12 (m4 316 16) 0 40 (ft336_12 (by omega)) (by omega)
              have hF3564 := hF3561.up (336 + (mi 316 16).toNat) 12 (m4 316 16) (wBo316_s (by omega))
              refine y_iinc 177 c69_174 rfl rfl rfl ?_
              refine y_goto 19 c69_177 rfl ?_
              have es3565 : (yup m4 (336 + (mi 316 16).toNat) 12 (m4 316 16)) 2 2 = m4 2 2 := (yup_na (by omega))
              have tb3566 := hT4.atp 2 2 0 320 rfl
              have es3567 : (yup m4 (336 + (mi 316 16).toNat) 12 (m4 316 16)) 316 16 = m4 316 16 := (yup_na (by omega))
              have es3568 : (yup m4 (336 + (mi 316 16).toNat) 12 (m4 316 16)) 316 12 = m4 316 12 := (yup_na (by omega))
              have tb3569 := hT4.atp 316 12 0 12 rfl
              have es3570 : (yup m4 (336 + (mi 316 16).toNat) 12 (m4 316 16)) 316 13 = m4 316 13 := (yup_na (by omega))
              have tb3571 := hT4.atp 316 13 0 8 rfl
              refine ih (41 - (i + 1 : Int)).toNat (by omega) g4 (i + 1) _ _ (by omega) (by omega) (by omega) hT3563 hF3564 (by omega) (fun z hz0 => ((yup_na (by omega)).trans ((hZ4 z (by omega)).trans ((hFq3547 325 z ((wAs316_lt (by decide)).trans rfl)).trans (hz z hz0))))) (fun h1 => ?_)
              obtain ⟨g0, n0⟩ := hg (by omega)
              obtain ⟨p0, p1, p2⟩ := hS4 h1
              have g1 := g0.fr (m' := yup m4 (336 + (mi 316 16).toNat) 12 (m4 316 16)) (c3 := mi 316 12) (fun j ja jb q _ => ((yup_na (by omega)).trans ((hF4 _ _ (wBo316_n (by omega))).trans (hFq3547 _ _ (wAs316_n (by omega)))))) (fun z za zb => ((yup_na (by omega)).trans ((hZ4 z (by omega)).trans (hFq3547 325 z ((wAs316_lt (by decide)).trans rfl))))) (by omega)
              have g2 := p0.fr (m' := yup m4 (336 + (mi 316 16).toNat) 12 (m4 316 16)) (c3 := (yup m4 (336 + (mi 316 16).toNat) 12 (m4 316 16)) 316 12) (fun j ja jb q hq => yup_ne (fun e => hq e.2)) (fun z za zb => yup_na (by omega)) (by omega)
              have g3 := RG.app (b := mi 316 16) (c := (yup m4 (336 + (mi 316 16).toNat) 12 (m4 316 16)) 316 16) (c2 := mi 316 12) (c3 := (yup m4 (336 + (mi 316 16).toNat) 12 (m4 316 16)) 316 12) (d2 := mi 316 13) (d3 := (yup m4 (336 + (mi 316 16).toNat) 12 (m4 316 16)) 316 13) g1 (cast (by congr 1 <;> omega) g2) (by omega) (by omega) (by omega)
              have n1 := n0.fr (m' := yup m4 (336 + (mi 316 16).toNat) 12 (m4 316 16)) (c2 := (yup m4 (336 + (mi 316 16).toNat) 12 (m4 316 16)) 316 16) (fun j ja jb q => ((yup_na (by omega)).trans ((hF4 _ _ (wBo316_n (by omega))).trans (hFq3547 _ _ (wAs316_n (by omega)))))) (by omega)
              have n2 := p1.fr (m' := yup m4 (336 + (mi 316 16).toNat) 12 (m4 316 16)) (c2 := (yup m4 (336 + (mi 316 16).toNat) 12 (m4 316 16)) 316 16) (fun j ja jb q => yup_na (by omega)) (by omega)
              have n3 : EN 336 (yup m4 (336 + (mi 316 16).toNat) 12 (m4 316 16)) (mi 316 16) (mi 316 16 + 1) ((yup m4 (336 + (mi 316 16).toNat) 12 (m4 316 16)) 316 16) := EN.one (by omega) (by rw [yup_eq]; omega) (by rw [yup_nk (by decide), yup_nk (by decide)]; omega)
              exact ⟨g3, cast (by congr 1 <;> omega) (EN.app n1 (EN.app (b := mi 316 16 + 1) n3 n2))⟩
            by_cases hk3572 : r3552 = 7
            · refine y_top 7 hk3572 ?_
              refine y_tsw 138 c69_68 (by decide) (by decide) rfl rfl ?_
              have es3573 : mq3547 2 2 = mi 2 2 := (hFq3547 2 2 ((wAs316_lt (by decide)).trans rfl))
              have es3574 : mq3547 2 1 = m 2 1 := ((hFq3547 2 1 ((wAs316_lt (by decide)).trans rfl)).trans (hFi 2 1 ((wBo316_lt (by decide)).trans rfl)))
              have tb3575 := hT.atp 2 1 ((-1)) 1 rfl
              have es3576 : mq3547 316 10 = m 316 10 := ((hFq3547 316 10 ((wAs316_lt (by decide)).trans rfl)).trans (hFi 316 10 ((wBo316_lt (by decide)).trans rfl)))
              have es3577 : mq3547 316 12 = mi 316 12 := (hFq3547 316 12 ((wAs316_lt (by decide)).trans rfl))
              have es3578 : mq3547 316 13 = mi 316 13 := (hFq3547 316 13 ((wAs316_lt (by decide)).trans rfl))
              have tb3579 := hTq3547.atp 316 16 0 40 rfl
              refine t69k_316 (k := mi 316 16) hTq3547 he (by have e1 : mq3547 5 e.toNat = m 5 e.toNat := ((hFq3547 5 e.toNat ((wAs316_lt (by decide)).trans rfl)).trans (hFi 5 e.toNat ((wBo316_lt (by decide)).trans rfl))); omega) (by omega) (by omega) (by omega) (by omega) (by omega) k8 (fun g4 m4 hg4 hT4 hF4 h4 hZ4 hS4 => ?_)
              have hF3580 := hF3550.tr hF4 (wBo316_mono (by omega))
              refine y_aload 164 c69_162 rfl rfl rfl ?_
              refine y_aload 165 c69_164 rfl rfl rfl ?_
              refine y_getS 168 (B := 316) c69_165 rfl kf2_1 (by rw [show m4 2 1 = 1 from by have e : m4 2 1 = m 2 1 := ((hF4 2 1 ((wBo316_lt (by decide)).trans rfl)).trans ((hFq3547 2 1 ((wAs316_lt (by decide)).trans rfl)).trans (hFi 2 1 ((wBo316_lt (by decide)).trans rfl)))); omega]; rfl) ?_
              refine y_getX 171 (m4 316 16) c69_168 rfl kf316_16 rfl ?_
              have tb3581 := hT4.atp 316 16 0 40 rfl
              refine y_putI 174 c69_171 rfl (ff336_12 (by omega)) (y_fit0 _) ?_
              have hT3582 := hT4.up (336 + (mi 316 16).toNat) 12 (m4 316 16) 0 40 (ft336_12 (by omega)) (by omega)
              have hF3583 := hF3580.up (336 + (mi 316 16).toNat) 12 (m4 316 16) (wBo316_s (by omega))
              refine y_iinc 177 c69_174 rfl rfl rfl ?_
              refine y_goto 19 c69_177 rfl ?_
              have es3584 : (yup m4 (336 + (mi 316 16).toNat) 12 (m4 316 16)) 2 2 = m4 2 2 := (yup_na (by omega))
              have tb3585 := hT4.atp 2 2 0 320 rfl
              have es3586 : (yup m4 (336 + (mi 316 16).toNat) 12 (m4 316 16)) 316 16 = m4 316 16 := (yup_na (by omega))
              have es3587 : (yup m4 (336 + (mi 316 16).toNat) 12 (m4 316 16)) 316 12 = m4 316 12 := (yup_na (by omega))
              have tb3588 := hT4.atp 316 12 0 12 rfl
              have es3589 : (yup m4 (336 + (mi 316 16).toNat) 12 (m4 316 16)) 316 13 = m4 316 13 := (yup_na (by omega))
              have tb3590 := hT4.atp 316 13 0 8 rfl
              refine ih (41 - (i + 1 : Int)).toNat (by omega) g4 (i + 1) _ _ (by omega) (by omega) (by omega) hT3582 hF3583 (by omega) (fun z hz0 => ((yup_na (by omega)).trans ((hZ4 z (by omega)).trans ((hFq3547 325 z ((wAs316_lt (by decide)).trans rfl)).trans (hz z hz0))))) (fun h1 => ?_)
              obtain ⟨g0, n0⟩ := hg (by omega)
              obtain ⟨p0, p1, p2⟩ := hS4 h1
              have g1 := g0.fr (m' := yup m4 (336 + (mi 316 16).toNat) 12 (m4 316 16)) (c3 := mi 316 12) (fun j ja jb q _ => ((yup_na (by omega)).trans ((hF4 _ _ (wBo316_n (by omega))).trans (hFq3547 _ _ (wAs316_n (by omega)))))) (fun z za zb => ((yup_na (by omega)).trans ((hZ4 z (by omega)).trans (hFq3547 325 z ((wAs316_lt (by decide)).trans rfl))))) (by omega)
              have g2 := p0.fr (m' := yup m4 (336 + (mi 316 16).toNat) 12 (m4 316 16)) (c3 := (yup m4 (336 + (mi 316 16).toNat) 12 (m4 316 16)) 316 12) (fun j ja jb q hq => yup_ne (fun e => hq e.2)) (fun z za zb => yup_na (by omega)) (by omega)
              have g3 := RG.app (b := mi 316 16) (c := (yup m4 (336 + (mi 316 16).toNat) 12 (m4 316 16)) 316 16) (c2 := mi 316 12) (c3 := (yup m4 (336 + (mi 316 16).toNat) 12 (m4 316 16)) 316 12) (d2 := mi 316 13) (d3 := (yup m4 (336 + (mi 316 16).toNat) 12 (m4 316 16)) 316 13) g1 (cast (by congr 1 <;> omega) g2) (by omega) (by omega) (by omega)
              have n1 := n0.fr (m' := yup m4 (336 + (mi 316 16).toNat) 12 (m4 316 16)) (c2 := (yup m4 (336 + (mi 316 16).toNat) 12 (m4 316 16)) 316 16) (fun j ja jb q => ((yup_na (by omega)).trans ((hF4 _ _ (wBo316_n (by omega))).trans (hFq3547 _ _ (wAs316_n (by omega)))))) (by omega)
              have n2 := p1.fr (m' := yup m4 (336 + (mi 316 16).toNat) 12 (m4 316 16)) (c2 := (yup m4 (336 + (mi 316 16).toNat) 12 (m4 316 16)) 316 16) (fun j ja jb q => yup_na (by omega)) (by omega)
              have n3 : EN 336 (yup m4 (336 + (mi 316 16).toNat) 12 (m4 316 16)) (mi 316 16) (mi 316 16 + 1) ((yup m4 (336 + (mi 316 16).toNat) 12 (m4 316 16)) 316 16) := EN.one (by omega) (by rw [yup_eq]; omega) (by rw [yup_nk (by decide), yup_nk (by decide)]; omega)
              exact ⟨g3, cast (by congr 1 <;> omega) (EN.app n1 (EN.app (b := mi 316 16 + 1) n3 n2))⟩
            by_cases hk3591 : r3552 = 8
            · refine y_top 8 hk3591 ?_
              refine y_tsw 100 c69_68 (by decide) (by decide) rfl rfl ?_
              have es3592 : mq3547 2 2 = mi 2 2 := (hFq3547 2 2 ((wAs316_lt (by decide)).trans rfl))
              have es3593 : mq3547 2 1 = m 2 1 := ((hFq3547 2 1 ((wAs316_lt (by decide)).trans rfl)).trans (hFi 2 1 ((wBo316_lt (by decide)).trans rfl)))
              have tb3594 := hT.atp 2 1 ((-1)) 1 rfl
              have es3595 : mq3547 316 10 = m 316 10 := ((hFq3547 316 10 ((wAs316_lt (by decide)).trans rfl)).trans (hFi 316 10 ((wBo316_lt (by decide)).trans rfl)))
              have es3596 : mq3547 316 12 = mi 316 12 := (hFq3547 316 12 ((wAs316_lt (by decide)).trans rfl))
              have es3597 : mq3547 316 13 = mi 316 13 := (hFq3547 316 13 ((wAs316_lt (by decide)).trans rfl))
              have tb3598 := hTq3547.atp 316 16 0 40 rfl
              refine t69i_316 (k := mi 316 16) hTq3547 he (by have e1 : mq3547 5 e.toNat = m 5 e.toNat := ((hFq3547 5 e.toNat ((wAs316_lt (by decide)).trans rfl)).trans (hFi 5 e.toNat ((wBo316_lt (by decide)).trans rfl))); omega) (by omega) (by omega) (by omega) (by omega) (by omega) k8 (by omega) hdep hB (fun g4 m4 hg4 hT4 hF4 h4 hZ4 hS4 => ?_)
              have hF3599 := hF3550.tr hF4 (wBo316_mono (by omega))
              refine y_aload 164 c69_162 rfl rfl rfl ?_
              refine y_aload 165 c69_164 rfl rfl rfl ?_
              refine y_getS 168 (B := 316) c69_165 rfl kf2_1 (by rw [show m4 2 1 = 1 from by have e : m4 2 1 = m 2 1 := ((hF4 2 1 ((wBo316_lt (by decide)).trans rfl)).trans ((hFq3547 2 1 ((wAs316_lt (by decide)).trans rfl)).trans (hFi 2 1 ((wBo316_lt (by decide)).trans rfl)))); omega]; rfl) ?_
              refine y_getX 171 (m4 316 16) c69_168 rfl kf316_16 rfl ?_
              have tb3600 := hT4.atp 316 16 0 40 rfl
              refine y_putI 174 c69_171 rfl (ff336_12 (by omega)) (y_fit0 _) ?_
              have hT3601 := hT4.up (336 + (mi 316 16).toNat) 12 (m4 316 16) 0 40 (ft336_12 (by omega)) (by omega)
              have hF3602 := hF3599.up (336 + (mi 316 16).toNat) 12 (m4 316 16) (wBo316_s (by omega))
              refine y_iinc 177 c69_174 rfl rfl rfl ?_
              refine y_goto 19 c69_177 rfl ?_
              have es3603 : (yup m4 (336 + (mi 316 16).toNat) 12 (m4 316 16)) 2 2 = m4 2 2 := (yup_na (by omega))
              have tb3604 := hT4.atp 2 2 0 320 rfl
              have es3605 : (yup m4 (336 + (mi 316 16).toNat) 12 (m4 316 16)) 316 16 = m4 316 16 := (yup_na (by omega))
              have es3606 : (yup m4 (336 + (mi 316 16).toNat) 12 (m4 316 16)) 316 12 = m4 316 12 := (yup_na (by omega))
              have tb3607 := hT4.atp 316 12 0 12 rfl
              have es3608 : (yup m4 (336 + (mi 316 16).toNat) 12 (m4 316 16)) 316 13 = m4 316 13 := (yup_na (by omega))
              have tb3609 := hT4.atp 316 13 0 8 rfl
              refine ih (41 - (i + 1 : Int)).toNat (by omega) g4 (i + 1) _ _ (by omega) (by omega) (by omega) hT3601 hF3602 (by omega) (fun z hz0 => ((yup_na (by omega)).trans ((hZ4 z (by omega)).trans ((hFq3547 325 z ((wAs316_lt (by decide)).trans rfl)).trans (hz z hz0))))) (fun h1 => ?_)
              obtain ⟨g0, n0⟩ := hg (by omega)
              obtain ⟨p0, p1, p2⟩ := hS4 h1
              have g1 := g0.fr (m' := yup m4 (336 + (mi 316 16).toNat) 12 (m4 316 16)) (c3 := mi 316 12) (fun j ja jb q _ => ((yup_na (by omega)).trans ((hF4 _ _ (wBo316_n (by omega))).trans (hFq3547 _ _ (wAs316_n (by omega)))))) (fun z za zb => ((yup_na (by omega)).trans ((hZ4 z (by omega)).trans (hFq3547 325 z ((wAs316_lt (by decide)).trans rfl))))) (by omega)
              have g2 := p0.fr (m' := yup m4 (336 + (mi 316 16).toNat) 12 (m4 316 16)) (c3 := (yup m4 (336 + (mi 316 16).toNat) 12 (m4 316 16)) 316 12) (fun j ja jb q hq => yup_ne (fun e => hq e.2)) (fun z za zb => yup_na (by omega)) (by omega)
              have g3 := RG.app (b := mi 316 16) (c := (yup m4 (336 + (mi 316 16).toNat) 12 (m4 316 16)) 316 16) (c2 := mi 316 12) (c3 := (yup m4 (336 + (mi 316 16).toNat) 12 (m4 316 16)) 316 12) (d2 := mi 316 13) (d3 := (yup m4 (336 + (mi 316 16).toNat) 12 (m4 316 16)) 316 13) g1 (cast (by congr 1 <;> omega) g2) (by omega) (by omega) (by omega)
              have n1 := n0.fr (m' := yup m4 (336 + (mi 316 16).toNat) 12 (m4 316 16)) (c2 := (yup m4 (336 + (mi 316 16).toNat) 12 (m4 316 16)) 316 16) (fun j ja jb q => ((yup_na (by omega)).trans ((hF4 _ _ (wBo316_n (by omega))).trans (hFq3547 _ _ (wAs316_n (by omega)))))) (by omega)
              have n2 := p1.fr (m' := yup m4 (336 + (mi 316 16).toNat) 12 (m4 316 16)) (c2 := (yup m4 (336 + (mi 316 16).toNat) 12 (m4 316 16)) 316 16) (fun j ja jb q => yup_na (by omega)) (by omega)
              have n3 : EN 336 (yup m4 (336 + (mi 316 16).toNat) 12 (m4 316 16)) (mi 316 16) (mi 316 16 + 1) ((yup m4 (336 + (mi 316 16).toNat) 12 (m4 316 16)) 316 16) := EN.one (by omega) (by rw [yup_eq]; omega) (by rw [yup_nk (by decide), yup_nk (by decide)]; omega)
              exact ⟨g3, cast (by congr 1 <;> omega) (EN.app n1 (EN.app (b := mi 316 16 + 1) n3 n2))⟩
            by_cases hk3610 : r3552 = 9
            · refine y_top 9 hk3610 ?_
              refine y_tsw 111 c69_68 (by decide) (by decide) rfl rfl ?_
              have es3611 : mq3547 2 2 = mi 2 2 := (hFq3547 2 2 ((wAs316_lt (by decide)).trans rfl))
              have es3612 : mq3547 2 1 = m 2 1 := ((hFq3547 2 1 ((wAs316_lt (by decide)).trans rfl)).trans (hFi 2 1 ((wBo316_lt (by decide)).trans rfl)))
              have tb3613 := hT.atp 2 1 ((-1)) 1 rfl
              have es3614 : mq3547 316 10 = m 316 10 := ((hFq3547 316 10 ((wAs316_lt (by decide)).trans rfl)).trans (hFi 316 10 ((wBo316_lt (by decide)).trans rfl)))
              have es3615 : mq3547 316 12 = mi 316 12 := (hFq3547 316 12 ((wAs316_lt (by decide)).trans rfl))
              have es3616 : mq3547 316 13 = mi 316 13 := (hFq3547 316 13 ((wAs316_lt (by decide)).trans rfl))
              have tb3617 := hTq3547.atp 316 16 0 40 rfl
              refine t69j_316 (k := mi 316 16) hTq3547 he (by have e1 : mq3547 5 e.toNat = m 5 e.toNat := ((hFq3547 5 e.toNat ((wAs316_lt (by decide)).trans rfl)).trans (hFi 5 e.toNat ((wBo316_lt (by decide)).trans rfl))); omega) (by omega) (by omega) (by omega) (by omega) (by omega) k8 (by omega) (fun g4 m4 hg4 hT4 hF4 h4 hZ4 hS4 => ?_)
              have hF3618 := hF3550.tr hF4 (wBo316_mono (by omega))
              refine y_aload 164 c69_162 rfl rfl rfl ?_
              refine y_aload 165 c69_164 rfl rfl rfl ?_
              refine y_getS 168 (B := 316) c69_165 rfl kf2_1 (by rw [show m4 2 1 = 1 from by have e : m4 2 1 = m 2 1 := ((hF4 2 1 ((wBo316_lt (by decide)).trans rfl)).trans ((hFq3547 2 1 ((wAs316_lt (by decide)).trans rfl)).trans (hFi 2 1 ((wBo316_lt (by decide)).trans rfl)))); omega]; rfl) ?_
              refine y_getX 171 (m4 316 16) c69_168 rfl kf316_16 rfl ?_
              have tb3619 := hT4.atp 316 16 0 40 rfl
              refine y_putI 174 c69_171 rfl (ff336_12 (by omega)) (y_fit0 _) ?_
              have hT3620 := hT4.up (336 + (mi 316 16).toNat) 12 (m4 316 16) 0 40 (ft336_12 (by omega)) (by omega)
              have hF3621 := hF3618.up (336 + (mi 316 16).toNat) 12 (m4 316 16) (wBo316_s (by omega))
              refine y_iinc 177 c69_174 rfl rfl rfl ?_
              refine y_goto 19 c69_177 rfl ?_
              have es3622 : (yup m4 (336 + (mi 316 16).toNat) 12 (m4 316 16)) 2 2 = m4 2 2 := (yup_na (by omega))
              have tb3623 := hT4.atp 2 2 0 320 rfl
              have es3624 : (yup m4 (336 + (mi 316 16).toNat) 12 (m4 316 16)) 316 16 = m4 316 16 := (yup_na (by omega))
              have es3625 : (yup m4 (336 + (mi 316 16).toNat) 12 (m4 316 16)) 316 12 = m4 316 12 := (yup_na (by omega))
              have tb3626 := hT4.atp 316 12 0 12 rfl
              have es3627 : (yup m4 (336 + (mi 316 16).toNat) 12 (m4 316 16)) 316 13 = m4 316 13 := (yup_na (by omega))
              have tb3628 := hT4.atp 316 13 0 8 rfl
              refine ih (41 - (i + 1 : Int)).toNat (by omega) g4 (i + 1) _ _ (by omega) (by omega) (by omega) hT3620 hF3621 (by omega) (fun z hz0 => ((yup_na (by omega)).trans ((hZ4 z (by omega)).trans ((hFq3547 325 z ((wAs316_lt (by decide)).trans rfl)).trans (hz z hz0))))) (fun h1 => ?_)
              obtain ⟨g0, n0⟩ := hg (by omega)
              obtain ⟨p0, p1, p2⟩ := hS4 h1
              have g1 := g0.fr (m' := yup m4 (336 + (mi 316 16).toNat) 12 (m4 316 16)) (c3 := mi 316 12) (fun j ja jb q _ => ((yup_na (by omega)).trans ((hF4 _ _ (wBo316_n (by omega))).trans (hFq3547 _ _ (wAs316_n (by omega)))))) (fun z za zb => ((yup_na (by omega)).trans ((hZ4 z (by omega)).trans (hFq3547 325 z ((wAs316_lt (by decide)).trans rfl))))) (by omega)
              have g2 := p0.fr (m' := yup m4 (336 + (mi 316 16).toNat) 12 (m4 316 16)) (c3 := (yup m4 (336 + (mi 316 16).toNat) 12 (m4 316 16)) 316 12) (fun j ja jb q hq => yup_ne (fun e => hq e.2)) (fun z za zb => yup_na (by omega)) (by omega)
              have g3 := RG.app (b := mi 316 16) (c := (yup m4 (336 + (mi 316 16).toNat) 12 (m4 316 16)) 316 16) (c2 := mi 316 12) (c3 := (yup m4 (336 + (mi 316 16).toNat) 12 (m4 316 16)) 316 12) (d2 := mi 316 13) (d3 := (yup m4 (336 + (mi 316 16).toNat) 12 (m4 316 16)) 316 13) g1 (cast (by congr 1 <;> omega) g2) (by omega) (by omega) (by omega)
              have n1 := n0.fr (m' := yup m4 (336 + (mi 316 16).toNat) 12 (m4 316 16)) (c2 := (yup m4 (336 + (mi 316 16).toNat) 12 (m4 316 16)) 316 16) (fun j ja jb q => ((yup_na (by omega)).trans ((hF4 _ _ (wBo316_n (by omega))).trans (hFq3547 _ _ (wAs316_n (by omega)))))) (by omega)
              have n2 := p1.fr (m' := yup m4 (336 + (mi 316 16).toNat) 12 (m4 316 16)) (c2 := (yup m4 (336 + (mi 316 16).toNat) 12 (m4 316 16)) 316 16) (fun j ja jb q => yup_na (by omega)) (by omega)
              have n3 : EN 336 (yup m4 (336 + (mi 316 16).toNat) 12 (m4 316 16)) (mi 316 16) (mi 316 16 + 1) ((yup m4 (336 + (mi 316 16).toNat) 12 (m4 316 16)) 316 16) := EN.one (by omega) (by rw [yup_eq]; omega) (by rw [yup_nk (by decide), yup_nk (by decide)]; omega)
              exact ⟨g3, cast (by congr 1 <;> omega) (EN.app n1 (EN.app (b := mi 316 16 + 1) n3 n2))⟩
            refine y_tswd 138 c69_68 (by omega) (by omega) rfl ?_
            have es3629 : mq3547 2 2 = mi 2 2 := (hFq3547 2 2 ((wAs316_lt (by decide)).trans rfl))
            have es3630 : mq3547 2 1 = m 2 1 := ((hFq3547 2 1 ((wAs316_lt (by decide)).trans rfl)).trans (hFi 2 1 ((wBo316_lt (by decide)).trans rfl)))
            have tb3631 := hT.atp 2 1 ((-1)) 1 rfl
            have es3632 : mq3547 316 10 = m 316 10 := ((hFq3547 316 10 ((wAs316_lt (by decide)).trans rfl)).trans (hFi 316 10 ((wBo316_lt (by decide)).trans rfl)))
            have es3633 : mq3547 316 12 = mi 316 12 := (hFq3547 316 12 ((wAs316_lt (by decide)).trans rfl))
            have es3634 : mq3547 316 13 = mi 316 13 := (hFq3547 316 13 ((wAs316_lt (by decide)).trans rfl))
            have tb3635 := hTq3547.atp 316 16 0 40 rfl
            refine t69k_316 (k := mi 316 16) hTq3547 he (by have e1 : mq3547 5 e.toNat = m 5 e.toNat := ((hFq3547 5 e.toNat ((wAs316_lt (by decide)).trans rfl)).trans (hFi 5 e.toNat ((wBo316_lt (by decide)).trans rfl))); omega) (by omega) (by omega) (by omega) (by omega) (by omega) k8 (fun g4 m4 hg4 hT4 hF4 h4 hZ4 hS4 => ?_)
            have hF3636 := hF3550.tr hF4 (wBo316_mono (by omega))
            refine y_aload 164 c69_162 rfl rfl rfl ?_
            refine y_aload 165 c69_164 rfl rfl rfl ?_
            refine y_getS 168 (B := 316) c69_165 rfl kf2_1 (by rw [show m4 2 1 = 1 from by have e : m4 2 1 = m 2 1 := ((hF4 2 1 ((wBo316_lt (by decide)).trans rfl)).trans ((hFq3547 2 1 ((wAs316_lt (by decide)).trans rfl)).trans (hFi 2 1 ((wBo316_lt (by decide)).trans rfl)))); omega]; rfl) ?_
            refine y_getX 171 (m4 316 16) c69_168 rfl kf316_16 rfl ?_
            have tb3637 := hT4.atp 316 16 0 40 rfl
            refine y_putI 174 c69_171 rfl (ff336_12 (by omega)) (y_fit0 _) ?_
            have hT3638 := hT4.up (336 + (mi 316 16).toNat) 12 (m4 316 16) 0 40 (ft336_12 (by omega)) (by omega)
            have hF3639 := hF3636.up (336 + (mi 316 16).toNat) 12 (m4 316 16) (wBo316_s (by omega))
            refine y_iinc 177 c69_174 rfl rfl rfl ?_
            refine y_goto 19 c69_177 rfl ?_
            have es3640 : (yup m4 (336 + (mi 316 16).toNat) 12 (m4 316 16)) 2 2 = m4 2 2 := (yup_na (by omega))
            have tb3641 := hT4.atp 2 2 0 320 rfl
            have es3642 : (yup m4 (336 + (mi 316 16).toNat) 12 (m4 316 16)) 316 16 = m4 316 16 := (yup_na (by omega))
            have es3643 : (yup m4 (336 + (mi 316 16).toNat) 12 (m4 316 16)) 316 12 = m4 316 12 := (yup_na (by omega))
            have tb3644 := hT4.atp 316 12 0 12 rfl
            have es3645 : (yup m4 (336 + (mi 316 16).toNat) 12 (m4 316 16)) 316 13 = m4 316 13 := (yup_na (by omega))
            have tb3646 := hT4.atp 316 13 0 8 rfl
            refine ih (41 - (i + 1 : Int)).toNat (by omega) g4 (i + 1) _ _ (by omega) (by omega) (by omega) hT3638 hF3639 (by omega) (fun z hz0 => ((yup_na (by omega)).trans ((hZ4 z (by omega)).trans ((hFq3547 325 z ((wAs316_lt (by decide)).trans rfl)).trans (hz z hz0))))) (fun h1 => ?_)
            obtain ⟨g0, n0⟩ := hg (by omega)
            obtain ⟨p0, p1, p2⟩ := hS4 h1
            have g1 := g0.fr (m' := yup m4 (336 + (mi 316 16).toNat) 12 (m4 316 16)) (c3 := mi 316 12) (fun j ja jb q _ => ((yup_na (by omega)).trans ((hF4 _ _ (wBo316_n (by omega))).trans (hFq3547 _ _ (wAs316_n (by omega)))))) (fun z za zb => ((yup_na (by omega)).trans ((hZ4 z (by omega)).trans (hFq3547 325 z ((wAs316_lt (by decide)).trans rfl))))) (by omega)
            have g2 := p0.fr (m' := yup m4 (336 + (mi 316 16).toNat) 12 (m4 316 16)) (c3 := (yup m4 (336 + (mi 316 16).toNat) 12 (m4 316 16)) 316 12) (fun j ja jb q hq => yup_ne (fun e => hq e.2)) (fun z za zb => yup_na (by omega)) (by omega)
            have g3 := RG.app (b := mi 316 16) (c := (yup m4 (336 + (mi 316 16).toNat) 12 (m4 316 16)) 316 16) (c2 := mi 316 12) (c3 := (yup m4 (336 + (mi 316 16).toNat) 12 (m4 316 16)) 316 12) (d2 := mi 316 13) (d3 := (yup m4 (336 + (mi 316 16).toNat) 12 (m4 316 16)) 316 13) g1 (cast (by congr 1 <;> omega) g2) (by omega) (by omega) (by omega)
            have n1 := n0.fr (m' := yup m4 (336 + (mi 316 16).toNat) 12 (m4 316 16)) (c2 := (yup m4 (336 + (mi 316 16).toNat) 12 (m4 316 16)) 316 16) (fun j ja jb q => ((yup_na (by omega)).trans ((hF4 _ _ (wBo316_n (by omega))).trans (hFq3547 _ _ (wAs316_n (by omega)))))) (by omega)
            have n2 := p1.fr (m' := yup m4 (336 + (mi 316 16).toNat) 12 (m4 316 16)) (c2 := (yup m4 (336 + (mi 316 16).toNat) 12 (m4 316 16)) 316 16) (fun j ja jb q => yup_na (by omega)) (by omega)
            have n3 : EN 336 (yup m4 (336 + (mi 316 16).toNat) 12 (m4 316 16)) (mi 316 16) (mi 316 16 + 1) ((yup m4 (336 + (mi 316 16).toNat) 12 (m4 316 16)) 316 16) := EN.one (by omega) (by rw [yup_eq]; omega) (by rw [yup_nk (by decide), yup_nk (by decide)]; omega)
            exact ⟨g3, cast (by congr 1 <;> omega) (EN.app n1 (EN.app (b := mi 316 16 + 1) n3 n2))⟩
          · refine y_aload 51 c69_50 rfl rfl rfl ?_
            refine y_callIB 54 [.ref 2] [] c69_51 rfl rfl rfl rfl rfl (ycanO km43 ko2) (t43 hTi) (fun rq3647 mq3647 nq3647 hq3647 => ?_)
            obtain ⟨rfl, hTq3647, hFq3647, hq3647⟩ := hq3647
            have hF3648 := hFi.tr hFq3647 wFa_wBo316
            have es3649 : mq3647 2 2 = mi 2 2 := (hFq3647 2 2 rfl)
            have es3650 : mq3647 316 16 = mi 316 16 := (hFq3647 316 16 rfl)
            have es3651 : mq3647 316 12 = mi 316 12 := (hFq3647 316 12 rfl)
            have es3652 : mq3647 316 13 = mi 316 13 := (hFq3647 316 13 rfl)
            refine y_retI c69_54 (y_fit1 (by omega)) ⟨rfl, hTq3647, hF3648, by omega, fun z hz0 => ((hFq3647 325 z rfl).trans (hz z hz0)), fun h1 => ?_⟩
            omega
set_option maxRecDepth 100000 in
theorem t69s_316 {L : Nat} {xs : Nat → Int32} {d nn : Nat} {m : yM} {e : Int} (hT : Ty gT m) (he : 0 ≤ e ∧ e ≤ 320) (hE : m 5 e.toNat = 0) (ha : m 2 2 ≤ e) (hp : m 2 1 = 1) (hm : 1 ≤ m 316 10) {dep : Int} (hdep : 0 ≤ dep ∧ dep ≤ 3) (hB : BS316 L xs (d + 4) (dep + 1) e) : YC (gZ L xs) (d + 6) 69 [.ref 2, yI dep] m nn (qI (fun r m' n' => n' = nn ∧ Ty gT m' ∧ Fr (wBo316 (m 316 16).toNat) m m' ∧ ((r = 0 ∨ r = 1) ∧ m' 2 2 ≤ e ∧ m 316 16 ≤ m' 316 16 ∧ m 316 12 ≤ m' 316 12 ∧ m 316 13 ≤ m' 316 13) ∧ (∀ z : Nat, (z : Int) < m 316 13 → m' 325 z = m 325 z) ∧ (r = 1 → RG 336 325 m' (m 316 16) (m' 316 16) (m 316 12) (m' 316 12) (m 316 13) (m' 316 13) ∧ EN 336 m' (m 316 16) (m' 316 16) (m' 316 16)))) := by
  have tb2 := hT.atp 2 2 0 320 rfl
  have tb12 := hT.atp 316 12 0 12 rfl
  have tb13 := hT.atp 316 13 0 8 rfl
  have tb16 := hT.atp 316 16 0 40 rfl
  refine YC.mkB [some (.ref 2), some (yI dep), none, none, none] kn69 rfl rfl ?_
  have hF : Fr (wBo316 (m 316 16).toNat) m m := Fr.rf
  refine y_iload 1 c69_0 rfl rfl ?_
  refine y_iconst 2 c69_1 rfl ?_
  refine y_icmp 10 5 c69_2 rfl rfl (yc_le (by omega) (by omega)) (fun hb3653 => ?_) (fun hb3653 => ?_)
  · refine y_aload 11 c69_10 rfl rfl rfl ?_
    refine y_iconst 13 c69_11 rfl ?_
    have tb3655 := hT.atp 2 2 0 320 rfl
    refine y_callIB 16 [.ref 2, yI 123] [] c69_13 rfl rfl rfl rfl rfl (ycanO km37 ko2) (t37 hT he hE (by omega) (by omega)) (fun rq3654 mq3654 nq3654 hq3654 => ?_)
    obtain ⟨rfl, hTq3654, hFq3654, hq3654⟩ := hq3654
    have hF3656 := hF.tr hFq3654 wAt_wBo316
    refine y_istore 17 c69_16 rfl rfl ?_
    refine y_iconst 18 c69_17 rfl ?_
    refine y_istore 19 c69_18 rfl rfl ?_
    have tb3657 := hTq3654.atp 2 2 0 320 rfl
    have es3658 : mq3654 316 16 = m 316 16 := (hFq3654 316 16 rfl)
    have tb3659 := hT.atp 316 16 0 40 rfl
    have es3660 : mq3654 316 12 = m 316 12 := (hFq3654 316 12 rfl)
    have tb3661 := hT.atp 316 12 0 12 rfl
    have es3662 : mq3654 316 13 = m 316 13 := (hFq3654 316 13 rfl)
    have tb3663 := hT.atp 316 13 0 8 rfl
    exact t69a_316 hT he hE ha hp hm hdep hB 41 rq3654 0 _ _ (by omega) (by omega) (by omega) hTq3654 hF3656 (by omega) (fun z hz => (hFq3654 325 z rfl)) (fun _ => ⟨RG.nil (by omega) (by omega), EN.nil (by omega)⟩)
  · exfalso; omega
set_option maxRecDepth 100000 in
theorem t69z_316 {L : Nat} {xs : Nat → Int32} {d nn : Nat} {m : yM} {e : Int} (hT : Ty gT m) (he : 0 ≤ e ∧ e ≤ 320) (hE : m 5 e.toNat = 0) (ha : m 2 2 ≤ e) (hp : m 2 1 = 1) (hm : 1 ≤ m 316 10) : YC (gZ L xs) (d + 4) 69 [.ref 2, yI 4] m nn (qI (fun r m' n' => n' = nn ∧ Ty gT m' ∧ Fr (wBo316 (m 316 16).toNat) m m' ∧ ((r = 0 ∨ r = 1) ∧ m' 2 2 ≤ e ∧ m 316 16 ≤ m' 316 16 ∧ m 316 12 ≤ m' 316 12 ∧ m 316 13 ≤ m' 316 13) ∧ (∀ z : Nat, (z : Int) < m 316 13 → m' 325 z = m 325 z) ∧ (r = 1 → RG 336 325 m' (m 316 16) (m' 316 16) (m 316 12) (m' 316 12) (m 316 13) (m' 316 13) ∧ EN 336 m' (m 316 16) (m' 316 16) (m' 316 16)))) := by
  have tb2 := hT.atp 2 2 0 320 rfl
  have tb12 := hT.atp 316 12 0 12 rfl
  have tb13 := hT.atp 316 13 0 8 rfl
  have tb16 := hT.atp 316 16 0 40 rfl
  refine YC.mkB [some (.ref 2), some (yI 4), none, none, none] kn69 rfl rfl ?_
  have hF : Fr (wBo316 (m 316 16).toNat) m m := Fr.rf
  refine y_iload 1 c69_0 rfl rfl ?_
  refine y_iconst 2 c69_1 rfl ?_
  refine y_icmp 10 5 c69_2 rfl rfl (yc_le (by omega) (by omega)) (fun hb3664 => ?_) (fun hb3664 => ?_)
  · exfalso; omega
  · refine y_aload 6 c69_5 rfl rfl rfl ?_
    have tb3666 := hT.atp 2 2 0 320 rfl
    refine y_callIB 9 [.ref 2] [] c69_6 rfl rfl rfl rfl rfl (ycanO km43 ko2) (t43 hT) (fun rq3665 mq3665 nq3665 hq3665 => ?_)
    obtain ⟨rfl, hTq3665, hFq3665, hq3665⟩ := hq3665
    have hF3667 := hF.tr hFq3665 wFa_wBo316
    have es3668 : mq3665 2 2 = m 2 2 := (hFq3665 2 2 rfl)
    have es3669 : mq3665 316 16 = m 316 16 := (hFq3665 316 16 rfl)
    have tb3670 := hT.atp 316 16 0 40 rfl
    have es3671 : mq3665 316 12 = m 316 12 := (hFq3665 316 12 rfl)
    have tb3672 := hT.atp 316 12 0 12 rfl
    have es3673 : mq3665 316 13 = m 316 13 := (hFq3665 316 13 rfl)
    have tb3674 := hT.atp 316 13 0 8 rfl
    exact y_retI c69_9 (y_fit1 (by omega)) ⟨rfl, hTq3665, hF3667, by omega, fun z hz => (hFq3665 325 z rfl), fun h1 => by omega⟩
theorem t69_316 {L : Nat} {xs : Nat → Int32} {d nn : Nat} {m : yM} {e : Int} (hT : Ty gT m) (he : 0 ≤ e ∧ e ≤ 320) (hE : m 5 e.toNat = 0) (ha : m 2 2 ≤ e) (hp : m 2 1 = 1) (hm : 1 ≤ m 316 10) : YC (gZ L xs) (d + 12) 69 [.ref 2, yI 0] m nn (qI (fun r m' n' => n' = nn ∧ Ty gT m' ∧ Fr (wBo316 (m 316 16).toNat) m m' ∧ ((r = 0 ∨ r = 1) ∧ m' 2 2 ≤ e ∧ m 316 16 ≤ m' 316 16 ∧ m 316 12 ≤ m' 316 12 ∧ m 316 13 ≤ m' 316 13) ∧ (∀ z : Nat, (z : Int) < m 316 13 → m' 325 z = m 325 z) ∧ (r = 1 → RG 336 325 m' (m 316 16) (m' 316 16) (m 316 12) (m' 316 12) (m 316 13) (m' 316 13) ∧ EN 336 m' (m 316 16) (m' 316 16) (m' 316 16)))) :=
  have b4 : BS316 L xs (d + 4) (3 + 1) e := fun nn m h1 h2 h3 h4 h5 => t69z_316 (d := d) h1 he h2 h3 h4 h5
  have b3 : BS316 L xs (d + 6) (2 + 1) e := fun nn m h1 h2 h3 h4 h5 => t69s_316 (d := d + 0) (dep := 3) h1 he h2 h3 h4 h5 (by omega) b4
  have b2 : BS316 L xs (d + 8) (1 + 1) e := fun nn m h1 h2 h3 h4 h5 => t69s_316 (d := d + 2) (dep := 2) h1 he h2 h3 h4 h5 (by omega) b3
  have b1 : BS316 L xs (d + 10) (0 + 1) e := fun nn m h1 h2 h3 h4 h5 => t69s_316 (d := d + 4) (dep := 1) h1 he h2 h3 h4 h5 (by omega) b2
  t69s_316 (d := d + 6) (dep := 0) hT he hE ha hp hm (by omega) b1
end
