/-! CONTRACTS: printed by wip/whole/gen80.py and on -/
set_option maxRecDepth 100000 in
theorem t40a {L : Nat} {xs : Nat → Int32} {d nn : Nat} {m : yM} {R ln : Nat} {e v : Int} (hT : Ty gT m) (hR : yarr gSh 414 R = some (0, ln)) (hR2 : ∀ q, gT R q = (-2147483648, 2147483647)) (he : 0 ≤ e ∧ e ≤ ln) (hln : ln ≤ 1000) (hv : -2147483648 ≤ v ∧ v < 2147483648) : ∀ (k : Nat) (i : Int), e - i = k → 0 ≤ i ∧ i ≤ e → YW (gZ L xs) 40 d 2 [some (.ref R), some (yI e), some (yI v), some (yI i)] [] m nn (qP m nn (fun r => -1 ≤ r ∧ r < e)) := by
  intro k
  induction k using Nat.strongRecOn with
  | ind k ih =>
    intro i hk hi
    refine y_iload 3 c40_2 rfl rfl ?_
    refine y_iload 4 c40_3 rfl rfl ?_
    refine y_icmp 22 7 c40_4 rfl rfl (yc_ge (by omega) (by omega)) (fun hb103 => ?_) (fun hb103 => ?_)
    · refine y_iconst 23 c40_22 rfl ?_
      exact y_retP c40_23 (y_fit0 _) (by omega)
    · refine y_aload 8 c40_7 rfl rfl rfl ?_
      refine y_iload 9 c40_8 rfl rfl ?_
      refine y_iaT 10 ((-2147483648)) 2147483647 c40_9 rfl hR (by omega) hT (hR2 _) (fun v104 hv104 gv104 => ?_)
      refine y_iload 11 c40_10 rfl rfl ?_
      refine y_icmp 16 14 c40_11 rfl rfl (yc_ne (by omega) (by omega)) (fun hb105 => ?_) (fun hb105 => ?_)
      · refine y_iinc 19 c40_16 rfl rfl rfl ?_
        refine y_goto 2 c40_19 rfl ?_
        exact ih (e - (i + 1) : Int).toNat (by omega) (i + 1)   (by omega) (by omega)
      · refine y_iload 15 c40_14 rfl rfl ?_
        exact y_retP c40_15 (y_fit0 _) (by omega)
set_option maxRecDepth 100000 in
theorem t40 {L : Nat} {xs : Nat → Int32} {d nn : Nat} {m : yM} {R ln : Nat} {e v : Int} (hT : Ty gT m) (hR : yarr gSh 414 R = some (0, ln)) (hR2 : ∀ q, gT R q = (-2147483648, 2147483647)) (he : 0 ≤ e ∧ e ≤ ln) (hln : ln ≤ 1000) (hv : -2147483648 ≤ v ∧ v < 2147483648) : YC (gZ L xs) d 40 [.ref R, yI e, yI v] m nn (qP m nn (fun r => -1 ≤ r ∧ r < e)) := by
  refine YC.mkB [some (.ref R), some (yI e), some (yI v), none] kn40 rfl rfl ?_
  refine y_iconst 1 c40_0 rfl ?_
  refine y_istore 2 c40_1 rfl rfl ?_
  exact t40a hT hR hR2 he hln hv (e - 0 : Int).toNat 0   (by omega) (by omega)
def wPa256 (a q : Nat) : Bool := (a == 2 && (q == 2 || q == 3 || q == 4)) || decide (256 ≤ a ∧ a < 316)
theorem wPa256_m {k q : Nat} (h : k < 10) : wPa256 (266 + k) q = true := by
  simp [wPa256]
  omega
theorem wPa256_s {k q : Nat} (h : k < 40) : wPa256 (276 + k) q = true := by
  simp [wPa256]
  omega
def wCl256 (a q : Nat) : Bool := (a == 256 && q == 9) || a == 257 || a == 258 || a == 259
theorem wCl256_P : ∀ a q, wCl256 a q = true → wPa256 a q = true := by
  intro a q h
  simp [wCl256] at h
  simp [wPa256]
  omega
def wFi256 (a q : Nat) : Bool := (a == 256 && q == 11) || a == 260 || a == 259
theorem wFi256_P : ∀ a q, wFi256 a q = true → wPa256 a q = true := by
  intro a q h
  simp [wFi256] at h
  simp [wPa256]
  omega
def wVa256 (a q : Nat) : Bool := (a == 256 && q == 15) || a == 261
theorem wVa256_P : ∀ a q, wVa256 a q = true → wPa256 a q = true := by
  intro a q h
  simp [wVa256] at h
  simp [wPa256]
  omega
def wMe256 (a q : Nat) : Bool := (a == 256 && (q == 10 || q == 15)) || a == 261 || decide (266 ≤ a ∧ a < 276)
theorem wMe256_266 {k q : Nat} (h : k < 10) : wMe256 (266 + k) q = true := by
  simp [wMe256]
  omega
theorem wMe256_P : ∀ a q, wMe256 a q = true → wPa256 a q = true := by
  intro a q h
  simp [wMe256] at h
  simp [wPa256]
  omega
def wCn256 (a q : Nat) : Bool := a == 256 && (decide (9 ≤ q) && decide (q ≤ 16))
theorem wCn256_P : ∀ a q, wCn256 a q = true → wPa256 a q = true := by
  intro a q h
  simp [wCn256] at h
  simp [wPa256]
  omega
set_option maxRecDepth 100000 in
theorem t30_256 {L : Nat} {xs : Nat → Int32} {d nn : Nat} {m : yM} (hT : Ty gT m) : YC (gZ L xs) d 30 [.ref 256] m nn (qU (fun m' n' => n' = nn ∧ Ty gT m' ∧ Fr wCn256 m m' ∧ m' 256 9 = 0 ∧ m' 256 10 = 0 ∧ m' 256 11 = 0 ∧ m' 256 12 = 0 ∧ m' 256 13 = 0 ∧ m' 256 14 = 1 ∧ m' 256 15 = 0 ∧ m' 256 16 = 0)) := by
  refine YC.mkB [some (.ref 256)] kn30 rfl rfl ?_
  have hF : Fr wCn256 m m := Fr.rf
  refine y_aload 1 c30_0 rfl rfl rfl ?_
  refine y_iconst 2 c30_1 rfl ?_
  refine y_putI 5 c30_2 rfl kf256_9 (y_fit0 _) ?_
  have hT106 := hT.up 256 9 0 0 6 rfl (by omega)
  have hF107 := hF.up 256 9 0 rfl
  refine y_aload 6 c30_5 rfl rfl rfl ?_
  refine y_iconst 7 c30_6 rfl ?_
  refine y_putI 10 c30_7 rfl kf256_10 (y_fit0 _) ?_
  have hT108 := hT106.up 256 10 0 0 10 rfl (by omega)
  have hF109 := hF107.up 256 10 0 rfl
  refine y_aload 11 c30_10 rfl rfl rfl ?_
  refine y_iconst 12 c30_11 rfl ?_
  refine y_putI 15 c30_12 rfl kf256_11 (y_fit0 _) ?_
  have hT110 := hT108.up 256 11 0 0 8 rfl (by omega)
  have hF111 := hF109.up 256 11 0 rfl
  refine y_aload 16 c30_15 rfl rfl rfl ?_
  refine y_iconst 17 c30_16 rfl ?_
  refine y_putI 20 c30_17 rfl kf256_12 (y_fit0 _) ?_
  have hT112 := hT110.up 256 12 0 0 12 rfl (by omega)
  have hF113 := hF111.up 256 12 0 rfl
  refine y_aload 21 c30_20 rfl rfl rfl ?_
  refine y_iconst 22 c30_21 rfl ?_
  refine y_putI 25 c30_22 rfl kf256_13 (y_fit0 _) ?_
  have hT114 := hT112.up 256 13 0 0 8 rfl (by omega)
  have hF115 := hF113.up 256 13 0 rfl
  refine y_aload 26 c30_25 rfl rfl rfl ?_
  refine y_iconst 27 c30_26 rfl ?_
  refine y_putI 30 c30_27 rfl kf256_14 (y_fit0 _) ?_
  have hT116 := hT114.up 256 14 1 0 12 rfl (by omega)
  have hF117 := hF115.up 256 14 1 rfl
  refine y_aload 31 c30_30 rfl rfl rfl ?_
  refine y_iconst 32 c30_31 rfl ?_
  refine y_putI 35 c30_32 rfl kf256_15 (y_fit0 _) ?_
  have hT118 := hT116.up 256 15 0 0 48 rfl (by omega)
  have hF119 := hF117.up 256 15 0 rfl
  refine y_aload 36 c30_35 rfl rfl rfl ?_
  refine y_iconst 37 c30_36 rfl ?_
  refine y_putI 40 c30_37 rfl kf256_16 (y_fit0 _) ?_
  have hT120 := hT118.up 256 16 0 0 40 rfl (by omega)
  have hF121 := hF119.up 256 16 0 rfl
  exact y_retU c30_40 ⟨rfl, hT120, hF121, ⟨rfl, rfl, rfl, rfl, rfl, rfl, rfl, rfl⟩⟩
set_option maxRecDepth 100000 in
theorem t41_256 {L : Nat} {xs : Nat → Int32} {d nn : Nat} {m : yM} {v : Int} (hT : Ty gT m) (hv : -2147483648 ≤ v ∧ v < 2147483648) : YC (gZ L xs) (d + 1) 41 [.ref 256, yI v] m nn (qP m nn (fun r => -1 ≤ r ∧ r < m 256 9)) := by
  refine YC.mkB [some (.ref 256), some (yI v)] kn41 rfl rfl ?_
  refine y_aload 1 c41_0 rfl rfl rfl ?_
  refine y_getR 4 c41_1 rfl kf256_0 ?_
  refine y_aload 5 c41_4 rfl rfl rfl ?_
  refine y_getX 8 (m 256 9) c41_5 rfl kf256_9 rfl ?_
  have tb122 := hT.atp 256 9 0 6 rfl
  refine y_iload 9 c41_8 rfl rfl ?_
  refine y_callP 12 [.ref 257, yI (m 256 9), yI v] [] c41_9 rfl rfl rfl rfl rfl (ycanS km40) (t40 hT ka257 (fun _ => rfl) (by omega) (by decide) (by omega)) (fun r123 hr123 => ?_)
  exact y_retP c41_12 (y_fit0 _) (by omega)
set_option maxRecDepth 100000 in
theorem t46_256 {L : Nat} {xs : Nat → Int32} {d nn : Nat} {m : yM} {v : Int} (hT : Ty gT m) (hv : -2147483648 ≤ v ∧ v < 2147483648) : YC (gZ L xs) (d + 1) 46 [.ref 256, yI v] m nn (qP m nn (fun r => -1 ≤ r ∧ r < m 256 11)) := by
  refine YC.mkB [some (.ref 256), some (yI v)] kn46 rfl rfl ?_
  refine y_aload 1 c46_0 rfl rfl rfl ?_
  refine y_getR 4 c46_1 rfl kf256_3 ?_
  refine y_aload 5 c46_4 rfl rfl rfl ?_
  refine y_getX 8 (m 256 11) c46_5 rfl kf256_11 rfl ?_
  have tb124 := hT.atp 256 11 0 8 rfl
  refine y_iload 9 c46_8 rfl rfl ?_
  refine y_callP 12 [.ref 260, yI (m 256 11), yI v] [] c46_9 rfl rfl rfl rfl rfl (ycanS km40) (t40 hT ka260 (fun _ => rfl) (by omega) (by decide) (by omega)) (fun r125 hr125 => ?_)
  exact y_retP c46_12 (y_fit0 _) (by omega)
set_option maxRecDepth 100000 in
theorem t42_256 {L : Nat} {xs : Nat → Int32} {d nn : Nat} {m : yM} {v : Int} (hT : Ty gT m) (hv : -2147483648 ≤ v ∧ v < 2147483648) : YC (gZ L xs) (d + 2) 42 [.ref 256, yI v] m nn (qI (fun r m' n' => n' = nn ∧ Ty gT m' ∧ Fr wCl256 m m' ∧ ((r = 0 ∧ m' 256 9 = m 256 9) ∨ (r = 1 ∧ m' 256 9 = m 256 9 + 1)))) := by
  refine YC.mkB [some (.ref 256), some (yI v)] kn42 rfl rfl ?_
  have hF : Fr wCl256 m m := Fr.rf
  refine y_aload 1 c42_0 rfl rfl rfl ?_
  refine y_getX 4 (m 256 9) c42_1 rfl kf256_9 rfl ?_
  have tb126 := hT.atp 256 9 0 6 rfl
  refine y_iconst 6 c42_4 rfl ?_
  refine y_icmp 18 9 c42_6 rfl rfl (yc_eq (by omega) (by omega)) (fun hb127 => ?_) (fun hb127 => ?_)
  · refine y_iconst 19 c42_18 rfl ?_
    exact y_retI c42_19 (y_fit1 (by omega)) ⟨rfl, hT, hF, by omega⟩
  · refine y_aload 10 c42_9 rfl rfl rfl ?_
    refine y_iload 11 c42_10 rfl rfl ?_
    refine y_callP 14 [.ref 256, yI v] [] c42_11 rfl rfl rfl rfl rfl (ycanO km41 ko256) (t41_256 hT (by omega)) (fun r128 hr128 => ?_)
    refine y_iconst 15 c42_14 rfl ?_
    refine y_icmp 20 18 c42_15 rfl rfl (yc_eq (by omega) (by omega)) (fun hb129 => ?_) (fun hb129 => ?_)
    · refine y_aload 21 c42_20 rfl rfl rfl ?_
      refine y_getR 24 c42_21 rfl kf256_0 ?_
      refine y_aload 25 c42_24 rfl rfl rfl ?_
      refine y_getX 28 (m 256 9) c42_25 rfl kf256_9 rfl ?_
      refine y_iload 29 c42_28 rfl rfl ?_
      refine y_iastore 30 c42_29 rfl ka257 (by omega) (y_nar0 _) ?_
      have hT130 := hT.up 257 ((m 256 9).toNat) v ((-2147483648)) 2147483647 rfl (by omega)
      have hF131 := hF.up 257 ((m 256 9).toNat) v rfl
      refine y_aload 31 c42_30 rfl rfl rfl ?_
      refine y_getR 34 c42_31 rfl kf256_1 ?_
      refine y_aload 35 c42_34 rfl rfl rfl ?_
      refine y_getX 38 (m 256 9) c42_35 rfl kf256_9 rfl ?_
      refine y_iconst 39 c42_38 rfl ?_
      refine y_iastore 40 c42_39 rfl ka258 (by omega) (y_nar0 _) ?_
      have hT132 := hT130.up 258 ((m 256 9).toNat) ((-1)) ((-1)) 5 rfl (by omega)
      have hF133 := hF131.up 258 ((m 256 9).toNat) ((-1)) rfl
      refine y_aload 41 c42_40 rfl rfl rfl ?_
      refine y_getR 44 c42_41 rfl kf256_2 ?_
      refine y_aload 45 c42_44 rfl rfl rfl ?_
      refine y_getX 48 (m 256 9) c42_45 rfl kf256_9 rfl ?_
      refine y_iconst 49 c42_48 rfl ?_
      refine y_iastore 50 c42_49 rfl ka259 (by omega) (y_nar0 _) ?_
      have hT134 := hT132.up 259 ((m 256 9).toNat) 0 ((-2147483648)) 2147483647 rfl (by omega)
      have hF135 := hF133.up 259 ((m 256 9).toNat) 0 rfl
      refine y_aload 51 c42_50 rfl rfl rfl ?_
      refine y_dup 52 c42_51 rfl rfl ?_
      refine y_getX 55 (m 256 9) c42_52 rfl kf256_9 rfl ?_
      refine y_iconst 56 c42_55 rfl ?_
      refine y_iadd 57 c42_56 rfl ?_
      refine y_putI 60 c42_57 rfl kf256_9 (y_fit0 _) ?_
      have hT136 := hT134.up 256 9 ((m 256 9) + 1) 0 6 rfl (by omega)
      have hF137 := hF135.up 256 9 ((m 256 9) + 1) rfl
      refine y_iconst 61 c42_60 rfl ?_
      have es138 : (yup (yup (yup (yup m 257 ((m 256 9).toNat) v) 258 ((m 256 9).toNat) ((-1))) 259 ((m 256 9).toNat) 0) 256 9 ((m 256 9) + 1)) 256 9 = (m 256 9) + 1 := rfl
      exact y_retI c42_61 (y_fit1 (by omega)) ⟨rfl, hT136, hF137, by omega⟩
    · refine y_iconst 19 c42_18 rfl ?_
      exact y_retI c42_19 (y_fit1 (by omega)) ⟨rfl, hT, hF, by omega⟩
set_option maxRecDepth 100000 in
theorem t44_256 {L : Nat} {xs : Nat → Int32} {d nn : Nat} {m : yM} {v : Int} (hT : Ty gT m) (hv : -2147483648 ≤ v ∧ v < 2147483648) (hc : 1 ≤ m 256 9) : YC (gZ L xs) (d + 2) 44 [.ref 256, yI v] m nn (qI (fun r m' n' => n' = nn ∧ Ty gT m' ∧ Fr wCl256 m m' ∧ m' 256 9 = m 256 9 ∧ (r = 0 ∨ r = 1))) := by
  refine YC.mkB [some (.ref 256), some (yI v), none, none] kn44 rfl rfl ?_
  have hF : Fr wCl256 m m := Fr.rf
  refine y_aload 1 c44_0 rfl rfl rfl ?_
  refine y_getX 4 (m 256 9) c44_1 rfl kf256_9 rfl ?_
  have tb139 := hT.atp 256 9 0 6 rfl
  refine y_iconst 5 c44_4 rfl ?_
  refine y_isub 6 c44_5 rfl ?_
  refine y_istore 7 c44_6 rfl rfl ?_
  refine y_aload 8 c44_7 rfl rfl rfl ?_
  refine y_iload 9 c44_8 rfl rfl ?_
  refine y_callP 12 [.ref 256, yI v] [] c44_9 rfl rfl rfl rfl rfl (ycanO km41 ko256) (t41_256 hT (by omega)) (fun r140 hr140 => ?_)
  refine y_istore 13 c44_12 rfl rfl ?_
  refine y_iload 14 c44_13 rfl rfl ?_
  refine y_iconst 15 c44_14 rfl ?_
  refine y_icmp 23 18 c44_15 rfl rfl (yc_eq (by omega) (by omega)) (fun hb141 => ?_) (fun hb141 => ?_)
  · refine y_iconst 24 c44_23 rfl ?_
    exact y_retI c44_24 (y_fit1 (by omega)) ⟨rfl, hT, hF, by omega⟩
  · refine y_iload 19 c44_18 rfl rfl ?_
    refine y_iload 20 c44_19 rfl rfl ?_
    refine y_icmp 25 23 c44_20 rfl rfl (yc_ne (by omega) (by omega)) (fun hb142 => ?_) (fun hb142 => ?_)
    · refine y_aload 26 c44_25 rfl rfl rfl ?_
      refine y_getR 29 c44_26 rfl kf256_1 ?_
      refine y_iload 30 c44_29 rfl rfl ?_
      refine y_iload 31 c44_30 rfl rfl ?_
      refine y_iastore 32 c44_31 rfl ka258 (by omega) (y_nar0 _) ?_
      have hT143 := hT.up 258 (((m 256 9) - 1).toNat) r140 ((-1)) 5 rfl (by omega)
      have hF144 := hF.up 258 (((m 256 9) - 1).toNat) r140 rfl
      refine y_aload 33 c44_32 rfl rfl rfl ?_
      refine y_getR 36 c44_33 rfl kf256_2 ?_
      refine y_iload 37 c44_36 rfl rfl ?_
      refine y_aload 38 c44_37 rfl rfl rfl ?_
      refine y_getR 41 c44_38 rfl kf256_2 ?_
      refine y_iload 42 c44_41 rfl rfl ?_
      refine y_iaT 43 ((-2147483648)) 2147483647 c44_42 rfl ka259 (by omega) hT143 rfl (fun v145 hv145 gv145 => ?_)
      refine y_iastore 44 c44_43 rfl ka259 (by omega) (y_nar0 _) ?_
      have hT146 := hT143.up 259 (((m 256 9) - 1).toNat) v145 ((-2147483648)) 2147483647 rfl (by omega)
      have hF147 := hF144.up 259 (((m 256 9) - 1).toNat) v145 rfl
      refine y_iconst 45 c44_44 rfl ?_
      have es148 : (yup (yup m 258 (((m 256 9) - 1).toNat) r140) 259 (((m 256 9) - 1).toNat) v145) 256 9 = m 256 9 := rfl
      exact y_retI c44_45 (y_fit1 (by omega)) ⟨rfl, hT146, hF147, by omega⟩
    · refine y_iconst 24 c44_23 rfl ?_
      exact y_retI c44_24 (y_fit1 (by omega)) ⟨rfl, hT, hF, by omega⟩
set_option maxRecDepth 100000 in
theorem t47_256 {L : Nat} {xs : Nat → Int32} {d nn : Nat} {m : yM} {c f : Int} (hT : Ty gT m) (hc : 0 ≤ c ∧ c ≤ 5) (hf : -1 ≤ f ∧ f ≤ 11) : YC (gZ L xs) d 47 [.ref 256, yI c, yI f] m nn (qP m nn (fun r => (r = 0 ∨ r = 1) ∧ (r = 1 → f ≠ -1))) := by
  refine YC.mkB [some (.ref 256), some (yI c), some (yI f)] kn47 rfl rfl ?_
  refine y_iload 1 c47_0 rfl rfl ?_
  refine y_iconst 2 c47_1 rfl ?_
  refine y_icmp 23 5 c47_2 rfl rfl (yc_eq (by omega) (by omega)) (fun hb149 => ?_) (fun hb149 => ?_)
  · refine y_iconst 24 c47_23 rfl ?_
    exact y_retP c47_24 (y_fit1 (by omega)) (by omega)
  · refine y_aload 6 c47_5 rfl rfl rfl ?_
    refine y_getR 9 c47_6 rfl kf256_2 ?_
    refine y_iload 10 c47_9 rfl rfl ?_
    refine y_iaT 11 ((-2147483648)) 2147483647 c47_10 rfl ka259 (by omega) hT rfl (fun v150 hv150 gv150 => ?_)
    refine y_iload 12 c47_11 rfl rfl ?_
    refine y_ishr 13 c47_12 rfl ?_
    refine y_nam (fun b151 hb151 => ?_)
    have gb151 : -2147483648 ≤ b151 ∧ b151 < 2147483648 := by rw [hb151]; exact i32r _
    refine y_iconst 14 c47_13 rfl ?_
    refine y_iand 15 c47_14 rfl ?_
    refine y_nam (fun b152 hb152 => ?_)
    have gb152 : -2147483648 ≤ b152 ∧ b152 < 2147483648 := by rw [hb152]; exact i32r _
    refine y_iconst 16 c47_15 rfl ?_
    refine y_icmp 23 19 c47_16 rfl rfl (yc_ne (by omega) (by omega)) (fun hb153 => ?_) (fun hb153 => ?_)
    · refine y_iconst 24 c47_23 rfl ?_
      exact y_retP c47_24 (y_fit1 (by omega)) (by omega)
    · refine y_iconst 20 c47_19 rfl ?_
      refine y_goto 24 c47_20 rfl ?_
      exact y_retP c47_24 (y_fit1 (by omega)) (by omega)
set_option maxRecDepth 100000 in
theorem t48_256 {L : Nat} {xs : Nat → Int32} {d nn : Nat} {m : yM} {v : Int} (hT : Ty gT m) (hv : -2147483648 ≤ v ∧ v < 2147483648) (hc : 1 ≤ m 256 9) : YC (gZ L xs) (d + 2) 48 [.ref 256, yI v] m nn (qI (fun r m' n' => n' = nn ∧ Ty gT m' ∧ Fr wFi256 m m' ∧ (r = 0 ∨ r = 1))) := by
  refine YC.mkB [some (.ref 256), some (yI v), none, none] kn48 rfl rfl ?_
  have hF : Fr wFi256 m m := Fr.rf
  refine y_aload 1 c48_0 rfl rfl rfl ?_
  refine y_getX 4 (m 256 9) c48_1 rfl kf256_9 rfl ?_
  have tb154 := hT.atp 256 9 0 6 rfl
  refine y_iconst 5 c48_4 rfl ?_
  refine y_isub 6 c48_5 rfl ?_
  refine y_istore 7 c48_6 rfl rfl ?_
  refine y_aload 8 c48_7 rfl rfl rfl ?_
  refine y_iload 9 c48_8 rfl rfl ?_
  have tb155 := hT.atp 256 11 0 8 rfl
  refine y_callP 12 [.ref 256, yI v] [] c48_9 rfl rfl rfl rfl rfl (ycanO km46 ko256) (t46_256 hT (by omega)) (fun r156 hr156 => ?_)
  refine y_istore 13 c48_12 rfl rfl ?_
  refine y_iload 14 c48_13 rfl rfl ?_
  refine y_iconst 15 c48_14 rfl ?_
  refine y_icmp 54 18 c48_15 rfl rfl (yc_ne (by omega) (by omega)) (fun hb157 => ?_) (fun hb157 => ?_)
  · refine y_aload 55 c48_54 rfl rfl rfl ?_
    refine y_iload 56 c48_55 rfl rfl ?_
    refine y_iload 57 c48_56 rfl rfl ?_
    refine y_callP 60 [.ref 256, yI ((m 256 9) - 1), yI r156] [] c48_57 rfl rfl rfl rfl rfl (ycanO km47 ko256) (t47_256 hT (by omega) (by omega)) (fun r158 hr158 => ?_)
    refine y_if 65 63 c48_60 rfl rfl (yz_eq (by omega)) (fun hb159 => ?_) (fun hb159 => ?_)
    · refine y_aload 66 c48_65 rfl rfl rfl ?_
      refine y_getR 69 c48_66 rfl kf256_2 ?_
      refine y_iload 70 c48_69 rfl rfl ?_
      refine y_dup2 71 c48_70 rfl ⟨rfl, rfl⟩ ?_
      refine y_iaT 72 ((-2147483648)) 2147483647 c48_71 rfl ka259 (by omega) hT rfl (fun v160 hv160 gv160 => ?_)
      refine y_iconst 73 c48_72 rfl ?_
      refine y_iload 74 c48_73 rfl rfl ?_
      refine y_ishl 75 c48_74 rfl ?_
      refine y_nam (fun b161 hb161 => ?_)
      have gb161 : -2147483648 ≤ b161 ∧ b161 < 2147483648 := by rw [hb161]; exact i32r _
      refine y_ior 76 c48_75 rfl ?_
      refine y_nam (fun b162 hb162 => ?_)
      have gb162 : -2147483648 ≤ b162 ∧ b162 < 2147483648 := by rw [hb162]; exact i32r _
      refine y_iastore 77 c48_76 rfl ka259 (by omega) (y_nar0 _) ?_
      have hT163 := hT.up 259 (((m 256 9) - 1).toNat) b162 ((-2147483648)) 2147483647 rfl (by omega)
      have hF164 := hF.up 259 (((m 256 9) - 1).toNat) b162 rfl
      refine y_iconst 78 c48_77 rfl ?_
      exact y_retI c48_78 (y_fit1 (by omega)) ⟨rfl, hT163, hF164, by omega⟩
    · refine y_iconst 64 c48_63 rfl ?_
      exact y_retI c48_64 (y_fit1 (by omega)) ⟨rfl, hT, hF, by omega⟩
  · refine y_aload 19 c48_18 rfl rfl rfl ?_
    refine y_getX 22 (m 256 11) c48_19 rfl kf256_11 rfl ?_
    refine y_iconst 24 c48_22 rfl ?_
    refine y_icmp 29 27 c48_24 rfl rfl (yc_ne (by omega) (by omega)) (fun hb165 => ?_) (fun hb165 => ?_)
    · refine y_aload 30 c48_29 rfl rfl rfl ?_
      refine y_getX 33 (m 256 11) c48_30 rfl kf256_11 rfl ?_
      refine y_istore 34 c48_33 rfl rfl ?_
      refine y_aload 35 c48_34 rfl rfl rfl ?_
      refine y_getR 38 c48_35 rfl kf256_3 ?_
      refine y_aload 39 c48_38 rfl rfl rfl ?_
      refine y_getX 42 (m 256 11) c48_39 rfl kf256_11 rfl ?_
      refine y_iload 43 c48_42 rfl rfl ?_
      refine y_iastore 44 c48_43 rfl ka260 (by omega) (y_nar0 _) ?_
      have hT166 := hT.up 260 ((m 256 11).toNat) v ((-2147483648)) 2147483647 rfl (by omega)
      have hF167 := hF.up 260 ((m 256 11).toNat) v rfl
      refine y_aload 45 c48_44 rfl rfl rfl ?_
      refine y_dup 46 c48_45 rfl rfl ?_
      refine y_getX 49 (m 256 11) c48_46 rfl kf256_11 rfl ?_
      refine y_iconst 50 c48_49 rfl ?_
      refine y_iadd 51 c48_50 rfl ?_
      refine y_putI 54 c48_51 rfl kf256_11 (y_fit0 _) ?_
      have hT168 := hT166.up 256 11 ((m 256 11) + 1) 0 8 rfl (by omega)
      have hF169 := hF167.up 256 11 ((m 256 11) + 1) rfl
      refine y_aload 55 c48_54 rfl rfl rfl ?_
      refine y_iload 56 c48_55 rfl rfl ?_
      refine y_iload 57 c48_56 rfl rfl ?_
      refine y_callP 60 [.ref 256, yI ((m 256 9) - 1), yI (m 256 11)] [] c48_57 rfl rfl rfl rfl rfl (ycanO km47 ko256) (t47_256 hT168 (by omega) (by omega)) (fun r170 hr170 => ?_)
      refine y_if 65 63 c48_60 rfl rfl (yz_eq (by omega)) (fun hb171 => ?_) (fun hb171 => ?_)
      · refine y_aload 66 c48_65 rfl rfl rfl ?_
        refine y_getR 69 c48_66 rfl kf256_2 ?_
        refine y_iload 70 c48_69 rfl rfl ?_
        refine y_dup2 71 c48_70 rfl ⟨rfl, rfl⟩ ?_
        refine y_iaT 72 ((-2147483648)) 2147483647 c48_71 rfl ka259 (by omega) hT168 rfl (fun v172 hv172 gv172 => ?_)
        refine y_iconst 73 c48_72 rfl ?_
        refine y_iload 74 c48_73 rfl rfl ?_
        refine y_ishl 75 c48_74 rfl ?_
        refine y_nam (fun b173 hb173 => ?_)
        have gb173 : -2147483648 ≤ b173 ∧ b173 < 2147483648 := by rw [hb173]; exact i32r _
        refine y_ior 76 c48_75 rfl ?_
        refine y_nam (fun b174 hb174 => ?_)
        have gb174 : -2147483648 ≤ b174 ∧ b174 < 2147483648 := by rw [hb174]; exact i32r _
        refine y_iastore 77 c48_76 rfl ka259 (by omega) (y_nar0 _) ?_
        have hT175 := hT168.up 259 (((m 256 9) - 1).toNat) b174 ((-2147483648)) 2147483647 rfl (by omega)
        have hF176 := hF169.up 259 (((m 256 9) - 1).toNat) b174 rfl
        refine y_iconst 78 c48_77 rfl ?_
        exact y_retI c48_78 (y_fit1 (by omega)) ⟨rfl, hT175, hF176, by omega⟩
      · refine y_iconst 64 c48_63 rfl ?_
        exact y_retI c48_64 (y_fit1 (by omega)) ⟨rfl, hT168, hF169, by omega⟩
    · refine y_iconst 28 c48_27 rfl ?_
      exact y_retI c48_28 (y_fit1 (by omega)) ⟨rfl, hT, hF, by omega⟩
set_option maxRecDepth 100000 in
theorem t50a_256 {L : Nat} {xs : Nat → Int32} {d nn : Nat} {m : yM} {c v : Int} (hT : Ty gT m) (hc : -2147483648 ≤ c ∧ c < 2147483648) (hv : -2147483648 ≤ v ∧ v < 2147483648) : ∀ (k : Nat) (i : Int), m 256 10 - i = k → 0 ≤ i ∧ i ≤ m 256 10 → YW (gZ L xs) 50 d 2 [some (.ref 256), some (yI c), some (yI v), some (yI i)] [] m nn (qP m nn (fun r => -1 ≤ r ∧ r < m 256 10)) := by
  intro k
  induction k using Nat.strongRecOn with
  | ind k ih =>
    intro i hk hi
    have tb := hT.atp 256 10 0 10 rfl
    refine y_iload 3 c50_2 rfl rfl ?_
    refine y_aload 4 c50_3 rfl rfl rfl ?_
    refine y_getX 7 (m 256 10) c50_4 rfl kf256_10 rfl ?_
    refine y_icmp 44 10 c50_7 rfl rfl (yc_ge (by omega) (by omega)) (fun hb177 => ?_) (fun hb177 => ?_)
    · refine y_iconst 45 c50_44 rfl ?_
      exact y_retP c50_45 (y_fit0 _) (by omega)
    · refine y_aload 11 c50_10 rfl rfl rfl ?_
      refine y_getR 14 c50_11 rfl kf256_5 ?_
      refine y_iload 15 c50_14 rfl rfl ?_
      refine y_aaload 16 c50_15 rfl kr262 (by omega) ?_
      refine y_getT 19 0 5 c50_16 rfl (ff266_1 (by omega)) hT (ft266_1 (by omega)) (fun v178 hv178 gv178 => ?_)
      refine y_iload 20 c50_19 rfl rfl ?_
      refine y_icmp 38 23 c50_20 rfl rfl (yc_ne (by omega) (by omega)) (fun hb179 => ?_) (fun hb179 => ?_)
      · refine y_iinc 41 c50_38 rfl rfl rfl ?_
        refine y_goto 2 c50_41 rfl ?_
        exact ih (m 256 10 - (i + 1) : Int).toNat (by omega) (i + 1)   (by omega) (by omega)
      · refine y_aload 24 c50_23 rfl rfl rfl ?_
        refine y_getR 27 c50_24 rfl kf256_5 ?_
        refine y_iload 28 c50_27 rfl rfl ?_
        refine y_aaload 29 c50_28 rfl kr262 (by omega) ?_
        refine y_getT 32 ((-2147483648)) 2147483647 c50_29 rfl (ff266_0 (by omega)) hT (ft266_0 (by omega)) (fun v180 hv180 gv180 => ?_)
        refine y_iload 33 c50_32 rfl rfl ?_
        refine y_icmp 38 36 c50_33 rfl rfl (yc_ne (by omega) (by omega)) (fun hb181 => ?_) (fun hb181 => ?_)
        · refine y_iinc 41 c50_38 rfl rfl rfl ?_
          refine y_goto 2 c50_41 rfl ?_
          exact ih (m 256 10 - (i + 1) : Int).toNat (by omega) (i + 1)   (by omega) (by omega)
        · refine y_iload 37 c50_36 rfl rfl ?_
          exact y_retP c50_37 (y_fit0 _) (by omega)
set_option maxRecDepth 100000 in
theorem t50_256 {L : Nat} {xs : Nat → Int32} {d nn : Nat} {m : yM} {c v : Int} (hT : Ty gT m) (hc : -2147483648 ≤ c ∧ c < 2147483648) (hv : -2147483648 ≤ v ∧ v < 2147483648) : YC (gZ L xs) d 50 [.ref 256, yI c, yI v] m nn (qP m nn (fun r => -1 ≤ r ∧ r < m 256 10)) := by
  refine YC.mkB [some (.ref 256), some (yI c), some (yI v), none] kn50 rfl rfl ?_
  refine y_iconst 1 c50_0 rfl ?_
  refine y_istore 2 c50_1 rfl rfl ?_
  have tb := hT.atp 256 10 0 10 rfl
  exact t50a_256 hT hc hv (m 256 10 - 0 : Int).toNat 0   (by omega) (by omega)
def wPa316 (a q : Nat) : Bool := (a == 2 && (q == 2 || q == 3 || q == 4)) || decide (316 ≤ a ∧ a < 376)
theorem wPa316_m {k q : Nat} (h : k < 10) : wPa316 (326 + k) q = true := by
  simp [wPa316]
  omega
theorem wPa316_s {k q : Nat} (h : k < 40) : wPa316 (336 + k) q = true := by
  simp [wPa316]
  omega
def wCl316 (a q : Nat) : Bool := (a == 316 && q == 9) || a == 317 || a == 318 || a == 319
theorem wCl316_P : ∀ a q, wCl316 a q = true → wPa316 a q = true := by
  intro a q h
  simp [wCl316] at h
  simp [wPa316]
  omega
def wFi316 (a q : Nat) : Bool := (a == 316 && q == 11) || a == 320 || a == 319
theorem wFi316_P : ∀ a q, wFi316 a q = true → wPa316 a q = true := by
  intro a q h
  simp [wFi316] at h
  simp [wPa316]
  omega
def wVa316 (a q : Nat) : Bool := (a == 316 && q == 15) || a == 321
theorem wVa316_P : ∀ a q, wVa316 a q = true → wPa316 a q = true := by
  intro a q h
  simp [wVa316] at h
  simp [wPa316]
  omega
def wMe316 (a q : Nat) : Bool := (a == 316 && (q == 10 || q == 15)) || a == 321 || decide (326 ≤ a ∧ a < 336)
theorem wMe316_326 {k q : Nat} (h : k < 10) : wMe316 (326 + k) q = true := by
  simp [wMe316]
  omega
theorem wMe316_P : ∀ a q, wMe316 a q = true → wPa316 a q = true := by
  intro a q h
  simp [wMe316] at h
  simp [wPa316]
  omega
def wCn316 (a q : Nat) : Bool := a == 316 && (decide (9 ≤ q) && decide (q ≤ 16))
theorem wCn316_P : ∀ a q, wCn316 a q = true → wPa316 a q = true := by
  intro a q h
  simp [wCn316] at h
  simp [wPa316]
  omega
set_option maxRecDepth 100000 in
theorem t30_316 {L : Nat} {xs : Nat → Int32} {d nn : Nat} {m : yM} (hT : Ty gT m) : YC (gZ L xs) d 30 [.ref 316] m nn (qU (fun m' n' => n' = nn ∧ Ty gT m' ∧ Fr wCn316 m m' ∧ m' 316 9 = 0 ∧ m' 316 10 = 0 ∧ m' 316 11 = 0 ∧ m' 316 12 = 0 ∧ m' 316 13 = 0 ∧ m' 316 14 = 1 ∧ m' 316 15 = 0 ∧ m' 316 16 = 0)) := by
  refine YC.mkB [some (.ref 316)] kn30 rfl rfl ?_
  have hF : Fr wCn316 m m := Fr.rf
  refine y_aload 1 c30_0 rfl rfl rfl ?_
  refine y_iconst 2 c30_1 rfl ?_
  refine y_putI 5 c30_2 rfl kf316_9 (y_fit0 _) ?_
  have hT182 := hT.up 316 9 0 0 6 rfl (by omega)
  have hF183 := hF.up 316 9 0 rfl
  refine y_aload 6 c30_5 rfl rfl rfl ?_
  refine y_iconst 7 c30_6 rfl ?_
  refine y_putI 10 c30_7 rfl kf316_10 (y_fit0 _) ?_
  have hT184 := hT182.up 316 10 0 0 10 rfl (by omega)
  have hF185 := hF183.up 316 10 0 rfl
  refine y_aload 11 c30_10 rfl rfl rfl ?_
  refine y_iconst 12 c30_11 rfl ?_
  refine y_putI 15 c30_12 rfl kf316_11 (y_fit0 _) ?_
  have hT186 := hT184.up 316 11 0 0 8 rfl (by omega)
  have hF187 := hF185.up 316 11 0 rfl
  refine y_aload 16 c30_15 rfl rfl rfl ?_
  refine y_iconst 17 c30_16 rfl ?_
  refine y_putI 20 c30_17 rfl kf316_12 (y_fit0 _) ?_
  have hT188 := hT186.up 316 12 0 0 12 rfl (by omega)
  have hF189 := hF187.up 316 12 0 rfl
  refine y_aload 21 c30_20 rfl rfl rfl ?_
  refine y_iconst 22 c30_21 rfl ?_
  refine y_putI 25 c30_22 rfl kf316_13 (y_fit0 _) ?_
  have hT190 := hT188.up 316 13 0 0 8 rfl (by omega)
  have hF191 := hF189.up 316 13 0 rfl
  refine y_aload 26 c30_25 rfl rfl rfl ?_
  refine y_iconst 27 c30_26 rfl ?_
  refine y_putI 30 c30_27 rfl kf316_14 (y_fit0 _) ?_
  have hT192 := hT190.up 316 14 1 0 12 rfl (by omega)
  have hF193 := hF191.up 316 14 1 rfl
  refine y_aload 31 c30_30 rfl rfl rfl ?_
  refine y_iconst 32 c30_31 rfl ?_
  refine y_putI 35 c30_32 rfl kf316_15 (y_fit0 _) ?_
  have hT194 := hT192.up 316 15 0 0 48 rfl (by omega)
  have hF195 := hF193.up 316 15 0 rfl
  refine y_aload 36 c30_35 rfl rfl rfl ?_
  refine y_iconst 37 c30_36 rfl ?_
  refine y_putI 40 c30_37 rfl kf316_16 (y_fit0 _) ?_
  have hT196 := hT194.up 316 16 0 0 40 rfl (by omega)
  have hF197 := hF195.up 316 16 0 rfl
  exact y_retU c30_40 ⟨rfl, hT196, hF197, ⟨rfl, rfl, rfl, rfl, rfl, rfl, rfl, rfl⟩⟩
set_option maxRecDepth 100000 in
theorem t41_316 {L : Nat} {xs : Nat → Int32} {d nn : Nat} {m : yM} {v : Int} (hT : Ty gT m) (hv : -2147483648 ≤ v ∧ v < 2147483648) : YC (gZ L xs) (d + 1) 41 [.ref 316, yI v] m nn (qP m nn (fun r => -1 ≤ r ∧ r < m 316 9)) := by
  refine YC.mkB [some (.ref 316), some (yI v)] kn41 rfl rfl ?_
  refine y_aload 1 c41_0 rfl rfl rfl ?_
  refine y_getR 4 c41_1 rfl kf316_0 ?_
  refine y_aload 5 c41_4 rfl rfl rfl ?_
  refine y_getX 8 (m 316 9) c41_5 rfl kf316_9 rfl ?_
  have tb198 := hT.atp 316 9 0 6 rfl
  refine y_iload 9 c41_8 rfl rfl ?_
  refine y_callP 12 [.ref 317, yI (m 316 9), yI v] [] c41_9 rfl rfl rfl rfl rfl (ycanS km40) (t40 hT ka317 (fun _ => rfl) (by omega) (by decide) (by omega)) (fun r199 hr199 => ?_)
  exact y_retP c41_12 (y_fit0 _) (by omega)
set_option maxRecDepth 100000 in
theorem t46_316 {L : Nat} {xs : Nat → Int32} {d nn : Nat} {m : yM} {v : Int} (hT : Ty gT m) (hv : -2147483648 ≤ v ∧ v < 2147483648) : YC (gZ L xs) (d + 1) 46 [.ref 316, yI v] m nn (qP m nn (fun r => -1 ≤ r ∧ r < m 316 11)) := by
  refine YC.mkB [some (.ref 316), some (yI v)] kn46 rfl rfl ?_
  refine y_aload 1 c46_0 rfl rfl rfl ?_
  refine y_getR 4 c46_1 rfl kf316_3 ?_
  refine y_aload 5 c46_4 rfl rfl rfl ?_
  refine y_getX 8 (m 316 11) c46_5 rfl kf316_11 rfl ?_
  have tb200 := hT.atp 316 11 0 8 rfl
  refine y_iload 9 c46_8 rfl rfl ?_
  refine y_callP 12 [.ref 320, yI (m 316 11), yI v] [] c46_9 rfl rfl rfl rfl rfl (ycanS km40) (t40 hT ka320 (fun _ => rfl) (by omega) (by decide) (by omega)) (fun r201 hr201 => ?_)
  exact y_retP c46_12 (y_fit0 _) (by omega)
set_option maxRecDepth 100000 in
theorem t42_316 {L : Nat} {xs : Nat → Int32} {d nn : Nat} {m : yM} {v : Int} (hT : Ty gT m) (hv : -2147483648 ≤ v ∧ v < 2147483648) : YC (gZ L xs) (d + 2) 42 [.ref 316, yI v] m nn (qI (fun r m' n' => n' = nn ∧ Ty gT m' ∧ Fr wCl316 m m' ∧ ((r = 0 ∧ m' 316 9 = m 316 9) ∨ (r = 1 ∧ m' 316 9 = m 316 9 + 1)))) := by
  refine YC.mkB [some (.ref 316), some (yI v)] kn42 rfl rfl ?_
  have hF : Fr wCl316 m m := Fr.rf
  refine y_aload 1 c42_0 rfl rfl rfl ?_
  refine y_getX 4 (m 316 9) c42_1 rfl kf316_9 rfl ?_
  have tb202 := hT.atp 316 9 0 6 rfl
  refine y_iconst 6 c42_4 rfl ?_
  refine y_icmp 18 9 c42_6 rfl rfl (yc_eq (by omega) (by omega)) (fun hb203 => ?_) (fun hb203 => ?_)
  · refine y_iconst 19 c42_18 rfl ?_
    exact y_retI c42_19 (y_fit1 (by omega)) ⟨rfl, hT, hF, by omega⟩
  · refine y_aload 10 c42_9 rfl rfl rfl ?_
    refine y_iload 11 c42_10 rfl rfl ?_
    refine y_callP 14 [.ref 316, yI v] [] c42_11 rfl rfl rfl rfl rfl (ycanO km41 ko316) (t41_316 hT (by omega)) (fun r204 hr204 => ?_)
    refine y_iconst 15 c42_14 rfl ?_
    refine y_icmp 20 18 c42_15 rfl rfl (yc_eq (by omega) (by omega)) (fun hb205 => ?_) (fun hb205 => ?_)
    · refine y_aload 21 c42_20 rfl rfl rfl ?_
      refine y_getR 24 c42_21 rfl kf316_0 ?_
      refine y_aload 25 c42_24 rfl rfl rfl ?_
      refine y_getX 28 (m 316 9) c42_25 rfl kf316_9 rfl ?_
      refine y_iload 29 c42_28 rfl rfl ?_
      refine y_iastore 30 c42_29 rfl ka317 (by omega) (y_nar0 _) ?_
      have hT206 := hT.up 317 ((m 316 9).toNat) v ((-2147483648)) 2147483647 rfl (by omega)
      have hF207 := hF.up 317 ((m 316 9).toNat) v rfl
      refine y_aload 31 c42_30 rfl rfl rfl ?_
      refine y_getR 34 c42_31 rfl kf316_1 ?_
      refine y_aload 35 c42_34 rfl rfl rfl ?_
      refine y_getX 38 (m 316 9) c42_35 rfl kf316_9 rfl ?_
      refine y_iconst 39 c42_38 rfl ?_
      refine y_iastore 40 c42_39 rfl ka318 (by omega) (y_nar0 _) ?_
      have hT208 := hT206.up 318 ((m 316 9).toNat) ((-1)) ((-1)) 5 rfl (by omega)
      have hF209 := hF207.up 318 ((m 316 9).toNat) ((-1)) rfl
      refine y_aload 41 c42_40 rfl rfl rfl ?_
      refine y_getR 44 c42_41 rfl kf316_2 ?_
      refine y_aload 45 c42_44 rfl rfl rfl ?_
      refine y_getX 48 (m 316 9) c42_45 rfl kf316_9 rfl ?_
      refine y_iconst 49 c42_48 rfl ?_
      refine y_iastore 50 c42_49 rfl ka319 (by omega) (y_nar0 _) ?_
      have hT210 := hT208.up 319 ((m 316 9).toNat) 0 ((-2147483648)) 2147483647 rfl (by omega)
      have hF211 := hF209.up 319 ((m 316 9).toNat) 0 rfl
      refine y_aload 51 c42_50 rfl rfl rfl ?_
      refine y_dup 52 c42_51 rfl rfl ?_
      refine y_getX 55 (m 316 9) c42_52 rfl kf316_9 rfl ?_
      refine y_iconst 56 c42_55 rfl ?_
      refine y_iadd 57 c42_56 rfl ?_
      refine y_putI 60 c42_57 rfl kf316_9 (y_fit0 _) ?_
      have hT212 := hT210.up 316 9 ((m 316 9) + 1) 0 6 rfl (by omega)
      have hF213 := hF211.up 316 9 ((m 316 9) + 1) rfl
      refine y_iconst 61 c42_60 rfl ?_
      have es214 : (yup (yup (yup (yup m 317 ((m 316 9).toNat) v) 318 ((m 316 9).toNat) ((-1))) 319 ((m 316 9).toNat) 0) 316 9 ((m 316 9) + 1)) 316 9 = (m 316 9) + 1 := rfl
      exact y_retI c42_61 (y_fit1 (by omega)) ⟨rfl, hT212, hF213, by omega⟩
    · refine y_iconst 19 c42_18 rfl ?_
      exact y_retI c42_19 (y_fit1 (by omega)) ⟨rfl, hT, hF, by omega⟩
set_option maxRecDepth 100000 in
theorem t44_316 {L : Nat} {xs : Nat → Int32} {d nn : Nat} {m : yM} {v : Int} (hT : Ty gT m) (hv : -2147483648 ≤ v ∧ v < 2147483648) (hc : 1 ≤ m 316 9) : YC (gZ L xs) (d + 2) 44 [.ref 316, yI v] m nn (qI (fun r m' n' => n' = nn ∧ Ty gT m' ∧ Fr wCl316 m m' ∧ m' 316 9 = m 316 9 ∧ (r = 0 ∨ r = 1))) := by
  refine YC.mkB [some (.ref 316), some (yI v), none, none] kn44 rfl rfl ?_
  have hF : Fr wCl316 m m := Fr.rf
  refine y_aload 1 c44_0 rfl rfl rfl ?_
  refine y_getX 4 (m 316 9) c44_1 rfl kf316_9 rfl ?_
  have tb215 := hT.atp 316 9 0 6 rfl
  refine y_iconst 5 c44_4 rfl ?_
  refine y_isub 6 c44_5 rfl ?_
  refine y_istore 7 c44_6 rfl rfl ?_
  refine y_aload 8 c44_7 rfl rfl rfl ?_
  refine y_iload 9 c44_8 rfl rfl ?_
  refine y_callP 12 [.ref 316, yI v] [] c44_9 rfl rfl rfl rfl rfl (ycanO km41 ko316) (t41_316 hT (by omega)) (fun r216 hr216 => ?_)
  refine y_istore 13 c44_12 rfl rfl ?_
  refine y_iload 14 c44_13 rfl rfl ?_
  refine y_iconst 15 c44_14 rfl ?_
  refine y_icmp 23 18 c44_15 rfl rfl (yc_eq (by omega) (by omega)) (fun hb217 => ?_) (fun hb217 => ?_)
  · refine y_iconst 24 c44_23 rfl ?_
    exact y_retI c44_24 (y_fit1 (by omega)) ⟨rfl, hT, hF, by omega⟩
  · refine y_iload 19 c44_18 rfl rfl ?_
    refine y_iload 20 c44_19 rfl rfl ?_
    refine y_icmp 25 23 c44_20 rfl rfl (yc_ne (by omega) (by omega)) (fun hb218 => ?_) (fun hb218 => ?_)
    · refine y_aload 26 c44_25 rfl rfl rfl ?_
      refine y_getR 29 c44_26 rfl kf316_1 ?_
      refine y_iload 30 c44_29 rfl rfl ?_
      refine y_iload 31 c44_30 rfl rfl ?_
      refine y_iastore 32 c44_31 rfl ka318 (by omega) (y_nar0 _) ?_
      have hT219 := hT.up 318 (((m 316 9) - 1).toNat) r216 ((-1)) 5 rfl (by omega)
      have hF220 := hF.up 318 (((m 316 9) - 1).toNat) r216 rfl
      refine y_aload 33 c44_32 rfl rfl rfl ?_
      refine y_getR 36 c44_33 rfl kf316_2 ?_
      refine y_iload 37 c44_36 rfl rfl ?_
      refine y_aload 38 c44_37 rfl rfl rfl ?_
      refine y_getR 41 c44_38 rfl kf316_2 ?_
      refine y_iload 42 c44_41 rfl rfl ?_
      refine y_iaT 43 ((-2147483648)) 2147483647 c44_42 rfl ka319 (by omega) hT219 rfl (fun v221 hv221 gv221 => ?_)
      refine y_iastore 44 c44_43 rfl ka319 (by omega) (y_nar0 _) ?_
      have hT222 := hT219.up 319 (((m 316 9) - 1).toNat) v221 ((-2147483648)) 2147483647 rfl (by omega)
      have hF223 := hF220.up 319 (((m 316 9) - 1).toNat) v221 rfl
      refine y_iconst 45 c44_44 rfl ?_
      have es224 : (yup (yup m 318 (((m 316 9) - 1).toNat) r216) 319 (((m 316 9) - 1).toNat) v221) 316 9 = m 316 9 := rfl
      exact y_retI c44_45 (y_fit1 (by omega)) ⟨rfl, hT222, hF223, by omega⟩
    · refine y_iconst 24 c44_23 rfl ?_
      exact y_retI c44_24 (y_fit1 (by omega)) ⟨rfl, hT, hF, by omega⟩
set_option maxRecDepth 100000 in
theorem t47_316 {L : Nat} {xs : Nat → Int32} {d nn : Nat} {m : yM} {c f : Int} (hT : Ty gT m) (hc : 0 ≤ c ∧ c ≤ 5) (hf : -1 ≤ f ∧ f ≤ 11) : YC (gZ L xs) d 47 [.ref 316, yI c, yI f] m nn (qP m nn (fun r => (r = 0 ∨ r = 1) ∧ (r = 1 → f ≠ -1))) := by
  refine YC.mkB [some (.ref 316), some (yI c), some (yI f)] kn47 rfl rfl ?_
  refine y_iload 1 c47_0 rfl rfl ?_
  refine y_iconst 2 c47_1 rfl ?_
  refine y_icmp 23 5 c47_2 rfl rfl (yc_eq (by omega) (by omega)) (fun hb225 => ?_) (fun hb225 => ?_)
  · refine y_iconst 24 c47_23 rfl ?_
    exact y_retP c47_24 (y_fit1 (by omega)) (by omega)
  · refine y_aload 6 c47_5 rfl rfl rfl ?_
    refine y_getR 9 c47_6 rfl kf316_2 ?_
    refine y_iload 10 c47_9 rfl rfl ?_
    refine y_iaT 11 ((-2147483648)) 2147483647 c47_10 rfl ka319 (by omega) hT rfl (fun v226 hv226 gv226 => ?_)
    refine y_iload 12 c47_11 rfl rfl ?_
    refine y_ishr 13 c47_12 rfl ?_
    refine y_nam (fun b227 hb227 => ?_)
    have gb227 : -2147483648 ≤ b227 ∧ b227 < 2147483648 := by rw [hb227]; exact i32r _
    refine y_iconst 14 c47_13 rfl ?_
    refine y_iand 15 c47_14 rfl ?_
    refine y_nam (fun b228 hb228 => ?_)
    have gb228 : -2147483648 ≤ b228 ∧ b228 < 2147483648 := by rw [hb228]; exact i32r _
    refine y_iconst 16 c47_15 rfl ?_
    refine y_icmp 23 19 c47_16 rfl rfl (yc_ne (by omega) (by omega)) (fun hb229 => ?_) (fun hb229 => ?_)
    · refine y_iconst 24 c47_23 rfl ?_
      exact y_retP c47_24 (y_fit1 (by omega)) (by omega)
    · refine y_iconst 20 c47_19 rfl ?_
      refine y_goto 24 c47_20 rfl ?_
      exact y_retP c47_24 (y_fit1 (by omega)) (by omega)
set_option maxRecDepth 100000 in
theorem t48_316 {L : Nat} {xs : Nat → Int32} {d nn : Nat} {m : yM} {v : Int} (hT : Ty gT m) (hv : -2147483648 ≤ v ∧ v < 2147483648) (hc : 1 ≤ m 316 9) : YC (gZ L xs) (d + 2) 48 [.ref 316, yI v] m nn (qI (fun r m' n' => n' = nn ∧ Ty gT m' ∧ Fr wFi316 m m' ∧ (r = 0 ∨ r = 1))) := by
  refine YC.mkB [some (.ref 316), some (yI v), none, none] kn48 rfl rfl ?_
  have hF : Fr wFi316 m m := Fr.rf
  refine y_aload 1 c48_0 rfl rfl rfl ?_
  refine y_getX 4 (m 316 9) c48_1 rfl kf316_9 rfl ?_
  have tb230 := hT.atp 316 9 0 6 rfl
  refine y_iconst 5 c48_4 rfl ?_
  refine y_isub 6 c48_5 rfl ?_
  refine y_istore 7 c48_6 rfl rfl ?_
  refine y_aload 8 c48_7 rfl rfl rfl ?_
  refine y_iload 9 c48_8 rfl rfl ?_
  have tb231 := hT.atp 316 11 0 8 rfl
  refine y_callP 12 [.ref 316, yI v] [] c48_9 rfl rfl rfl rfl rfl (ycanO km46 ko316) (t46_316 hT (by omega)) (fun r232 hr232 => ?_)
  refine y_istore 13 c48_12 rfl rfl ?_
  refine y_iload 14 c48_13 rfl rfl ?_
  refine y_iconst 15 c48_14 rfl ?_
  refine y_icmp 54 18 c48_15 rfl rfl (yc_ne (by omega) (by omega)) (fun hb233 => ?_) (fun hb233 => ?_)
  · refine y_aload 55 c48_54 rfl rfl rfl ?_
    refine y_iload 56 c48_55 rfl rfl ?_
    refine y_iload 57 c48_56 rfl rfl ?_
    refine y_callP 60 [.ref 316, yI ((m 316 9) - 1), yI r232] [] c48_57 rfl rfl rfl rfl rfl (ycanO km47 ko316) (t47_316 hT (by omega) (by omega)) (fun r234 hr234 => ?_)
    refine y_if 65 63 c48_60 rfl rfl (yz_eq (by omega)) (fun hb235 => ?_) (fun hb235 => ?_)
    · refine y_aload 66 c48_65 rfl rfl rfl ?_
      refine y_getR 69 c48_66 rfl kf316_2 ?_
      refine y_iload 70 c48_69 rfl rfl ?_
      refine y_dup2 71 c48_70 rfl ⟨rfl, rfl⟩ ?_
      refine y_iaT 72 ((-2147483648)) 2147483647 c48_71 rfl ka319 (by omega) hT rfl (fun v236 hv236 gv236 => ?_)
      refine y_iconst 73 c48_72 rfl ?_
      refine y_iload 74 c48_73 rfl rfl ?_
      refine y_ishl 75 c48_74 rfl ?_
      refine y_nam (fun b237 hb237 => ?_)
      have gb237 : -2147483648 ≤ b237 ∧ b237 < 2147483648 := by rw [hb237]; exact i32r _
      refine y_ior 76 c48_75 rfl ?_
      refine y_nam (fun b238 hb238 => ?_)
      have gb238 : -2147483648 ≤ b238 ∧ b238 < 2147483648 := by rw [hb238]; exact i32r _
      refine y_iastore 77 c48_76 rfl ka319 (by omega) (y_nar0 _) ?_
      have hT239 := hT.up 319 (((m 316 9) - 1).toNat) b238 ((-2147483648)) 2147483647 rfl (by omega)
      have hF240 := hF.up 319 (((m 316 9) - 1).toNat) b238 rfl
      refine y_iconst 78 c48_77 rfl ?_
      exact y_retI c48_78 (y_fit1 (by omega)) ⟨rfl, hT239, hF240, by omega⟩
    · refine y_iconst 64 c48_63 rfl ?_
      exact y_retI c48_64 (y_fit1 (by omega)) ⟨rfl, hT, hF, by omega⟩
  · refine y_aload 19 c48_18 rfl rfl rfl ?_
    refine y_getX 22 (m 316 11) c48_19 rfl kf316_11 rfl ?_
    refine y_iconst 24 c48_22 rfl ?_
    refine y_icmp 29 27 c48_24 rfl rfl (yc_ne (by omega) (by omega)) (fun hb241 => ?_) (fun hb241 => ?_)
    · refine y_aload 30 c48_29 rfl rfl rfl ?_
      refine y_getX 33 (m 316 11) c48_30 rfl kf316_11 rfl ?_
      refine y_istore 34 c48_33 rfl rfl ?_
      refine y_aload 35 c48_34 rfl rfl rfl ?_
      refine y_getR 38 c48_35 rfl kf316_3 ?_
      refine y_aload 39 c48_38 rfl rfl rfl ?_
      refine y_getX 42 (m 316 11) c48_39 rfl kf316_11 rfl ?_
      refine y_iload 43 c48_42 rfl rfl ?_
      refine y_iastore 44 c48_43 rfl ka320 (by omega) (y_nar0 _) ?_
      have hT242 := hT.up 320 ((m 316 11).toNat) v ((-2147483648)) 2147483647 rfl (by omega)
      have hF243 := hF.up 320 ((m 316 11).toNat) v rfl
      refine y_aload 45 c48_44 rfl rfl rfl ?_
      refine y_dup 46 c48_45 rfl rfl ?_
      refine y_getX 49 (m 316 11) c48_46 rfl kf316_11 rfl ?_
      refine y_iconst 50 c48_49 rfl ?_
      refine y_iadd 51 c48_50 rfl ?_
      refine y_putI 54 c48_51 rfl kf316_11 (y_fit0 _) ?_
      have hT244 := hT242.up 316 11 ((m 316 11) + 1) 0 8 rfl (by omega)
      have hF245 := hF243.up 316 11 ((m 316 11) + 1) rfl
      refine y_aload 55 c48_54 rfl rfl rfl ?_
      refine y_iload 56 c48_55 rfl rfl ?_
      refine y_iload 57 c48_56 rfl rfl ?_
      refine y_callP 60 [.ref 316, yI ((m 316 9) - 1), yI (m 316 11)] [] c48_57 rfl rfl rfl rfl rfl (ycanO km47 ko316) (t47_316 hT244 (by omega) (by omega)) (fun r246 hr246 => ?_)
      refine y_if 65 63 c48_60 rfl rfl (yz_eq (by omega)) (fun hb247 => ?_) (fun hb247 => ?_)
      · refine y_aload 66 c48_65 rfl rfl rfl ?_
        refine y_getR 69 c48_66 rfl kf316_2 ?_
        refine y_iload 70 c48_69 rfl rfl ?_
        refine y_dup2 71 c48_70 rfl ⟨rfl, rfl⟩ ?_
        refine y_iaT 72 ((-2147483648)) 2147483647 c48_71 rfl ka319 (by omega) hT244 rfl (fun v248 hv248 gv248 => ?_)
        refine y_iconst 73 c48_72 rfl ?_
        refine y_iload 74 c48_73 rfl rfl ?_
        refine y_ishl 75 c48_74 rfl ?_
        refine y_nam (fun b249 hb249 => ?_)
        have gb249 : -2147483648 ≤ b249 ∧ b249 < 2147483648 := by rw [hb249]; exact i32r _
        refine y_ior 76 c48_75 rfl ?_
        refine y_nam (fun b250 hb250 => ?_)
        have gb250 : -2147483648 ≤ b250 ∧ b250 < 2147483648 := by rw [hb250]; exact i32r _
        refine y_iastore 77 c48_76 rfl ka319 (by omega) (y_nar0 _) ?_
        have hT251 := hT244.up 319 (((m 316 9) - 1).toNat) b250 ((-2147483648)) 2147483647 rfl (by omega)
        have hF252 := hF245.up 319 (((m 316 9) - 1).toNat) b250 rfl
        refine y_iconst 78 c48_77 rfl ?_
        exact y_retI c48_78 (y_fit1 (by omega)) ⟨rfl, hT251, hF252, by omega⟩
      · refine y_iconst 64 c48_63 rfl ?_
        exact y_retI c48_64 (y_fit1 (by omega)) ⟨rfl, hT244, hF245, by omega⟩
    · refine y_iconst 28 c48_27 rfl ?_
      exact y_retI c48_28 (y_fit1 (by omega)) ⟨rfl, hT, hF, by omega⟩
set_option maxRecDepth 100000 in
theorem t50a_316 {L : Nat} {xs : Nat → Int32} {d nn : Nat} {m : yM} {c v : Int} (hT : Ty gT m) (hc : -2147483648 ≤ c ∧ c < 2147483648) (hv : -2147483648 ≤ v ∧ v < 2147483648) : ∀ (k : Nat) (i : Int), m 316 10 - i = k → 0 ≤ i ∧ i ≤ m 316 10 → YW (gZ L xs) 50 d 2 [some (.ref 316), some (yI c), some (yI v), some (yI i)] [] m nn (qP m nn (fun r => -1 ≤ r ∧ r < m 316 10)) := by
  intro k
  induction k using Nat.strongRecOn with
  | ind k ih =>
    intro i hk hi
    have tb := hT.atp 316 10 0 10 rfl
    refine y_iload 3 c50_2 rfl rfl ?_
    refine y_aload 4 c50_3 rfl rfl rfl ?_
    refine y_getX 7 (m 316 10) c50_4 rfl kf316_10 rfl ?_
    refine y_icmp 44 10 c50_7 rfl rfl (yc_ge (by omega) (by omega)) (fun hb253 => ?_) (fun hb253 => ?_)
    · refine y_iconst 45 c50_44 rfl ?_
      exact y_retP c50_45 (y_fit0 _) (by omega)
    · refine y_aload 11 c50_10 rfl rfl rfl ?_
      refine y_getR 14 c50_11 rfl kf316_5 ?_
      refine y_iload 15 c50_14 rfl rfl ?_
      refine y_aaload 16 c50_15 rfl kr322 (by omega) ?_
      refine y_getT 19 0 5 c50_16 rfl (ff326_1 (by omega)) hT (ft326_1 (by omega)) (fun v254 hv254 gv254 => ?_)
      refine y_iload 20 c50_19 rfl rfl ?_
      refine y_icmp 38 23 c50_20 rfl rfl (yc_ne (by omega) (by omega)) (fun hb255 => ?_) (fun hb255 => ?_)
      · refine y_iinc 41 c50_38 rfl rfl rfl ?_
        refine y_goto 2 c50_41 rfl ?_
        exact ih (m 316 10 - (i + 1) : Int).toNat (by omega) (i + 1)   (by omega) (by omega)
      · refine y_aload 24 c50_23 rfl rfl rfl ?_
        refine y_getR 27 c50_24 rfl kf316_5 ?_
        refine y_iload 28 c50_27 rfl rfl ?_
        refine y_aaload 29 c50_28 rfl kr322 (by omega) ?_
        refine y_getT 32 ((-2147483648)) 2147483647 c50_29 rfl (ff326_0 (by omega)) hT (ft326_0 (by omega)) (fun v256 hv256 gv256 => ?_)
        refine y_iload 33 c50_32 rfl rfl ?_
        refine y_icmp 38 36 c50_33 rfl rfl (yc_ne (by omega) (by omega)) (fun hb257 => ?_) (fun hb257 => ?_)
        · refine y_iinc 41 c50_38 rfl rfl rfl ?_
          refine y_goto 2 c50_41 rfl ?_
          exact ih (m 316 10 - (i + 1) : Int).toNat (by omega) (i + 1)   (by omega) (by omega)
        · refine y_iload 37 c50_36 rfl rfl ?_
          exact y_retP c50_37 (y_fit0 _) (by omega)
set_option maxRecDepth 100000 in
theorem t50_316 {L : Nat} {xs : Nat → Int32} {d nn : Nat} {m : yM} {c v : Int} (hT : Ty gT m) (hc : -2147483648 ≤ c ∧ c < 2147483648) (hv : -2147483648 ≤ v ∧ v < 2147483648) : YC (gZ L xs) d 50 [.ref 316, yI c, yI v] m nn (qP m nn (fun r => -1 ≤ r ∧ r < m 316 10)) := by
  refine YC.mkB [some (.ref 316), some (yI c), some (yI v), none] kn50 rfl rfl ?_
  refine y_iconst 1 c50_0 rfl ?_
  refine y_istore 2 c50_1 rfl rfl ?_
  have tb := hT.atp 316 10 0 10 rfl
  exact t50a_316 hT hc hv (m 316 10 - 0 : Int).toNat 0   (by omega) (by omega)
