/-! CONTRACTS: printed by wip/whole/gen80.py and on -/
set_option maxRecDepth 100000 in
theorem t51_256 {L : Nat} {xs : Nat → Int32} {d nn : Nat} {m : yM} {v : Int} (hT : Ty gT m) (hv : -2147483648 ≤ v ∧ v < 2147483648) (hc : 1 ≤ m 256 9) : YC (gZ L xs) (d + 1) 51 [.ref 256, yI v] m nn (qI (fun r m' n' => n' = nn ∧ Ty gT m' ∧ Fr wMe256 m m' ∧ ((r = 0 ∧ m' = m) ∨ (r = 1 ∧ m' 256 10 = m 256 10 + 1 ∧ m' 256 15 = m 256 15 + 2 ∧ m' (266 + (m 256 10).toNat) 2 = m 256 15 ∧ m' (266 + (m 256 10).toNat) 3 = 0 ∧ (MP 266 m → MP 266 m') ∧ ∀ j, m' (266 + j) 5 = m (266 + j) 5)))) := by
  refine YC.mkB [some (.ref 256), some (yI v), none, none] kn51 rfl rfl ?_
  have hF : Fr wMe256 m m := Fr.rf
  refine y_aload 1 c51_0 rfl rfl rfl ?_
  refine y_getX 4 (m 256 9) c51_1 rfl kf256_9 rfl ?_
  have tb258 := hT.atp 256 9 0 6 rfl
  refine y_iconst 5 c51_4 rfl ?_
  refine y_isub 6 c51_5 rfl ?_
  refine y_istore 7 c51_6 rfl rfl ?_
  refine y_aload 8 c51_7 rfl rfl rfl ?_
  refine y_getX 11 (m 256 10) c51_8 rfl kf256_10 rfl ?_
  have tb259 := hT.atp 256 10 0 10 rfl
  refine y_iconst 13 c51_11 rfl ?_
  refine y_icmp 37 16 c51_13 rfl rfl (yc_eq (by omega) (by omega)) (fun hb260 => ?_) (fun hb260 => ?_)
  · refine y_iconst 38 c51_37 rfl ?_
    exact y_retI c51_38 (y_fit1 (by omega)) ⟨rfl, hT, hF, Or.inl ⟨rfl, rfl⟩⟩
  · refine y_aload 17 c51_16 rfl rfl rfl ?_
    refine y_getX 20 (m 256 15) c51_17 rfl kf256_15 rfl ?_
    have tb261 := hT.atp 256 15 0 48 rfl
    refine y_iconst 21 c51_20 rfl ?_
    refine y_iadd 22 c51_21 rfl ?_
    refine y_iconst 24 c51_22 rfl ?_
    refine y_icmp 37 27 c51_24 rfl rfl (yc_gt (by omega) (by omega)) (fun hb262 => ?_) (fun hb262 => ?_)
    · refine y_iconst 38 c51_37 rfl ?_
      exact y_retI c51_38 (y_fit1 (by omega)) ⟨rfl, hT, hF, Or.inl ⟨rfl, rfl⟩⟩
    · refine y_aload 28 c51_27 rfl rfl rfl ?_
      refine y_iload 29 c51_28 rfl rfl ?_
      refine y_iload 30 c51_29 rfl rfl ?_
      refine y_callP 33 [.ref 256, yI ((m 256 9) - 1), yI v] [] c51_30 rfl rfl rfl rfl rfl (ycanO km50 ko256) (t50_256 hT (by omega) (by omega)) (fun r263 hr263 => ?_)
      refine y_iconst 34 c51_33 rfl ?_
      refine y_icmp 39 37 c51_34 rfl rfl (yc_eq (by omega) (by omega)) (fun hb264 => ?_) (fun hb264 => ?_)
      · refine y_aload 40 c51_39 rfl rfl rfl ?_
        refine y_getR 43 c51_40 rfl kf256_5 ?_
        refine y_aload 44 c51_43 rfl rfl rfl ?_
        refine y_getX 47 (m 256 10) c51_44 rfl kf256_10 rfl ?_
        refine y_aaload 48 c51_47 rfl kr262 (by omega) ?_
        refine y_astore 49 c51_48 rfl rfl rfl ?_
        refine y_aload 50 c51_49 rfl rfl rfl ?_
        refine y_iload 51 c51_50 rfl rfl ?_
        refine y_putI 54 c51_51 rfl (ff266_0 (by omega)) (y_fit0 _) ?_
        have hT265 := hT.up (266 + (m 256 10).toNat) 0 v ((-2147483648)) 2147483647 (ft266_0 (by omega)) (by omega)
        have hF266 := hF.up (266 + (m 256 10).toNat) 0 v (wMe256_266 (by omega))
        refine y_aload 55 c51_54 rfl rfl rfl ?_
        refine y_iload 56 c51_55 rfl rfl ?_
        refine y_putI 59 c51_56 rfl (ff266_1 (by omega)) (y_fit0 _) ?_
        have hT267 := hT265.up (266 + (m 256 10).toNat) 1 ((m 256 9) - 1) 0 5 (ft266_1 (by omega)) (by omega)
        have hF268 := hF266.up (266 + (m 256 10).toNat) 1 ((m 256 9) - 1) (wMe256_266 (by omega))
        refine y_aload 60 c51_59 rfl rfl rfl ?_
        refine y_aload 61 c51_60 rfl rfl rfl ?_
        refine y_getX 64 (m 256 15) c51_61 rfl kf256_15 ((yup_na (by omega)).trans (yup_na (by omega))) ?_
        refine y_putI 67 c51_64 rfl (ff266_2 (by omega)) (y_fit0 _) ?_
        have hT269 := hT267.up (266 + (m 256 10).toNat) 2 (m 256 15) 0 46 (ft266_2 (by omega)) (by omega)
        have hF270 := hF268.up (266 + (m 256 10).toNat) 2 (m 256 15) (wMe256_266 (by omega))
        refine y_aload 68 c51_67 rfl rfl rfl ?_
        refine y_iconst 69 c51_68 rfl ?_
        refine y_putI 72 c51_69 rfl (ff266_3 (by omega)) (y_fit0 _) ?_
        have hT271 := hT269.up (266 + (m 256 10).toNat) 3 0 0 2 (ft266_3 (by omega)) (by omega)
        have hF272 := hF270.up (266 + (m 256 10).toNat) 3 0 (wMe256_266 (by omega))
        refine y_aload 73 c51_72 rfl rfl rfl ?_
        refine y_dup 74 c51_73 rfl rfl ?_
        refine y_getX 77 (m 256 10) c51_74 rfl kf256_10 ((yup_na (by omega)).trans ((yup_na (by omega)).trans ((yup_na (by omega)).trans (yup_na (by omega))))) ?_
        refine y_iconst 78 c51_77 rfl ?_
        refine y_iadd 79 c51_78 rfl ?_
        refine y_putI 82 c51_79 rfl kf256_10 (y_fit0 _) ?_
        have hT273 := hT271.up 256 10 ((m 256 10) + 1) 0 10 rfl (by omega)
        have hF274 := hF272.up 256 10 ((m 256 10) + 1) rfl
        refine y_aload 83 c51_82 rfl rfl rfl ?_
        refine y_getR 86 c51_83 rfl kf256_4 ?_
        refine y_aload 87 c51_86 rfl rfl rfl ?_
        refine y_getX 90 (m 256 15) c51_87 rfl kf256_15 ((yup_nk (by decide)).trans ((yup_na (by omega)).trans ((yup_na (by omega)).trans ((yup_na (by omega)).trans (yup_na (by omega)))))) ?_
        refine y_iconst 91 c51_90 rfl ?_
        refine y_iastore 92 c51_91 rfl ka261 (by omega) (y_nar0 _) ?_
        have hT275 := hT273.up 261 ((m 256 15).toNat) 0 ((-2147483648)) 2147483647 rfl (by omega)
        have hF276 := hF274.up 261 ((m 256 15).toNat) 0 rfl
        refine y_aload 93 c51_92 rfl rfl rfl ?_
        refine y_getR 96 c51_93 rfl kf256_4 ?_
        refine y_aload 97 c51_96 rfl rfl rfl ?_
        refine y_getX 100 (m 256 15) c51_97 rfl kf256_15 ((yup_na (by decide)).trans ((yup_nk (by decide)).trans ((yup_na (by omega)).trans ((yup_na (by omega)).trans ((yup_na (by omega)).trans (yup_na (by omega))))))) ?_
        refine y_iconst 101 c51_100 rfl ?_
        refine y_iadd 102 c51_101 rfl ?_
        refine y_iconst 103 c51_102 rfl ?_
        refine y_iastore 104 c51_103 rfl ka261 (by omega) (y_nar0 _) ?_
        have hT277 := hT275.up 261 (((m 256 15) + 1).toNat) 0 ((-2147483648)) 2147483647 rfl (by omega)
        have hF278 := hF276.up 261 (((m 256 15) + 1).toNat) 0 rfl
        refine y_aload 105 c51_104 rfl rfl rfl ?_
        refine y_dup 106 c51_105 rfl rfl ?_
        refine y_getX 109 (m 256 15) c51_106 rfl kf256_15 ((yup_na (by decide)).trans ((yup_na (by decide)).trans ((yup_nk (by decide)).trans ((yup_na (by omega)).trans ((yup_na (by omega)).trans ((yup_na (by omega)).trans (yup_na (by omega)))))))) ?_
        refine y_iconst 110 c51_109 rfl ?_
        refine y_iadd 111 c51_110 rfl ?_
        refine y_putI 114 c51_111 rfl kf256_15 (y_fit0 _) ?_
        have hT279 := hT277.up 256 15 ((m 256 15) + 2) 0 48 rfl (by omega)
        have hF280 := hF278.up 256 15 ((m 256 15) + 2) rfl
        refine y_iconst 115 c51_114 rfl ?_
        have es281 : (yup (yup (yup (yup (yup (yup (yup (yup m (266 + (m 256 10).toNat) 0 v) (266 + (m 256 10).toNat) 1 ((m 256 9) - 1)) (266 + (m 256 10).toNat) 2 (m 256 15)) (266 + (m 256 10).toNat) 3 0) 256 10 ((m 256 10) + 1)) 261 ((m 256 15).toNat) 0) 261 (((m 256 15) + 1).toNat) 0) 256 15 ((m 256 15) + 2)) 256 10 = (m 256 10) + 1 := rfl
        have es282 : (yup (yup (yup (yup (yup (yup (yup (yup m (266 + (m 256 10).toNat) 0 v) (266 + (m 256 10).toNat) 1 ((m 256 9) - 1)) (266 + (m 256 10).toNat) 2 (m 256 15)) (266 + (m 256 10).toNat) 3 0) 256 10 ((m 256 10) + 1)) 261 ((m 256 15).toNat) 0) 261 (((m 256 15) + 1).toNat) 0) 256 15 ((m 256 15) + 2)) 256 15 = (m 256 15) + 2 := rfl
        refine y_retI c51_115 (y_fit1 (by omega)) ⟨rfl, hT279, hF280, Or.inr ⟨rfl, by omega, by omega, by repeat (first | rw [yup_eq] | rw [yup_na (by omega)] | rw [yup_nk (by omega)]), by repeat (first | rw [yup_eq] | rw [yup_na (by omega)] | rw [yup_nk (by omega)]), fun hM j hj => ?_, fun j => by repeat (first | rw [yup_eq] | rw [yup_na (by omega)] | rw [yup_nk (by omega)])⟩⟩
        have h0 := hM j hj
        by_cases e : j = (m 256 10).toNat
        · subst e
          have e2 : (yup (yup (yup (yup (yup (yup (yup (yup m (266 + (m 256 10).toNat) 0 v) (266 + (m 256 10).toNat) 1 ((m 256 9) - 1)) (266 + (m 256 10).toNat) 2 (m 256 15)) (266 + (m 256 10).toNat) 3 0) 256 10 ((m 256 10) + 1)) 261 ((m 256 15).toNat) 0) 261 (((m 256 15) + 1).toNat) 0) 256 15 ((m 256 15) + 2)) (266 + (m 256 10).toNat) 2 = m 256 15 := by repeat (first | rw [yup_eq] | rw [yup_na (by omega)] | rw [yup_nk (by omega)])
          have e3 : (yup (yup (yup (yup (yup (yup (yup (yup m (266 + (m 256 10).toNat) 0 v) (266 + (m 256 10).toNat) 1 ((m 256 9) - 1)) (266 + (m 256 10).toNat) 2 (m 256 15)) (266 + (m 256 10).toNat) 3 0) 256 10 ((m 256 10) + 1)) 261 ((m 256 15).toNat) 0) 261 (((m 256 15) + 1).toNat) 0) 256 15 ((m 256 15) + 2)) (266 + (m 256 10).toNat) 3 = 0 := by repeat (first | rw [yup_eq] | rw [yup_na (by omega)] | rw [yup_nk (by omega)])
          omega
        · have e2 : (yup (yup (yup (yup (yup (yup (yup (yup m (266 + (m 256 10).toNat) 0 v) (266 + (m 256 10).toNat) 1 ((m 256 9) - 1)) (266 + (m 256 10).toNat) 2 (m 256 15)) (266 + (m 256 10).toNat) 3 0) 256 10 ((m 256 10) + 1)) 261 ((m 256 15).toNat) 0) 261 (((m 256 15) + 1).toNat) 0) 256 15 ((m 256 15) + 2)) (266 + j) 2 = m (266 + j) 2 := by repeat (first | rw [yup_eq] | rw [yup_na (by omega)] | rw [yup_nk (by omega)])
          have e3 : (yup (yup (yup (yup (yup (yup (yup (yup m (266 + (m 256 10).toNat) 0 v) (266 + (m 256 10).toNat) 1 ((m 256 9) - 1)) (266 + (m 256 10).toNat) 2 (m 256 15)) (266 + (m 256 10).toNat) 3 0) 256 10 ((m 256 10) + 1)) 261 ((m 256 15).toNat) 0) 261 (((m 256 15) + 1).toNat) 0) 256 15 ((m 256 15) + 2)) (266 + j) 3 = m (266 + j) 3 := by repeat (first | rw [yup_eq] | rw [yup_na (by omega)] | rw [yup_nk (by omega)])
          omega
      · refine y_iconst 38 c51_37 rfl ?_
        exact y_retI c51_38 (y_fit1 (by omega)) ⟨rfl, hT, hF, Or.inl ⟨rfl, rfl⟩⟩
set_option maxRecDepth 100000 in
theorem t52a_256 {L : Nat} {xs : Nat → Int32} {d nn : Nat} {m : yM} {v : Int} (hT : Ty gT m) (hv : -2147483648 ≤ v ∧ v < 2147483648) (hm : 1 ≤ m 256 10) : ∀ (k : Nat) (i : Int), 48 - i = k → 0 ≤ i ∧ i ≤ 48 → YW (gZ L xs) 52 d 15 [some (.ref 256), some (yI v), some (yI i)] [] m nn (qI (fun r m' n' => n' = nn ∧ Ty gT m' ∧ Fr wVa256 m m' ∧ ((m' 256 15 = m 256 15 ∧ -1 ≤ r ∧ r < m 256 15) ∨ (m' 256 15 = m 256 15 + 1 ∧ r = m 256 15)))) := by
  intro k
  induction k using Nat.strongRecOn with
  | ind k ih =>
    intro i hk hi
    have hF : Fr wVa256 m m := Fr.rf
    refine y_iload 16 c52_15 rfl rfl ?_
    refine y_aload 17 c52_16 rfl rfl rfl ?_
    refine y_getX 20 (m 256 15) c52_17 rfl kf256_15 rfl ?_
    have tb283 := hT.atp 256 15 0 48 rfl
    refine y_icmp 41 23 c52_20 rfl rfl (yc_ge (by omega) (by omega)) (fun hb284 => ?_) (fun hb284 => ?_)
    · refine y_aload 42 c52_41 rfl rfl rfl ?_
      refine y_getX 45 (m 256 15) c52_42 rfl kf256_15 rfl ?_
      refine y_iconst 47 c52_45 rfl ?_
      refine y_icmp 52 50 c52_47 rfl rfl (yc_ne (by omega) (by omega)) (fun hb285 => ?_) (fun hb285 => ?_)
      · refine y_aload 53 c52_52 rfl rfl rfl ?_
        refine y_getR 56 c52_53 rfl kf256_4 ?_
        refine y_aload 57 c52_56 rfl rfl rfl ?_
        refine y_getX 60 (m 256 15) c52_57 rfl kf256_15 rfl ?_
        refine y_iload 61 c52_60 rfl rfl ?_
        refine y_iastore 62 c52_61 rfl ka261 (by omega) (y_nar0 _) ?_
        have hT286 := hT.up 261 ((m 256 15).toNat) v ((-2147483648)) 2147483647 rfl (by omega)
        have hF287 := hF.up 261 ((m 256 15).toNat) v rfl
        refine y_aload 63 c52_62 rfl rfl rfl ?_
        refine y_dup 64 c52_63 rfl rfl ?_
        refine y_getX 67 (m 256 15) c52_64 rfl kf256_15 rfl ?_
        refine y_iconst 68 c52_67 rfl ?_
        refine y_iadd 69 c52_68 rfl ?_
        refine y_putI 72 c52_69 rfl kf256_15 (y_fit0 _) ?_
        have hT288 := hT286.up 256 15 ((m 256 15) + 1) 0 48 rfl (by omega)
        have hF289 := hF287.up 256 15 ((m 256 15) + 1) rfl
        refine y_aload 73 c52_72 rfl rfl rfl ?_
        refine y_getX 76 ((m 256 15) + 1) c52_73 rfl kf256_15 rfl ?_
        refine y_iconst 77 c52_76 rfl ?_
        refine y_isub 78 c52_77 rfl ?_
        have es290 : (yup (yup m 261 ((m 256 15).toNat) v) 256 15 ((m 256 15) + 1)) 256 15 = (m 256 15) + 1 := rfl
        exact y_retI c52_78 (y_fit0 _) ⟨rfl, hT288, hF289, by omega⟩
      · refine y_iconst 51 c52_50 rfl ?_
        exact y_retI c52_51 (y_fit0 _) ⟨rfl, hT, hF, by omega⟩
    · refine y_aload 24 c52_23 rfl rfl rfl ?_
      refine y_getR 27 c52_24 rfl kf256_4 ?_
      refine y_iload 28 c52_27 rfl rfl ?_
      refine y_iaT 29 ((-2147483648)) 2147483647 c52_28 rfl ka261 (by omega) hT rfl (fun v291 hv291 gv291 => ?_)
      refine y_iload 30 c52_29 rfl rfl ?_
      refine y_icmp 35 33 c52_30 rfl rfl (yc_ne (by omega) (by omega)) (fun hb292 => ?_) (fun hb292 => ?_)
      · refine y_iinc 38 c52_35 rfl rfl rfl ?_
        refine y_goto 15 c52_38 rfl ?_
        exact ih (48 - (i + 1) : Int).toNat (by omega) (i + 1)   (by omega) (by omega)
      · refine y_iload 34 c52_33 rfl rfl ?_
        exact y_retI c52_34 (y_fit0 _) ⟨rfl, hT, hF, by omega⟩
set_option maxRecDepth 100000 in
theorem t52_256 {L : Nat} {xs : Nat → Int32} {d nn : Nat} {m : yM} {v : Int} (hT : Ty gT m) (hv : -2147483648 ≤ v ∧ v < 2147483648) (hm : 1 ≤ m 256 10) : YC (gZ L xs) d 52 [.ref 256, yI v] m nn (qI (fun r m' n' => n' = nn ∧ Ty gT m' ∧ Fr wVa256 m m' ∧ ((m' 256 15 = m 256 15 ∧ -1 ≤ r ∧ r < m 256 15) ∨ (m' 256 15 = m 256 15 + 1 ∧ r = m 256 15)))) := by
  refine YC.mkB [some (.ref 256), some (yI v), none] kn52 rfl rfl ?_
  refine y_aload 1 c52_0 rfl rfl rfl ?_
  refine y_getR 4 c52_1 rfl kf256_5 ?_
  refine y_aload 5 c52_4 rfl rfl rfl ?_
  refine y_getX 8 (m 256 10) c52_5 rfl kf256_10 rfl ?_
  have tb293 := hT.atp 256 10 0 10 rfl
  refine y_iconst 9 c52_8 rfl ?_
  refine y_isub 10 c52_9 rfl ?_
  refine y_aaload 11 c52_10 rfl kr262 (by omega) ?_
  refine y_getT 14 0 46 c52_11 rfl (ff266_2 (by omega)) hT (ft266_2 (by omega)) (fun v294 hv294 gv294 => ?_)
  refine y_istore 15 c52_14 rfl rfl ?_
  exact t52a_256 hT hv hm (48 - v294 : Int).toNat v294   (by omega) (by omega)
def wPm256 (a q : Nat) : Bool := (a == 256 && q == 15) || a == 261 || (decide (266 ≤ a ∧ a < 276) && q == 3)
theorem wPm256_m {k : Nat} (h : k < 10) : wPm256 (266 + k) 3 = true := by
  simp [wPm256]
  omega
theorem wPm256_P : ∀ a q, wPm256 a q = true → wPa256 a q = true := by
  intro a q h
  simp [wPm256] at h
  simp [wPa256]
  omega
theorem wVa256_Pm : ∀ a q, wVa256 a q = true → wPm256 a q = true := by
  intro a q h
  simp [wVa256] at h
  simp [wPm256]
  omega
theorem wVa256_no {k q : Nat} : wVa256 (266 + k) q = false := by
  simp [wVa256]
  omega
set_option maxRecDepth 100000 in
theorem t53_256 {L : Nat} {xs : Nat → Int32} {d nn : Nat} {m : yM} {v : Int} (hT : Ty gT m) (hv : -2147483648 ≤ v ∧ v < 2147483648) (hm : 1 ≤ m 256 10) (hp : m (266 + (m 256 10 - 1).toNat) 3 ≤ 1) (hr : m (266 + (m 256 10 - 1).toNat) 2 + 2 + m (266 + (m 256 10 - 1).toNat) 3 = m 256 15) : YC (gZ L xs) (d + 1) 53 [.ref 256, yI v] m nn (qI (fun r m' n' => n' = nn ∧ Ty gT m' ∧ Fr wPm256 m m' ∧ ((r = 0 ∧ ∀ a q, 262 ≤ a → m' a q = m a q) ∨ (r = 1 ∧ m' 256 15 = m 256 15 + 1 ∧ m' (266 + (m 256 10 - 1).toNat) 3 = m (266 + (m 256 10 - 1).toNat) 3 + 1 ∧ (MP 266 m → MP 266 m'))))) := by
  have tb10 := hT.atp 256 10 0 10 rfl
  refine YC.mkB [some (.ref 256), some (yI v), none] kn53 rfl rfl ?_
  have hF : Fr wPm256 m m := Fr.rf
  refine y_aload 1 c53_0 rfl rfl rfl ?_
  refine y_getX 4 (m 256 15) c53_1 rfl kf256_15 rfl ?_
  have tb295 := hT.atp 256 15 0 48 rfl
  refine y_istore 5 c53_4 rfl rfl ?_
  refine y_aload 6 c53_5 rfl rfl rfl ?_
  refine y_iload 7 c53_6 rfl rfl ?_
  have tb297 := hT.atp 256 10 0 10 rfl
  refine y_callIB 10 [.ref 256, yI v] [] c53_7 rfl rfl rfl rfl rfl (ycanO km52 ko256) (t52_256 hT (by omega) (by omega)) (fun rq296 mq296 nq296 hq296 => ?_)
  obtain ⟨rfl, hTq296, hFq296, hq296⟩ := hq296
  have hF298 := hF.tr hFq296 wVa256_Pm
  refine y_pop 11 c53_10 rfl rfl ?_
  refine y_aload 12 c53_11 rfl rfl rfl ?_
  refine y_getX 15 (mq296 256 15) c53_12 rfl kf256_15 rfl ?_
  have tb299 := hTq296.atp 256 15 0 48 rfl
  refine y_iload 16 c53_15 rfl rfl ?_
  refine y_icmp 21 19 c53_16 rfl rfl (yc_ne (by omega) (by omega)) (fun hb300 => ?_) (fun hb300 => ?_)
  · refine y_aload 22 c53_21 rfl rfl rfl ?_
    refine y_getR 25 c53_22 rfl kf256_5 ?_
    refine y_aload 26 c53_25 rfl rfl rfl ?_
    refine y_getX 29 (m 256 10) c53_26 rfl kf256_10 (hFq296 256 10 rfl) ?_
    refine y_iconst 30 c53_29 rfl ?_
    refine y_isub 31 c53_30 rfl ?_
    refine y_aaload 32 c53_31 rfl kr262 (by omega) ?_
    have hk3 := hFq296 (266 + (m 256 10 - 1).toNat) 3 wVa256_no
    have hk2 := hFq296 (266 + (m 256 10 - 1).toNat) 2 wVa256_no
    have hj : (m 256 10 - 1).toNat < 10 := by omega
    refine y_dup 33 c53_32 rfl rfl ?_
    refine y_getT 36 0 2 c53_33 rfl (ff266_3 (by omega)) hTq296 (ft266_3 (by omega)) (fun v301 hv301 gv301 => ?_)
    refine y_iconst 37 c53_36 rfl ?_
    refine y_iadd 38 c53_37 rfl ?_
    refine y_putI 41 c53_38 rfl (ff266_3 (by omega)) (y_fit0 _) ?_
    have hT302 := hTq296.up (266 + ((m 256 10) - 1).toNat) 3 (v301 + 1) 0 2 (ft266_3 (by omega)) (by omega)
    have hF303 := hF298.up (266 + ((m 256 10) - 1).toNat) 3 (v301 + 1) (wPm256_m (by omega))
    refine y_iconst 42 c53_41 rfl ?_
    have es304 : (yup mq296 (266 + ((m 256 10) - 1).toNat) 3 (v301 + 1)) 256 15 = mq296 256 15 := (yup_na (by omega))
    refine y_retI c53_42 (y_fit1 (by omega)) ⟨rfl, hT302, hF303, Or.inr ⟨rfl, by omega, by rw [yup_eq]; omega, fun hM j hj => ?_⟩⟩
    have h0 := hM j hj
    have h3 := hFq296 (266 + j) 3 wVa256_no
    have h2 := hFq296 (266 + j) 2 wVa256_no
    by_cases e : j = (m 256 10 - 1).toNat
    · subst e
      rw [yup_nk (by decide), yup_eq]
      omega
    · rw [yup_nk (by decide), yup_na (by omega)]
      omega
  · refine y_iconst 20 c53_19 rfl ?_
    exact y_retI c53_20 (y_fit1 (by omega)) ⟨rfl, hTq296, hF298, Or.inl ⟨rfl, fun a q ha => hFq296 a q (by simp [wVa256]; omega)⟩⟩
set_option maxRecDepth 100000 in
theorem t51_316 {L : Nat} {xs : Nat → Int32} {d nn : Nat} {m : yM} {v : Int} (hT : Ty gT m) (hv : -2147483648 ≤ v ∧ v < 2147483648) (hc : 1 ≤ m 316 9) : YC (gZ L xs) (d + 1) 51 [.ref 316, yI v] m nn (qI (fun r m' n' => n' = nn ∧ Ty gT m' ∧ Fr wMe316 m m' ∧ ((r = 0 ∧ m' = m) ∨ (r = 1 ∧ m' 316 10 = m 316 10 + 1 ∧ m' 316 15 = m 316 15 + 2 ∧ m' (326 + (m 316 10).toNat) 2 = m 316 15 ∧ m' (326 + (m 316 10).toNat) 3 = 0 ∧ (MP 326 m → MP 326 m') ∧ ∀ j, m' (326 + j) 5 = m (326 + j) 5)))) := by
  refine YC.mkB [some (.ref 316), some (yI v), none, none] kn51 rfl rfl ?_
  have hF : Fr wMe316 m m := Fr.rf
  refine y_aload 1 c51_0 rfl rfl rfl ?_
  refine y_getX 4 (m 316 9) c51_1 rfl kf316_9 rfl ?_
  have tb305 := hT.atp 316 9 0 6 rfl
  refine y_iconst 5 c51_4 rfl ?_
  refine y_isub 6 c51_5 rfl ?_
  refine y_istore 7 c51_6 rfl rfl ?_
  refine y_aload 8 c51_7 rfl rfl rfl ?_
  refine y_getX 11 (m 316 10) c51_8 rfl kf316_10 rfl ?_
  have tb306 := hT.atp 316 10 0 10 rfl
  refine y_iconst 13 c51_11 rfl ?_
  refine y_icmp 37 16 c51_13 rfl rfl (yc_eq (by omega) (by omega)) (fun hb307 => ?_) (fun hb307 => ?_)
  · refine y_iconst 38 c51_37 rfl ?_
    exact y_retI c51_38 (y_fit1 (by omega)) ⟨rfl, hT, hF, Or.inl ⟨rfl, rfl⟩⟩
  · refine y_aload 17 c51_16 rfl rfl rfl ?_
    refine y_getX 20 (m 316 15) c51_17 rfl kf316_15 rfl ?_
    have tb308 := hT.atp 316 15 0 48 rfl
    refine y_iconst 21 c51_20 rfl ?_
    refine y_iadd 22 c51_21 rfl ?_
    refine y_iconst 24 c51_22 rfl ?_
    refine y_icmp 37 27 c51_24 rfl rfl (yc_gt (by omega) (by omega)) (fun hb309 => ?_) (fun hb309 => ?_)
    · refine y_iconst 38 c51_37 rfl ?_
      exact y_retI c51_38 (y_fit1 (by omega)) ⟨rfl, hT, hF, Or.inl ⟨rfl, rfl⟩⟩
    · refine y_aload 28 c51_27 rfl rfl rfl ?_
      refine y_iload 29 c51_28 rfl rfl ?_
      refine y_iload 30 c51_29 rfl rfl ?_
      refine y_callP 33 [.ref 316, yI ((m 316 9) - 1), yI v] [] c51_30 rfl rfl rfl rfl rfl (ycanO km50 ko316) (t50_316 hT (by omega) (by omega)) (fun r310 hr310 => ?_)
      refine y_iconst 34 c51_33 rfl ?_
      refine y_icmp 39 37 c51_34 rfl rfl (yc_eq (by omega) (by omega)) (fun hb311 => ?_) (fun hb311 => ?_)
      · refine y_aload 40 c51_39 rfl rfl rfl ?_
        refine y_getR 43 c51_40 rfl kf316_5 ?_
        refine y_aload 44 c51_43 rfl rfl rfl ?_
        refine y_getX 47 (m 316 10) c51_44 rfl kf316_10 rfl ?_
        refine y_aaload 48 c51_47 rfl kr322 (by omega) ?_
        refine y_astore 49 c51_48 rfl rfl rfl ?_
        refine y_aload 50 c51_49 rfl rfl rfl ?_
        refine y_iload 51 c51_50 rfl rfl ?_
        refine y_putI 54 c51_51 rfl (ff326_0 (by omega)) (y_fit0 _) ?_
        have hT312 := hT.up (326 + (m 316 10).toNat) 0 v ((-2147483648)) 2147483647 (ft326_0 (by omega)) (by omega)
        have hF313 := hF.up (326 + (m 316 10).toNat) 0 v (wMe316_326 (by omega))
        refine y_aload 55 c51_54 rfl rfl rfl ?_
        refine y_iload 56 c51_55 rfl rfl ?_
        refine y_putI 59 c51_56 rfl (ff326_1 (by omega)) (y_fit0 _) ?_
        have hT314 := hT312.up (326 + (m 316 10).toNat) 1 ((m 316 9) - 1) 0 5 (ft326_1 (by omega)) (by omega)
        have hF315 := hF313.up (326 + (m 316 10).toNat) 1 ((m 316 9) - 1) (wMe316_326 (by omega))
        refine y_aload 60 c51_59 rfl rfl rfl ?_
        refine y_aload 61 c51_60 rfl rfl rfl ?_
        refine y_getX 64 (m 316 15) c51_61 rfl kf316_15 ((yup_na (by omega)).trans (yup_na (by omega))) ?_
        refine y_putI 67 c51_64 rfl (ff326_2 (by omega)) (y_fit0 _) ?_
        have hT316 := hT314.up (326 + (m 316 10).toNat) 2 (m 316 15) 0 46 (ft326_2 (by omega)) (by omega)
        have hF317 := hF315.up (326 + (m 316 10).toNat) 2 (m 316 15) (wMe316_326 (by omega))
        refine y_aload 68 c51_67 rfl rfl rfl ?_
        refine y_iconst 69 c51_68 rfl ?_
        refine y_putI 72 c51_69 rfl (ff326_3 (by omega)) (y_fit0 _) ?_
        have hT318 := hT316.up (326 + (m 316 10).toNat) 3 0 0 2 (ft326_3 (by omega)) (by omega)
        have hF319 := hF317.up (326 + (m 316 10).toNat) 3 0 (wMe316_326 (by omega))
        refine y_aload 73 c51_72 rfl rfl rfl ?_
        refine y_dup 74 c51_73 rfl rfl ?_
        refine y_getX 77 (m 316 10) c51_74 rfl kf316_10 ((yup_na (by omega)).trans ((yup_na (by omega)).trans ((yup_na (by omega)).trans (yup_na (by omega))))) ?_
        refine y_iconst 78 c51_77 rfl ?_
        refine y_iadd 79 c51_78 rfl ?_
        refine y_putI 82 c51_79 rfl kf316_10 (y_fit0 _) ?_
        have hT320 := hT318.up 316 10 ((m 316 10) + 1) 0 10 rfl (by omega)
        have hF321 := hF319.up 316 10 ((m 316 10) + 1) rfl
        refine y_aload 83 c51_82 rfl rfl rfl ?_
        refine y_getR 86 c51_83 rfl kf316_4 ?_
        refine y_aload 87 c51_86 rfl rfl rfl ?_
        refine y_getX 90 (m 316 15) c51_87 rfl kf316_15 ((yup_nk (by decide)).trans ((yup_na (by omega)).trans ((yup_na (by omega)).trans ((yup_na (by omega)).trans (yup_na (by omega)))))) ?_
        refine y_iconst 91 c51_90 rfl ?_
        refine y_iastore 92 c51_91 rfl ka321 (by omega) (y_nar0 _) ?_
        have hT322 := hT320.up 321 ((m 316 15).toNat) 0 ((-2147483648)) 2147483647 rfl (by omega)
        have hF323 := hF321.up 321 ((m 316 15).toNat) 0 rfl
        refine y_aload 93 c51_92 rfl rfl rfl ?_
        refine y_getR 96 c51_93 rfl kf316_4 ?_
        refine y_aload 97 c51_96 rfl rfl rfl ?_
        refine y_getX 100 (m 316 15) c51_97 rfl kf316_15 ((yup_na (by decide)).trans ((yup_nk (by decide)).trans ((yup_na (by omega)).trans ((yup_na (by omega)).trans ((yup_na (by omega)).trans (yup_na (by omega))))))) ?_
        refine y_iconst 101 c51_100 rfl ?_
        refine y_iadd 102 c51_101 rfl ?_
        refine y_iconst 103 c51_102 rfl ?_
        refine y_iastore 104 c51_103 rfl ka321 (by omega) (y_nar0 _) ?_
        have hT324 := hT322.up 321 (((m 316 15) + 1).toNat) 0 ((-2147483648)) 2147483647 rfl (by omega)
        have hF325 := hF323.up 321 (((m 316 15) + 1).toNat) 0 rfl
        refine y_aload 105 c51_104 rfl rfl rfl ?_
        refine y_dup 106 c51_105 rfl rfl ?_
        refine y_getX 109 (m 316 15) c51_106 rfl kf316_15 ((yup_na (by decide)).trans ((yup_na (by decide)).trans ((yup_nk (by decide)).trans ((yup_na (by omega)).trans ((yup_na (by omega)).trans ((yup_na (by omega)).trans (yup_na (by omega)))))))) ?_
        refine y_iconst 110 c51_109 rfl ?_
        refine y_iadd 111 c51_110 rfl ?_
        refine y_putI 114 c51_111 rfl kf316_15 (y_fit0 _) ?_
        have hT326 := hT324.up 316 15 ((m 316 15) + 2) 0 48 rfl (by omega)
        have hF327 := hF325.up 316 15 ((m 316 15) + 2) rfl
        refine y_iconst 115 c51_114 rfl ?_
        have es328 : (yup (yup (yup (yup (yup (yup (yup (yup m (326 + (m 316 10).toNat) 0 v) (326 + (m 316 10).toNat) 1 ((m 316 9) - 1)) (326 + (m 316 10).toNat) 2 (m 316 15)) (326 + (m 316 10).toNat) 3 0) 316 10 ((m 316 10) + 1)) 321 ((m 316 15).toNat) 0) 321 (((m 316 15) + 1).toNat) 0) 316 15 ((m 316 15) + 2)) 316 10 = (m 316 10) + 1 := rfl
        have es329 : (yup (yup (yup (yup (yup (yup (yup (yup m (326 + (m 316 10).toNat) 0 v) (326 + (m 316 10).toNat) 1 ((m 316 9) - 1)) (326 + (m 316 10).toNat) 2 (m 316 15)) (326 + (m 316 10).toNat) 3 0) 316 10 ((m 316 10) + 1)) 321 ((m 316 15).toNat) 0) 321 (((m 316 15) + 1).toNat) 0) 316 15 ((m 316 15) + 2)) 316 15 = (m 316 15) + 2 := rfl
        refine y_retI c51_115 (y_fit1 (by omega)) ⟨rfl, hT326, hF327, Or.inr ⟨rfl, by omega, by omega, by repeat (first | rw [yup_eq] | rw [yup_na (by omega)] | rw [yup_nk (by omega)]), by repeat (first | rw [yup_eq] | rw [yup_na (by omega)] | rw [yup_nk (by omega)]), fun hM j hj => ?_, fun j => by repeat (first | rw [yup_eq] | rw [yup_na (by omega)] | rw [yup_nk (by omega)])⟩⟩
        have h0 := hM j hj
        by_cases e : j = (m 316 10).toNat
        · subst e
          have e2 : (yup (yup (yup (yup (yup (yup (yup (yup m (326 + (m 316 10).toNat) 0 v) (326 + (m 316 10).toNat) 1 ((m 316 9) - 1)) (326 + (m 316 10).toNat) 2 (m 316 15)) (326 + (m 316 10).toNat) 3 0) 316 10 ((m 316 10) + 1)) 321 ((m 316 15).toNat) 0) 321 (((m 316 15) + 1).toNat) 0) 316 15 ((m 316 15) + 2)) (326 + (m 316 10).toNat) 2 = m 316 15 := by repeat (first | rw [yup_eq] | rw [yup_na (by omega)] | rw [yup_nk (by omega)])
          have e3 : (yup (yup (yup (yup (yup (yup (yup (yup m (326 + (m 316 10).toNat) 0 v) (326 + (m 316 10).toNat) 1 ((m 316 9) - 1)) (326 + (m 316 10).toNat) 2 (m 316 15)) (326 + (m 316 10).toNat) 3 0) 316 10 ((m 316 10) + 1)) 321 ((m 316 15).toNat) 0) 321 (((m 316 15) + 1).toNat) 0) 316 15 ((m 316 15) + 2)) (326 + (m 316 10).toNat) 3 = 0 := by repeat (first | rw [yup_eq] | rw [yup_na (by omega)] | rw [yup_nk (by omega)])
          omega
        · have e2 : (yup (yup (yup (yup (yup (yup (yup (yup m (326 + (m 316 10).toNat) 0 v) (326 + (m 316 10).toNat) 1 ((m 316 9) - 1)) (326 + (m 316 10).toNat) 2 (m 316 15)) (326 + (m 316 10).toNat) 3 0) 316 10 ((m 316 10) + 1)) 321 ((m 316 15).toNat) 0) 321 (((m 316 15) + 1).toNat) 0) 316 15 ((m 316 15) + 2)) (326 + j) 2 = m (326 + j) 2 := by repeat (first | rw [yup_eq] | rw [yup_na (by omega)] | rw [yup_nk (by omega)])
          have e3 : (yup (yup (yup (yup (yup (yup (yup (yup m (326 + (m 316 10).toNat) 0 v) (326 + (m 316 10).toNat) 1 ((m 316 9) - 1)) (326 + (m 316 10).toNat) 2 (m 316 15)) (326 + (m 316 10).toNat) 3 0) 316 10 ((m 316 10) + 1)) 321 ((m 316 15).toNat) 0) 321 (((m 316 15) + 1).toNat) 0) 316 15 ((m 316 15) + 2)) (326 + j) 3 = m (326 + j) 3 := by repeat (first | rw [yup_eq] | rw [yup_na (by omega)] | rw [yup_nk (by omega)])
          omega
      · refine y_iconst 38 c51_37 rfl ?_
        exact y_retI c51_38 (y_fit1 (by omega)) ⟨rfl, hT, hF, Or.inl ⟨rfl, rfl⟩⟩
set_option maxRecDepth 100000 in
theorem t52a_316 {L : Nat} {xs : Nat → Int32} {d nn : Nat} {m : yM} {v : Int} (hT : Ty gT m) (hv : -2147483648 ≤ v ∧ v < 2147483648) (hm : 1 ≤ m 316 10) : ∀ (k : Nat) (i : Int), 48 - i = k → 0 ≤ i ∧ i ≤ 48 → YW (gZ L xs) 52 d 15 [some (.ref 316), some (yI v), some (yI i)] [] m nn (qI (fun r m' n' => n' = nn ∧ Ty gT m' ∧ Fr wVa316 m m' ∧ ((m' 316 15 = m 316 15 ∧ -1 ≤ r ∧ r < m 316 15) ∨ (m' 316 15 = m 316 15 + 1 ∧ r = m 316 15)))) := by
  intro k
  induction k using Nat.strongRecOn with
  | ind k ih =>
    intro i hk hi
    have hF : Fr wVa316 m m := Fr.rf
    refine y_iload 16 c52_15 rfl rfl ?_
    refine y_aload 17 c52_16 rfl rfl rfl ?_
    refine y_getX 20 (m 316 15) c52_17 rfl kf316_15 rfl ?_
    have tb330 := hT.atp 316 15 0 48 rfl
    refine y_icmp 41 23 c52_20 rfl rfl (yc_ge (by omega) (by omega)) (fun hb331 => ?_) (fun hb331 => ?_)
    · refine y_aload 42 c52_41 rfl rfl rfl ?_
      refine y_getX 45 (m 316 15) c52_42 rfl kf316_15 rfl ?_
      refine y_iconst 47 c52_45 rfl ?_
      refine y_icmp 52 50 c52_47 rfl rfl (yc_ne (by omega) (by omega)) (fun hb332 => ?_) (fun hb332 => ?_)
      · refine y_aload 53 c52_52 rfl rfl rfl ?_
        refine y_getR 56 c52_53 rfl kf316_4 ?_
        refine y_aload 57 c52_56 rfl rfl rfl ?_
        refine y_getX 60 (m 316 15) c52_57 rfl kf316_15 rfl ?_
        refine y_iload 61 c52_60 rfl rfl ?_
        refine y_iastore 62 c52_61 rfl ka321 (by omega) (y_nar0 _) ?_
        have hT333 := hT.up 321 ((m 316 15).toNat) v ((-2147483648)) 2147483647 rfl (by omega)
        have hF334 := hF.up 321 ((m 316 15).toNat) v rfl
        refine y_aload 63 c52_62 rfl rfl rfl ?_
        refine y_dup 64 c52_63 rfl rfl ?_
        refine y_getX 67 (m 316 15) c52_64 rfl kf316_15 rfl ?_
        refine y_iconst 68 c52_67 rfl ?_
        refine y_iadd 69 c52_68 rfl ?_
        refine y_putI 72 c52_69 rfl kf316_15 (y_fit0 _) ?_
        have hT335 := hT333.up 316 15 ((m 316 15) + 1) 0 48 rfl (by omega)
        have hF336 := hF334.up 316 15 ((m 316 15) + 1) rfl
        refine y_aload 73 c52_72 rfl rfl rfl ?_
        refine y_getX 76 ((m 316 15) + 1) c52_73 rfl kf316_15 rfl ?_
        refine y_iconst 77 c52_76 rfl ?_
        refine y_isub 78 c52_77 rfl ?_
        have es337 : (yup (yup m 321 ((m 316 15).toNat) v) 316 15 ((m 316 15) + 1)) 316 15 = (m 316 15) + 1 := rfl
        exact y_retI c52_78 (y_fit0 _) ⟨rfl, hT335, hF336, by omega⟩
      · refine y_iconst 51 c52_50 rfl ?_
        exact y_retI c52_51 (y_fit0 _) ⟨rfl, hT, hF, by omega⟩
    · refine y_aload 24 c52_23 rfl rfl rfl ?_
      refine y_getR 27 c52_24 rfl kf316_4 ?_
      refine y_iload 28 c52_27 rfl rfl ?_
      refine y_iaT 29 ((-2147483648)) 2147483647 c52_28 rfl ka321 (by omega) hT rfl (fun v338 hv338 gv338 => ?_)
      refine y_iload 30 c52_29 rfl rfl ?_
      refine y_icmp 35 33 c52_30 rfl rfl (yc_ne (by omega) (by omega)) (fun hb339 => ?_) (fun hb339 => ?_)
      · refine y_iinc 38 c52_35 rfl rfl rfl ?_
        refine y_goto 15 c52_38 rfl ?_
        exact ih (48 - (i + 1) : Int).toNat (by omega) (i + 1)   (by omega) (by omega)
      · refine y_iload 34 c52_33 rfl rfl ?_
        exact y_retI c52_34 (y_fit0 _) ⟨rfl, hT, hF, by omega⟩
set_option maxRecDepth 100000 in
theorem t52_316 {L : Nat} {xs : Nat → Int32} {d nn : Nat} {m : yM} {v : Int} (hT : Ty gT m) (hv : -2147483648 ≤ v ∧ v < 2147483648) (hm : 1 ≤ m 316 10) : YC (gZ L xs) d 52 [.ref 316, yI v] m nn (qI (fun r m' n' => n' = nn ∧ Ty gT m' ∧ Fr wVa316 m m' ∧ ((m' 316 15 = m 316 15 ∧ -1 ≤ r ∧ r < m 316 15) ∨ (m' 316 15 = m 316 15 + 1 ∧ r = m 316 15)))) := by
  refine YC.mkB [some (.ref 316), some (yI v), none] kn52 rfl rfl ?_
  refine y_aload 1 c52_0 rfl rfl rfl ?_
  refine y_getR 4 c52_1 rfl kf316_5 ?_
  refine y_aload 5 c52_4 rfl rfl rfl ?_
  refine y_getX 8 (m 316 10) c52_5 rfl kf316_10 rfl ?_
  have tb340 := hT.atp 316 10 0 10 rfl
  refine y_iconst 9 c52_8 rfl ?_
  refine y_isub 10 c52_9 rfl ?_
  refine y_aaload 11 c52_10 rfl kr322 (by omega) ?_
  refine y_getT 14 0 46 c52_11 rfl (ff326_2 (by omega)) hT (ft326_2 (by omega)) (fun v341 hv341 gv341 => ?_)
  refine y_istore 15 c52_14 rfl rfl ?_
  exact t52a_316 hT hv hm (48 - v341 : Int).toNat v341   (by omega) (by omega)
def wPm316 (a q : Nat) : Bool := (a == 316 && q == 15) || a == 321 || (decide (326 ≤ a ∧ a < 336) && q == 3)
theorem wPm316_m {k : Nat} (h : k < 10) : wPm316 (326 + k) 3 = true := by
  simp [wPm316]
  omega
theorem wPm316_P : ∀ a q, wPm316 a q = true → wPa316 a q = true := by
  intro a q h
  simp [wPm316] at h
  simp [wPa316]
  omega
theorem wVa316_Pm : ∀ a q, wVa316 a q = true → wPm316 a q = true := by
  intro a q h
  simp [wVa316] at h
  simp [wPm316]
  omega
theorem wVa316_no {k q : Nat} : wVa316 (326 + k) q = false := by
  simp [wVa316]
  omega
set_option maxRecDepth 100000 in
theorem t53_316 {L : Nat} {xs : Nat → Int32} {d nn : Nat} {m : yM} {v : Int} (hT : Ty gT m) (hv : -2147483648 ≤ v ∧ v < 2147483648) (hm : 1 ≤ m 316 10) (hp : m (326 + (m 316 10 - 1).toNat) 3 ≤ 1) (hr : m (326 + (m 316 10 - 1).toNat) 2 + 2 + m (326 + (m 316 10 - 1).toNat) 3 = m 316 15) : YC (gZ L xs) (d + 1) 53 [.ref 316, yI v] m nn (qI (fun r m' n' => n' = nn ∧ Ty gT m' ∧ Fr wPm316 m m' ∧ ((r = 0 ∧ ∀ a q, 322 ≤ a → m' a q = m a q) ∨ (r = 1 ∧ m' 316 15 = m 316 15 + 1 ∧ m' (326 + (m 316 10 - 1).toNat) 3 = m (326 + (m 316 10 - 1).toNat) 3 + 1 ∧ (MP 326 m → MP 326 m'))))) := by
  have tb10 := hT.atp 316 10 0 10 rfl
  refine YC.mkB [some (.ref 316), some (yI v), none] kn53 rfl rfl ?_
  have hF : Fr wPm316 m m := Fr.rf
  refine y_aload 1 c53_0 rfl rfl rfl ?_
  refine y_getX 4 (m 316 15) c53_1 rfl kf316_15 rfl ?_
  have tb342 := hT.atp 316 15 0 48 rfl
  refine y_istore 5 c53_4 rfl rfl ?_
  refine y_aload 6 c53_5 rfl rfl rfl ?_
  refine y_iload 7 c53_6 rfl rfl ?_
  have tb344 := hT.atp 316 10 0 10 rfl
  refine y_callIB 10 [.ref 316, yI v] [] c53_7 rfl rfl rfl rfl rfl (ycanO km52 ko316) (t52_316 hT (by omega) (by omega)) (fun rq343 mq343 nq343 hq343 => ?_)
  obtain ⟨rfl, hTq343, hFq343, hq343⟩ := hq343
  have hF345 := hF.tr hFq343 wVa316_Pm
  refine y_pop 11 c53_10 rfl rfl ?_
  refine y_aload 12 c53_11 rfl rfl rfl ?_
  refine y_getX 15 (mq343 316 15) c53_12 rfl kf316_15 rfl ?_
  have tb346 := hTq343.atp 316 15 0 48 rfl
  refine y_iload 16 c53_15 rfl rfl ?_
  refine y_icmp 21 19 c53_16 rfl rfl (yc_ne (by omega) (by omega)) (fun hb347 => ?_) (fun hb347 => ?_)
  · refine y_aload 22 c53_21 rfl rfl rfl ?_
    refine y_getR 25 c53_22 rfl kf316_5 ?_
    refine y_aload 26 c53_25 rfl rfl rfl ?_
    refine y_getX 29 (m 316 10) c53_26 rfl kf316_10 (hFq343 316 10 rfl) ?_
    refine y_iconst 30 c53_29 rfl ?_
    refine y_isub 31 c53_30 rfl ?_
    refine y_aaload 32 c53_31 rfl kr322 (by omega) ?_
    have hk3 := hFq343 (326 + (m 316 10 - 1).toNat) 3 wVa316_no
    have hk2 := hFq343 (326 + (m 316 10 - 1).toNat) 2 wVa316_no
    have hj : (m 316 10 - 1).toNat < 10 := by omega
    refine y_dup 33 c53_32 rfl rfl ?_
    refine y_getT 36 0 2 c53_33 rfl (ff326_3 (by omega)) hTq343 (ft326_3 (by omega)) (fun v348 hv348 gv348 => ?_)
    refine y_iconst 37 c53_36 rfl ?_
    refine y_iadd 38 c53_37 rfl ?_
    refine y_putI 41 c53_38 rfl (ff326_3 (by omega)) (y_fit0 _) ?_
    have hT349 := hTq343.up (326 + ((m 316 10) - 1).toNat) 3 (v348 + 1) 0 2 (ft326_3 (by omega)) (by omega)
    have hF350 := hF345.up (326 + ((m 316 10) - 1).toNat) 3 (v348 + 1) (wPm316_m (by omega))
    refine y_iconst 42 c53_41 rfl ?_
    have es351 : (yup mq343 (326 + ((m 316 10) - 1).toNat) 3 (v348 + 1)) 316 15 = mq343 316 15 := (yup_na (by omega))
    refine y_retI c53_42 (y_fit1 (by omega)) ⟨rfl, hT349, hF350, Or.inr ⟨rfl, by omega, by rw [yup_eq]; omega, fun hM j hj => ?_⟩⟩
    have h0 := hM j hj
    have h3 := hFq343 (326 + j) 3 wVa316_no
    have h2 := hFq343 (326 + j) 2 wVa316_no
    by_cases e : j = (m 316 10 - 1).toNat
    · subst e
      rw [yup_nk (by decide), yup_eq]
      omega
    · rw [yup_nk (by decide), yup_na (by omega)]
      omega
  · refine y_iconst 20 c53_19 rfl ?_
    exact y_retI c53_20 (y_fit1 (by omega)) ⟨rfl, hTq343, hF345, Or.inl ⟨rfl, fun a q ha => hFq343 a q (by simp [wVa316]; omega)⟩⟩
