/-! CONTRACTS: printed by wip/whole/gen80.py and on -/
def wSt256 (k a q : Nat) : Bool := (a == 2 && (q == 2 || q == 3 || q == 4)) || (a == 256 && (decide (12 ≤ q) && decide (q ≤ 16))) || a == 261 || a == 265 || a == 276 + k
theorem wSt256_s {k j q : Nat} (h : j = k) : wSt256 k (276 + j) q = true := by
  simp [wSt256, h]
theorem wVa256_St {k : Nat} : ∀ a q, wVa256 a q = true → wSt256 k a q = true := by
  intro a q h
  simp [wVa256] at h
  simp [wSt256]
  omega
set_option maxRecDepth 100000 in
theorem t57_256 {L : Nat} {xs : Nat → Int32} {d nn : Nat} {m : yM} {k : Int} (hT : Ty gT m) (hk : 0 ≤ k ∧ k ≤ 9) : YC (gZ L xs) d 57 [.ref (266 + k.toNat)] m nn (qP m nn (fun r => r = m (266 + k.toNat) 2 + 1 ∧ 1 ≤ r ∧ r ≤ 47)) := by
  refine YC.mkB [some (.ref (266 + k.toNat))] kn57 rfl rfl ?_
  refine y_aload 1 c57_0 rfl rfl rfl ?_
  refine y_getT 4 0 46 c57_1 rfl (ff266_2 (by omega)) hT (ft266_2 (by omega)) (fun v352 hv352 gv352 => ?_)
  refine y_iconst 5 c57_4 rfl ?_
  refine y_iadd 6 c57_5 rfl ?_
  exact y_retP c57_6 (y_fit0 _) (by omega)
set_option maxRecDepth 100000 in
theorem t87_256 {L : Nat} {xs : Nat → Int32} {d nn : Nat} {m : yM} {k p : Int} (hT : Ty gT m) (hk : 0 ≤ k ∧ k ≤ 9) (hp : 0 ≤ p ∧ p ≤ 1) (hM : MP 266 m) : YC (gZ L xs) d 87 [.ref (266 + k.toNat), yI p] m nn (qP m nn (fun r => (p < m (266 + k.toNat) 3 ∧ 2 ≤ r ∧ r ≤ 47) ∨ (m (266 + k.toNat) 3 ≤ p ∧ r = -1))) := by
  have hMk := hM k.toNat (by omega)
  refine YC.mkB [some (.ref (266 + k.toNat)), some (yI p)] kn87 rfl rfl ?_
  refine y_iload 1 c87_0 rfl rfl ?_
  refine y_aload 2 c87_1 rfl rfl rfl ?_
  refine y_getT 5 0 2 c87_2 rfl (ff266_3 (by omega)) hT (ft266_3 (by omega)) (fun v353 hv353 gv353 => ?_)
  refine y_icmp 19 8 c87_5 rfl rfl (yc_ge (by omega) (by omega)) (fun hb354 => ?_) (fun hb354 => ?_)
  · refine y_iconst 20 c87_19 rfl ?_
    exact y_retP c87_20 (y_fit0 _) (by omega)
  · refine y_aload 9 c87_8 rfl rfl rfl ?_
    refine y_getT 12 0 46 c87_9 rfl (ff266_2 (by omega)) hT (ft266_2 (by omega)) (fun v355 hv355 gv355 => ?_)
    refine y_iconst 13 c87_12 rfl ?_
    refine y_iadd 14 c87_13 rfl ?_
    refine y_iload 15 c87_14 rfl rfl ?_
    refine y_iadd 16 c87_15 rfl ?_
    refine y_goto 20 c87_16 rfl ?_
    exact y_retP c87_20 (y_fit0 _) (by omega)
set_option maxRecDepth 100000 in
theorem t56_256 {L : Nat} {xs : Nat → Int32} {d nn : Nat} {m : yM} (hT : Ty gT m) (hm : 1 ≤ m 256 10) (hs : m 256 16 ≤ 39) : YC (gZ L xs) d 56 [.ref 256] m nn (qA (fun R m' n' => n' = nn ∧ R = 276 + (m 256 16).toNat ∧ m' = yup (yup (yup (yup m (276 + (m 256 16).toNat) 1 (m 256 10 - 1)) (276 + (m 256 16).toNat) 2 (-1)) (276 + (m 256 16).toNat) 8 0) 256 16 (m 256 16 + 1))) := by
  refine YC.mkB [some (.ref 256), none] kn56 rfl rfl ?_
  refine y_aload 1 c56_0 rfl rfl rfl ?_
  refine y_getR 4 c56_1 rfl kf256_6 ?_
  refine y_aload 5 c56_4 rfl rfl rfl ?_
  refine y_getX 8 (m 256 16) c56_5 rfl kf256_16 rfl ?_
  have tb356 := hT.atp 256 16 0 40 rfl
  refine y_aaload 9 c56_8 rfl kr263 (by omega) ?_
  refine y_astore 10 c56_9 rfl rfl rfl ?_
  refine y_aload 11 c56_10 rfl rfl rfl ?_
  refine y_aload 12 c56_11 rfl rfl rfl ?_
  refine y_getX 15 (m 256 10) c56_12 rfl kf256_10 rfl ?_
  have tb357 := hT.atp 256 10 0 10 rfl
  refine y_iconst 16 c56_15 rfl ?_
  refine y_isub 17 c56_16 rfl ?_
  refine y_putI 20 c56_17 rfl (ff276_1 (by omega)) (y_fit0 _) ?_
  have hT358 := hT.up (276 + (m 256 16).toNat) 1 ((m 256 10) - 1) 0 9 (ft276_1 (by omega)) (by omega)
  refine y_aload 21 c56_20 rfl rfl rfl ?_
  refine y_iconst 22 c56_21 rfl ?_
  refine y_putI 25 c56_22 rfl (ff276_2 (by omega)) (y_fit0 _) ?_
  have hT360 := hT358.up (276 + (m 256 16).toNat) 2 ((-1)) ((-1)) 47 (ft276_2 (by omega)) (by omega)
  refine y_aload 26 c56_25 rfl rfl rfl ?_
  refine y_iconst 27 c56_26 rfl ?_
  refine y_putI 30 c56_27 rfl (ff276_8 (by omega)) (y_fit0 _) ?_
  have hT362 := hT360.up (276 + (m 256 16).toNat) 8 0 0 2 (ft276_8 (by omega)) (by omega)
  refine y_aload 31 c56_30 rfl rfl rfl ?_
  refine y_dup 32 c56_31 rfl rfl ?_
  refine y_getX 35 (m 256 16) c56_32 rfl kf256_16 ((yup_na (by omega)).trans ((yup_na (by omega)).trans (yup_na (by omega)))) ?_
  refine y_iconst 36 c56_35 rfl ?_
  refine y_iadd 37 c56_36 rfl ?_
  refine y_putI 40 c56_37 rfl kf256_16 (y_fit0 _) ?_
  have hT364 := hT362.up 256 16 ((m 256 16) + 1) 0 40 rfl (by omega)
  refine y_aload 41 c56_40 rfl rfl rfl ?_
  exact y_retA c56_41 ⟨rfl, rfl, rfl⟩
set_option maxRecDepth 100000 in
theorem t61_256 {L : Nat} {xs : Nat → Int32} {d nn : Nat} {m : yM} {k : Int} (hT : Ty gT m) (hk : 0 ≤ k ∧ k ≤ 39) : YC (gZ L xs) d 61 [.ref 256, .ref (276 + k.toNat)] m nn (qI (fun r m' n' => n' = nn ∧ ((r = 0 ∧ m = m' ∧ True) ∨ (r = 1 ∧ m' = yup (yup (yup m (276 + k.toNat) 0 5) (276 + k.toNat) 6 (m 256 14)) 256 14 (m 256 14 + 1) ∧ m 256 14 < 12)))) := by
  refine YC.mkB [some (.ref 256), some (.ref (276 + k.toNat))] kn61 rfl rfl ?_
  refine y_aload 1 c61_0 rfl rfl rfl ?_
  refine y_getX 4 (m 256 14) c61_1 rfl kf256_14 rfl ?_
  have tb366 := hT.atp 256 14 0 12 rfl
  refine y_iconst 6 c61_4 rfl ?_
  refine y_icmp 11 9 c61_6 rfl rfl (yc_ne (by omega) (by omega)) (fun hb367 => ?_) (fun hb367 => ?_)
  · refine y_aload 12 c61_11 rfl rfl rfl ?_
    refine y_iconst 13 c61_12 rfl ?_
    refine y_putI 16 c61_13 rfl (ff276_0 (by omega)) (y_fit0 _) ?_
    have hT368 := hT.up (276 + k.toNat) 0 5 0 9 (ft276_0 (by omega)) (by omega)
    refine y_aload 17 c61_16 rfl rfl rfl ?_
    refine y_aload 18 c61_17 rfl rfl rfl ?_
    refine y_getX 21 (m 256 14) c61_18 rfl kf256_14 (yup_na (by omega)) ?_
    refine y_putI 24 c61_21 rfl (ff276_6 (by omega)) (y_fit0 _) ?_
    have hT370 := hT368.up (276 + k.toNat) 6 (m 256 14) ((-1)) 11 (ft276_6 (by omega)) (by omega)
    refine y_aload 25 c61_24 rfl rfl rfl ?_
    refine y_dup 26 c61_25 rfl rfl ?_
    refine y_getX 29 (m 256 14) c61_26 rfl kf256_14 ((yup_na (by omega)).trans (yup_na (by omega))) ?_
    refine y_iconst 30 c61_29 rfl ?_
    refine y_iadd 31 c61_30 rfl ?_
    refine y_putI 34 c61_31 rfl kf256_14 (y_fit0 _) ?_
    have hT372 := hT370.up 256 14 ((m 256 14) + 1) 0 12 rfl (by omega)
    refine y_iconst 35 c61_34 rfl ?_
    exact y_retI c61_35 (y_fit1 (by omega)) ⟨rfl, Or.inr ⟨rfl, rfl, by omega⟩⟩
  · refine y_iconst 10 c61_9 rfl ?_
    exact y_retI c61_10 (y_fit1 (by omega)) ⟨rfl, Or.inl ⟨rfl, rfl, trivial⟩⟩
set_option maxRecDepth 100000 in
theorem t65_256 {L : Nat} {xs : Nat → Int32} {d nn : Nat} {m : yM} {k : Int} (hT : Ty gT m) (hk : 0 ≤ k ∧ k ≤ 39) : YC (gZ L xs) d 65 [.ref 256, .ref (276 + k.toNat)] m nn (qI (fun r m' n' => n' = nn ∧ ((r = 0 ∧ m = m' ∧ True) ∨ (r = 1 ∧ m' = yup (yup (yup m (276 + k.toNat) 0 4) (276 + k.toNat) 6 (m 256 12)) 256 12 (m 256 12 + 1) ∧ m 256 12 < 12)))) := by
  refine YC.mkB [some (.ref 256), some (.ref (276 + k.toNat))] kn65 rfl rfl ?_
  refine y_aload 1 c65_0 rfl rfl rfl ?_
  refine y_getX 4 (m 256 12) c65_1 rfl kf256_12 rfl ?_
  have tb374 := hT.atp 256 12 0 12 rfl
  refine y_iconst 6 c65_4 rfl ?_
  refine y_icmp 11 9 c65_6 rfl rfl (yc_ne (by omega) (by omega)) (fun hb375 => ?_) (fun hb375 => ?_)
  · refine y_aload 12 c65_11 rfl rfl rfl ?_
    refine y_iconst 13 c65_12 rfl ?_
    refine y_putI 16 c65_13 rfl (ff276_0 (by omega)) (y_fit0 _) ?_
    have hT376 := hT.up (276 + k.toNat) 0 4 0 9 (ft276_0 (by omega)) (by omega)
    refine y_aload 17 c65_16 rfl rfl rfl ?_
    refine y_aload 18 c65_17 rfl rfl rfl ?_
    refine y_getX 21 (m 256 12) c65_18 rfl kf256_12 (yup_na (by omega)) ?_
    refine y_putI 24 c65_21 rfl (ff276_6 (by omega)) (y_fit0 _) ?_
    have hT378 := hT376.up (276 + k.toNat) 6 (m 256 12) ((-1)) 11 (ft276_6 (by omega)) (by omega)
    refine y_aload 25 c65_24 rfl rfl rfl ?_
    refine y_dup 26 c65_25 rfl rfl ?_
    refine y_getX 29 (m 256 12) c65_26 rfl kf256_12 ((yup_na (by omega)).trans (yup_na (by omega))) ?_
    refine y_iconst 30 c65_29 rfl ?_
    refine y_iadd 31 c65_30 rfl ?_
    refine y_putI 34 c65_31 rfl kf256_12 (y_fit0 _) ?_
    have hT380 := hT378.up 256 12 ((m 256 12) + 1) 0 12 rfl (by omega)
    refine y_iconst 35 c65_34 rfl ?_
    exact y_retI c65_35 (y_fit1 (by omega)) ⟨rfl, Or.inr ⟨rfl, rfl, by omega⟩⟩
  · refine y_iconst 10 c65_9 rfl ?_
    exact y_retI c65_10 (y_fit1 (by omega)) ⟨rfl, Or.inl ⟨rfl, rfl, trivial⟩⟩
set_option maxRecDepth 100000 in
theorem t63_256 {L : Nat} {xs : Nat → Int32} {d nn : Nat} {m : yM} {k : Int} (hT : Ty gT m) (hk : 0 ≤ k ∧ k ≤ 39) (hs : 1 ≤ m 256 16) : YC (gZ L xs) d 63 [.ref 256, .ref (276 + k.toNat)] m nn (qI (fun r m' n' => n' = nn ∧ ((r = 0 ∧ m = m' ∧ True) ∨ (r = 1 ∧ m' = yup (yup (yup m (276 + k.toNat) 0 7) 265 (m 256 13).toNat (m 256 16 - 1)) 256 13 (m 256 13 + 1) ∧ m 256 13 < 8)))) := by
  refine YC.mkB [some (.ref 256), some (.ref (276 + k.toNat))] kn63 rfl rfl ?_
  refine y_aload 1 c63_0 rfl rfl rfl ?_
  refine y_getX 4 (m 256 13) c63_1 rfl kf256_13 rfl ?_
  have tb382 := hT.atp 256 13 0 8 rfl
  refine y_iconst 6 c63_4 rfl ?_
  refine y_icmp 11 9 c63_6 rfl rfl (yc_ne (by omega) (by omega)) (fun hb383 => ?_) (fun hb383 => ?_)
  · refine y_aload 12 c63_11 rfl rfl rfl ?_
    refine y_iconst 14 c63_12 rfl ?_
    refine y_putI 17 c63_14 rfl (ff276_0 (by omega)) (y_fit0 _) ?_
    have hT384 := hT.up (276 + k.toNat) 0 7 0 9 (ft276_0 (by omega)) (by omega)
    refine y_aload 18 c63_17 rfl rfl rfl ?_
    refine y_getR 21 c63_18 rfl kf256_8 ?_
    refine y_aload 22 c63_21 rfl rfl rfl ?_
    refine y_getX 25 (m 256 13) c63_22 rfl kf256_13 (yup_na (by omega)) ?_
    refine y_aload 26 c63_25 rfl rfl rfl ?_
    refine y_getX 29 (m 256 16) c63_26 rfl kf256_16 (yup_na (by omega)) ?_
    have tb386 := hT.atp 256 16 0 40 rfl
    refine y_iconst 30 c63_29 rfl ?_
    refine y_isub 31 c63_30 rfl ?_
    refine y_iastore 32 c63_31 rfl ka265 (by omega) (y_nar0 _) ?_
    have hT387 := hT384.up 265 ((m 256 13).toNat) ((m 256 16) - 1) 0 39 rfl (by omega)
    refine y_aload 33 c63_32 rfl rfl rfl ?_
    refine y_dup 34 c63_33 rfl rfl ?_
    refine y_getX 37 (m 256 13) c63_34 rfl kf256_13 ((yup_na (by decide)).trans (yup_na (by omega))) ?_
    refine y_iconst 38 c63_37 rfl ?_
    refine y_iadd 39 c63_38 rfl ?_
    refine y_putI 42 c63_39 rfl kf256_13 (y_fit0 _) ?_
    have hT389 := hT387.up 256 13 ((m 256 13) + 1) 0 8 rfl (by omega)
    refine y_iconst 43 c63_42 rfl ?_
    exact y_retI c63_43 (y_fit1 (by omega)) ⟨rfl, Or.inr ⟨rfl, rfl, by omega⟩⟩
  · refine y_iconst 10 c63_9 rfl ?_
    exact y_retI c63_10 (y_fit1 (by omega)) ⟨rfl, Or.inl ⟨rfl, rfl, trivial⟩⟩
set_option maxRecDepth 100000 in
theorem t72a_256 {L : Nat} {xs : Nat → Int32} {d nn : Nat} {m : yM} {c v p : Int} (hT : Ty gT m) (hc : 0 ≤ c ∧ c ≤ 5) (hv : -2147483648 ≤ v ∧ v < 2147483648) (hp : 0 ≤ p ∧ p ≤ 2) : ∀ (k : Nat) (t : Int) (i : Int) (x6 : Option Value), 6 - i = k → -1 ≤ t ∧ t ≤ 5 → 0 ≤ i ∧ i ≤ 6 → YW (gZ L xs) 72 (d + 1) 6 [some (.ref 256), some (yI c), some (yI v), some (yI p), some (yI t), some (yI i), x6] [] m nn (qP m nn (fun r => -1 ≤ r ∧ r < m 256 10 ∧ (0 ≤ r → m (266 + r.toNat) 3 = p))) := by
  intro k
  induction k using Nat.strongRecOn with
  | ind k ih =>
    intro t i x6 hk ht hi
    have tb := hT.atp 256 10 0 10 rfl
    refine y_iload 8 c72_6 rfl rfl ?_
    refine y_iconst 10 c72_8 rfl ?_
    refine y_icmp 70 13 c72_10 rfl rfl (yc_ge (by omega) (by omega)) (fun hb391 => ?_) (fun hb391 => ?_)
    · refine y_iconst 71 c72_70 rfl ?_
      exact y_retP c72_71 (y_fit0 _) (⟨by omega, by omega, fun _ => by first | omega | (simp only [*] at *; omega)⟩)
    · refine y_iload 15 c72_13 rfl rfl ?_
      refine y_iconst 16 c72_15 rfl ?_
      refine y_icmp 70 19 c72_16 rfl rfl (yc_eq (by omega) (by omega)) (fun hb392 => ?_) (fun hb392 => ?_)
      · refine y_iconst 71 c72_70 rfl ?_
        exact y_retP c72_71 (y_fit0 _) (⟨by omega, by omega, fun _ => by first | omega | (simp only [*] at *; omega)⟩)
      · refine y_aload 20 c72_19 rfl rfl rfl ?_
        refine y_iload 22 c72_20 rfl rfl ?_
        refine y_iload 23 c72_22 rfl rfl ?_
        refine y_callP 26 [.ref 256, yI t, yI v] [] c72_23 rfl rfl rfl rfl rfl (ycanO km50 ko256) (t50_256 hT (by omega) (by omega)) (fun r393 hr393 => ?_)
        refine y_istore 28 c72_26 rfl rfl ?_
        refine y_iload 30 c72_28 rfl rfl ?_
        refine y_iconst 31 c72_30 rfl ?_
        refine y_icmp 55 34 c72_31 rfl rfl (yc_eq (by omega) (by omega)) (fun hb394 => ?_) (fun hb394 => ?_)
        · refine y_aload 56 c72_55 rfl rfl rfl ?_
          refine y_getR 59 c72_56 rfl kf256_1 ?_
          refine y_iload 61 c72_59 rfl rfl ?_
          refine y_iaT 62 ((-1)) 5 c72_61 rfl ka258 (by omega) hT rfl (fun v395 hv395 gv395 => ?_)
          refine y_istore 64 c72_62 rfl rfl ?_
          refine y_iinc 67 c72_64 rfl rfl rfl ?_
          refine y_goto 6 c72_67 rfl ?_
          exact ih (6 - (i + 1) : Int).toNat (by omega) v395 (i + 1) _   (by omega) (by omega) (by omega)
        · refine y_aload 35 c72_34 rfl rfl rfl ?_
          refine y_getR 38 c72_35 rfl kf256_5 ?_
          refine y_iload 40 c72_38 rfl rfl ?_
          refine y_aaload 41 c72_40 rfl kr262 (by omega) ?_
          refine y_getT 44 0 2 c72_41 rfl (ff266_3 (by omega)) hT (ft266_3 (by omega)) (fun v396 hv396 gv396 => ?_)
          refine y_iload 45 c72_44 rfl rfl ?_
          refine y_icmp 53 48 c72_45 rfl rfl (yc_ne (by omega) (by omega)) (fun hb397 => ?_) (fun hb397 => ?_)
          · refine y_iconst 54 c72_53 rfl ?_
            exact y_retP c72_54 (y_fit0 _) (⟨by omega, by omega, fun _ => by first | omega | (simp only [*] at *; omega)⟩)
          · refine y_iload 50 c72_48 rfl rfl ?_
            refine y_goto 54 c72_50 rfl ?_
            exact y_retP c72_54 (y_fit0 _) (⟨by omega, by omega, fun _ => by first | omega | (simp only [*] at *; omega)⟩)
set_option maxRecDepth 100000 in
theorem t72_256 {L : Nat} {xs : Nat → Int32} {d nn : Nat} {m : yM} {c v p : Int} (hT : Ty gT m) (hc : 0 ≤ c ∧ c ≤ 5) (hv : -2147483648 ≤ v ∧ v < 2147483648) (hp : 0 ≤ p ∧ p ≤ 2) : YC (gZ L xs) (d + 1) 72 [.ref 256, yI c, yI v, yI p] m nn (qP m nn (fun r => -1 ≤ r ∧ r < m 256 10 ∧ (0 ≤ r → m (266 + r.toNat) 3 = p))) := by
  refine YC.mkB [some (.ref 256), some (yI c), some (yI v), some (yI p), none, none, none] kn72 rfl rfl ?_
  refine y_iload 1 c72_0 rfl rfl ?_
  refine y_istore 3 c72_1 rfl rfl ?_
  refine y_iconst 4 c72_3 rfl ?_
  refine y_istore 6 c72_4 rfl rfl ?_
  exact t72a_256 hT hc hv hp (6 - 0 : Int).toNat c 0 _   (by omega) (by omega) (by omega)
def wSt316 (k a q : Nat) : Bool := (a == 2 && (q == 2 || q == 3 || q == 4)) || (a == 316 && (decide (12 ≤ q) && decide (q ≤ 16))) || a == 321 || a == 325 || a == 336 + k
theorem wSt316_s {k j q : Nat} (h : j = k) : wSt316 k (336 + j) q = true := by
  simp [wSt316, h]
theorem wVa316_St {k : Nat} : ∀ a q, wVa316 a q = true → wSt316 k a q = true := by
  intro a q h
  simp [wVa316] at h
  simp [wSt316]
  omega
set_option maxRecDepth 100000 in
theorem t57_316 {L : Nat} {xs : Nat → Int32} {d nn : Nat} {m : yM} {k : Int} (hT : Ty gT m) (hk : 0 ≤ k ∧ k ≤ 9) : YC (gZ L xs) d 57 [.ref (326 + k.toNat)] m nn (qP m nn (fun r => r = m (326 + k.toNat) 2 + 1 ∧ 1 ≤ r ∧ r ≤ 47)) := by
  refine YC.mkB [some (.ref (326 + k.toNat))] kn57 rfl rfl ?_
  refine y_aload 1 c57_0 rfl rfl rfl ?_
  refine y_getT 4 0 46 c57_1 rfl (ff326_2 (by omega)) hT (ft326_2 (by omega)) (fun v398 hv398 gv398 => ?_)
  refine y_iconst 5 c57_4 rfl ?_
  refine y_iadd 6 c57_5 rfl ?_
  exact y_retP c57_6 (y_fit0 _) (by omega)
set_option maxRecDepth 100000 in
theorem t87_316 {L : Nat} {xs : Nat → Int32} {d nn : Nat} {m : yM} {k p : Int} (hT : Ty gT m) (hk : 0 ≤ k ∧ k ≤ 9) (hp : 0 ≤ p ∧ p ≤ 1) (hM : MP 326 m) : YC (gZ L xs) d 87 [.ref (326 + k.toNat), yI p] m nn (qP m nn (fun r => (p < m (326 + k.toNat) 3 ∧ 2 ≤ r ∧ r ≤ 47) ∨ (m (326 + k.toNat) 3 ≤ p ∧ r = -1))) := by
  have hMk := hM k.toNat (by omega)
  refine YC.mkB [some (.ref (326 + k.toNat)), some (yI p)] kn87 rfl rfl ?_
  refine y_iload 1 c87_0 rfl rfl ?_
  refine y_aload 2 c87_1 rfl rfl rfl ?_
  refine y_getT 5 0 2 c87_2 rfl (ff326_3 (by omega)) hT (ft326_3 (by omega)) (fun v399 hv399 gv399 => ?_)
  refine y_icmp 19 8 c87_5 rfl rfl (yc_ge (by omega) (by omega)) (fun hb400 => ?_) (fun hb400 => ?_)
  · refine y_iconst 20 c87_19 rfl ?_
    exact y_retP c87_20 (y_fit0 _) (by omega)
  · refine y_aload 9 c87_8 rfl rfl rfl ?_
    refine y_getT 12 0 46 c87_9 rfl (ff326_2 (by omega)) hT (ft326_2 (by omega)) (fun v401 hv401 gv401 => ?_)
    refine y_iconst 13 c87_12 rfl ?_
    refine y_iadd 14 c87_13 rfl ?_
    refine y_iload 15 c87_14 rfl rfl ?_
    refine y_iadd 16 c87_15 rfl ?_
    refine y_goto 20 c87_16 rfl ?_
    exact y_retP c87_20 (y_fit0 _) (by omega)
set_option maxRecDepth 100000 in
theorem t56_316 {L : Nat} {xs : Nat → Int32} {d nn : Nat} {m : yM} (hT : Ty gT m) (hm : 1 ≤ m 316 10) (hs : m 316 16 ≤ 39) : YC (gZ L xs) d 56 [.ref 316] m nn (qA (fun R m' n' => n' = nn ∧ R = 336 + (m 316 16).toNat ∧ m' = yup (yup (yup (yup m (336 + (m 316 16).toNat) 1 (m 316 10 - 1)) (336 + (m 316 16).toNat) 2 (-1)) (336 + (m 316 16).toNat) 8 0) 316 16 (m 316 16 + 1))) := by
  refine YC.mkB [some (.ref 316), none] kn56 rfl rfl ?_
  refine y_aload 1 c56_0 rfl rfl rfl ?_
  refine y_getR 4 c56_1 rfl kf316_6 ?_
  refine y_aload 5 c56_4 rfl rfl rfl ?_
  refine y_getX 8 (m 316 16) c56_5 rfl kf316_16 rfl ?_
  have tb402 := hT.atp 316 16 0 40 rfl
  refine y_aaload 9 c56_8 rfl kr323 (by omega) ?_
  refine y_astore 10 c56_9 rfl rfl rfl ?_
  refine y_aload 11 c56_10 rfl rfl rfl ?_
  refine y_aload 12 c56_11 rfl rfl rfl ?_
  refine y_getX 15 (m 316 10) c56_12 rfl kf316_10 rfl ?_
  have tb403 := hT.atp 316 10 0 10 rfl
  refine y_iconst 16 c56_15 rfl ?_
  refine y_isub 17 c56_16 rfl ?_
  refine y_putI 20 c56_17 rfl (ff336_1 (by omega)) (y_fit0 _) ?_
  have hT404 := hT.up (336 + (m 316 16).toNat) 1 ((m 316 10) - 1) 0 9 (ft336_1 (by omega)) (by omega)
  refine y_aload 21 c56_20 rfl rfl rfl ?_
  refine y_iconst 22 c56_21 rfl ?_
  refine y_putI 25 c56_22 rfl (ff336_2 (by omega)) (y_fit0 _) ?_
  have hT406 := hT404.up (336 + (m 316 16).toNat) 2 ((-1)) ((-1)) 47 (ft336_2 (by omega)) (by omega)
  refine y_aload 26 c56_25 rfl rfl rfl ?_
  refine y_iconst 27 c56_26 rfl ?_
  refine y_putI 30 c56_27 rfl (ff336_8 (by omega)) (y_fit0 _) ?_
  have hT408 := hT406.up (336 + (m 316 16).toNat) 8 0 0 2 (ft336_8 (by omega)) (by omega)
  refine y_aload 31 c56_30 rfl rfl rfl ?_
  refine y_dup 32 c56_31 rfl rfl ?_
  refine y_getX 35 (m 316 16) c56_32 rfl kf316_16 ((yup_na (by omega)).trans ((yup_na (by omega)).trans (yup_na (by omega)))) ?_
  refine y_iconst 36 c56_35 rfl ?_
  refine y_iadd 37 c56_36 rfl ?_
  refine y_putI 40 c56_37 rfl kf316_16 (y_fit0 _) ?_
  have hT410 := hT408.up 316 16 ((m 316 16) + 1) 0 40 rfl (by omega)
  refine y_aload 41 c56_40 rfl rfl rfl ?_
  exact y_retA c56_41 ⟨rfl, rfl, rfl⟩
set_option maxRecDepth 100000 in
theorem t61_316 {L : Nat} {xs : Nat → Int32} {d nn : Nat} {m : yM} {k : Int} (hT : Ty gT m) (hk : 0 ≤ k ∧ k ≤ 39) : YC (gZ L xs) d 61 [.ref 316, .ref (336 + k.toNat)] m nn (qI (fun r m' n' => n' = nn ∧ ((r = 0 ∧ m = m' ∧ True) ∨ (r = 1 ∧ m' = yup (yup (yup m (336 + k.toNat) 0 5) (336 + k.toNat) 6 (m 316 14)) 316 14 (m 316 14 + 1) ∧ m 316 14 < 12)))) := by
  refine YC.mkB [some (.ref 316), some (.ref (336 + k.toNat))] kn61 rfl rfl ?_
  refine y_aload 1 c61_0 rfl rfl rfl ?_
  refine y_getX 4 (m 316 14) c61_1 rfl kf316_14 rfl ?_
  have tb412 := hT.atp 316 14 0 12 rfl
  refine y_iconst 6 c61_4 rfl ?_
  refine y_icmp 11 9 c61_6 rfl rfl (yc_ne (by omega) (by omega)) (fun hb413 => ?_) (fun hb413 => ?_)
  · refine y_aload 12 c61_11 rfl rfl rfl ?_
    refine y_iconst 13 c61_12 rfl ?_
    refine y_putI 16 c61_13 rfl (ff336_0 (by omega)) (y_fit0 _) ?_
    have hT414 := hT.up (336 + k.toNat) 0 5 0 9 (ft336_0 (by omega)) (by omega)
    refine y_aload 17 c61_16 rfl rfl rfl ?_
    refine y_aload 18 c61_17 rfl rfl rfl ?_
    refine y_getX 21 (m 316 14) c61_18 rfl kf316_14 (yup_na (by omega)) ?_
    refine y_putI 24 c61_21 rfl (ff336_6 (by omega)) (y_fit0 _) ?_
    have hT416 := hT414.up (336 + k.toNat) 6 (m 316 14) ((-1)) 11 (ft336_6 (by omega)) (by omega)
    refine y_aload 25 c61_24 rfl rfl rfl ?_
    refine y_dup 26 c61_25 rfl rfl ?_
    refine y_getX 29 (m 316 14) c61_26 rfl kf316_14 ((yup_na (by omega)).trans (yup_na (by omega))) ?_
    refine y_iconst 30 c61_29 rfl ?_
    refine y_iadd 31 c61_30 rfl ?_
    refine y_putI 34 c61_31 rfl kf316_14 (y_fit0 _) ?_
    have hT418 := hT416.up 316 14 ((m 316 14) + 1) 0 12 rfl (by omega)
    refine y_iconst 35 c61_34 rfl ?_
    exact y_retI c61_35 (y_fit1 (by omega)) ⟨rfl, Or.inr ⟨rfl, rfl, by omega⟩⟩
  · refine y_iconst 10 c61_9 rfl ?_
    exact y_retI c61_10 (y_fit1 (by omega)) ⟨rfl, Or.inl ⟨rfl, rfl, trivial⟩⟩
set_option maxRecDepth 100000 in
theorem t65_316 {L : Nat} {xs : Nat → Int32} {d nn : Nat} {m : yM} {k : Int} (hT : Ty gT m) (hk : 0 ≤ k ∧ k ≤ 39) : YC (gZ L xs) d 65 [.ref 316, .ref (336 + k.toNat)] m nn (qI (fun r m' n' => n' = nn ∧ ((r = 0 ∧ m = m' ∧ True) ∨ (r = 1 ∧ m' = yup (yup (yup m (336 + k.toNat) 0 4) (336 + k.toNat) 6 (m 316 12)) 316 12 (m 316 12 + 1) ∧ m 316 12 < 12)))) := by
  refine YC.mkB [some (.ref 316), some (.ref (336 + k.toNat))] kn65 rfl rfl ?_
  refine y_aload 1 c65_0 rfl rfl rfl ?_
  refine y_getX 4 (m 316 12) c65_1 rfl kf316_12 rfl ?_
  have tb420 := hT.atp 316 12 0 12 rfl
  refine y_iconst 6 c65_4 rfl ?_
  refine y_icmp 11 9 c65_6 rfl rfl (yc_ne (by omega) (by omega)) (fun hb421 => ?_) (fun hb421 => ?_)
  · refine y_aload 12 c65_11 rfl rfl rfl ?_
    refine y_iconst 13 c65_12 rfl ?_
    refine y_putI 16 c65_13 rfl (ff336_0 (by omega)) (y_fit0 _) ?_
    have hT422 := hT.up (336 + k.toNat) 0 4 0 9 (ft336_0 (by omega)) (by omega)
    refine y_aload 17 c65_16 rfl rfl rfl ?_
    refine y_aload 18 c65_17 rfl rfl rfl ?_
    refine y_getX 21 (m 316 12) c65_18 rfl kf316_12 (yup_na (by omega)) ?_
    refine y_putI 24 c65_21 rfl (ff336_6 (by omega)) (y_fit0 _) ?_
    have hT424 := hT422.up (336 + k.toNat) 6 (m 316 12) ((-1)) 11 (ft336_6 (by omega)) (by omega)
    refine y_aload 25 c65_24 rfl rfl rfl ?_
    refine y_dup 26 c65_25 rfl rfl ?_
    refine y_getX 29 (m 316 12) c65_26 rfl kf316_12 ((yup_na (by omega)).trans (yup_na (by omega))) ?_
    refine y_iconst 30 c65_29 rfl ?_
    refine y_iadd 31 c65_30 rfl ?_
    refine y_putI 34 c65_31 rfl kf316_12 (y_fit0 _) ?_
    have hT426 := hT424.up 316 12 ((m 316 12) + 1) 0 12 rfl (by omega)
    refine y_iconst 35 c65_34 rfl ?_
    exact y_retI c65_35 (y_fit1 (by omega)) ⟨rfl, Or.inr ⟨rfl, rfl, by omega⟩⟩
  · refine y_iconst 10 c65_9 rfl ?_
    exact y_retI c65_10 (y_fit1 (by omega)) ⟨rfl, Or.inl ⟨rfl, rfl, trivial⟩⟩
set_option maxRecDepth 100000 in
theorem t63_316 {L : Nat} {xs : Nat → Int32} {d nn : Nat} {m : yM} {k : Int} (hT : Ty gT m) (hk : 0 ≤ k ∧ k ≤ 39) (hs : 1 ≤ m 316 16) : YC (gZ L xs) d 63 [.ref 316, .ref (336 + k.toNat)] m nn (qI (fun r m' n' => n' = nn ∧ ((r = 0 ∧ m = m' ∧ True) ∨ (r = 1 ∧ m' = yup (yup (yup m (336 + k.toNat) 0 7) 325 (m 316 13).toNat (m 316 16 - 1)) 316 13 (m 316 13 + 1) ∧ m 316 13 < 8)))) := by
  refine YC.mkB [some (.ref 316), some (.ref (336 + k.toNat))] kn63 rfl rfl ?_
  refine y_aload 1 c63_0 rfl rfl rfl ?_
  refine y_getX 4 (m 316 13) c63_1 rfl kf316_13 rfl ?_
  have tb428 := hT.atp 316 13 0 8 rfl
  refine y_iconst 6 c63_4 rfl ?_
  refine y_icmp 11 9 c63_6 rfl rfl (yc_ne (by omega) (by omega)) (fun hb429 => ?_) (fun hb429 => ?_)
  · refine y_aload 12 c63_11 rfl rfl rfl ?_
    refine y_iconst 14 c63_12 rfl ?_
    refine y_putI 17 c63_14 rfl (ff336_0 (by omega)) (y_fit0 _) ?_
    have hT430 := hT.up (336 + k.toNat) 0 7 0 9 (ft336_0 (by omega)) (by omega)
    refine y_aload 18 c63_17 rfl rfl rfl ?_
    refine y_getR 21 c63_18 rfl kf316_8 ?_
    refine y_aload 22 c63_21 rfl rfl rfl ?_
    refine y_getX 25 (m 316 13) c63_22 rfl kf316_13 (yup_na (by omega)) ?_
    refine y_aload 26 c63_25 rfl rfl rfl ?_
    refine y_getX 29 (m 316 16) c63_26 rfl kf316_16 (yup_na (by omega)) ?_
    have tb432 := hT.atp 316 16 0 40 rfl
    refine y_iconst 30 c63_29 rfl ?_
    refine y_isub 31 c63_30 rfl ?_
    refine y_iastore 32 c63_31 rfl ka325 (by omega) (y_nar0 _) ?_
    have hT433 := hT430.up 325 ((m 316 13).toNat) ((m 316 16) - 1) 0 39 rfl (by omega)
    refine y_aload 33 c63_32 rfl rfl rfl ?_
    refine y_dup 34 c63_33 rfl rfl ?_
    refine y_getX 37 (m 316 13) c63_34 rfl kf316_13 ((yup_na (by decide)).trans (yup_na (by omega))) ?_
    refine y_iconst 38 c63_37 rfl ?_
    refine y_iadd 39 c63_38 rfl ?_
    refine y_putI 42 c63_39 rfl kf316_13 (y_fit0 _) ?_
    have hT435 := hT433.up 316 13 ((m 316 13) + 1) 0 8 rfl (by omega)
    refine y_iconst 43 c63_42 rfl ?_
    exact y_retI c63_43 (y_fit1 (by omega)) ⟨rfl, Or.inr ⟨rfl, rfl, by omega⟩⟩
  · refine y_iconst 10 c63_9 rfl ?_
    exact y_retI c63_10 (y_fit1 (by omega)) ⟨rfl, Or.inl ⟨rfl, rfl, trivial⟩⟩
set_option maxRecDepth 100000 in
theorem t72a_316 {L : Nat} {xs : Nat → Int32} {d nn : Nat} {m : yM} {c v p : Int} (hT : Ty gT m) (hc : 0 ≤ c ∧ c ≤ 5) (hv : -2147483648 ≤ v ∧ v < 2147483648) (hp : 0 ≤ p ∧ p ≤ 2) : ∀ (k : Nat) (t : Int) (i : Int) (x6 : Option Value), 6 - i = k → -1 ≤ t ∧ t ≤ 5 → 0 ≤ i ∧ i ≤ 6 → YW (gZ L xs) 72 (d + 1) 6 [some (.ref 316), some (yI c), some (yI v), some (yI p), some (yI t), some (yI i), x6] [] m nn (qP m nn (fun r => -1 ≤ r ∧ r < m 316 10 ∧ (0 ≤ r → m (326 + r.toNat) 3 = p))) := by
  intro k
  induction k using Nat.strongRecOn with
  | ind k ih =>
    intro t i x6 hk ht hi
    have tb := hT.atp 316 10 0 10 rfl
    refine y_iload 8 c72_6 rfl rfl ?_
    refine y_iconst 10 c72_8 rfl ?_
    refine y_icmp 70 13 c72_10 rfl rfl (yc_ge (by omega) (by omega)) (fun hb437 => ?_) (fun hb437 => ?_)
    · refine y_iconst 71 c72_70 rfl ?_
      exact y_retP c72_71 (y_fit0 _) (⟨by omega, by omega, fun _ => by first | omega | (simp only [*] at *; omega)⟩)
    · refine y_iload 15 c72_13 rfl rfl ?_
      refine y_iconst 16 c72_15 rfl ?_
      refine y_icmp 70 19 c72_16 rfl rfl (yc_eq (by omega) (by omega)) (fun hb438 => ?_) (fun hb438 => ?_)
      · refine y_iconst 71 c72_70 rfl ?_
        exact y_retP c72_71 (y_fit0 _) (⟨by omega, by omega, fun _ => by first | omega | (simp only [*] at *; omega)⟩)
      · refine y_aload 20 c72_19 rfl rfl rfl ?_
        refine y_iload 22 c72_20 rfl rfl ?_
        refine y_iload 23 c72_22 rfl rfl ?_
        refine y_callP 26 [.ref 316, yI t, yI v] [] c72_23 rfl rfl rfl rfl rfl (ycanO km50 ko316) (t50_316 hT (by omega) (by omega)) (fun r439 hr439 => ?_)
        refine y_istore 28 c72_26 rfl rfl ?_
        refine y_iload 30 c72_28 rfl rfl ?_
        refine y_iconst 31 c72_30 rfl ?_
        refine y_icmp 55 34 c72_31 rfl rfl (yc_eq (by omega) (by omega)) (fun hb440 => ?_) (fun hb440 => ?_)
        · refine y_aload 56 c72_55 rfl rfl rfl ?_
          refine y_getR 59 c72_56 rfl kf316_1 ?_
          refine y_iload 61 c72_59 rfl rfl ?_
          refine y_iaT 62 ((-1)) 5 c72_61 rfl ka318 (by omega) hT rfl (fun v441 hv441 gv441 => ?_)
          refine y_istore 64 c72_62 rfl rfl ?_
          refine y_iinc 67 c72_64 rfl rfl rfl ?_
          refine y_goto 6 c72_67 rfl ?_
          exact ih (6 - (i + 1) : Int).toNat (by omega) v441 (i + 1) _   (by omega) (by omega) (by omega)
        · refine y_aload 35 c72_34 rfl rfl rfl ?_
          refine y_getR 38 c72_35 rfl kf316_5 ?_
          refine y_iload 40 c72_38 rfl rfl ?_
          refine y_aaload 41 c72_40 rfl kr322 (by omega) ?_
          refine y_getT 44 0 2 c72_41 rfl (ff326_3 (by omega)) hT (ft326_3 (by omega)) (fun v442 hv442 gv442 => ?_)
          refine y_iload 45 c72_44 rfl rfl ?_
          refine y_icmp 53 48 c72_45 rfl rfl (yc_ne (by omega) (by omega)) (fun hb443 => ?_) (fun hb443 => ?_)
          · refine y_iconst 54 c72_53 rfl ?_
            exact y_retP c72_54 (y_fit0 _) (⟨by omega, by omega, fun _ => by first | omega | (simp only [*] at *; omega)⟩)
          · refine y_iload 50 c72_48 rfl rfl ?_
            refine y_goto 54 c72_50 rfl ?_
            exact y_retP c72_54 (y_fit0 _) (⟨by omega, by omega, fun _ => by first | omega | (simp only [*] at *; omega)⟩)
set_option maxRecDepth 100000 in
theorem t72_316 {L : Nat} {xs : Nat → Int32} {d nn : Nat} {m : yM} {c v p : Int} (hT : Ty gT m) (hc : 0 ≤ c ∧ c ≤ 5) (hv : -2147483648 ≤ v ∧ v < 2147483648) (hp : 0 ≤ p ∧ p ≤ 2) : YC (gZ L xs) (d + 1) 72 [.ref 316, yI c, yI v, yI p] m nn (qP m nn (fun r => -1 ≤ r ∧ r < m 316 10 ∧ (0 ≤ r → m (326 + r.toNat) 3 = p))) := by
  refine YC.mkB [some (.ref 316), some (yI c), some (yI v), some (yI p), none, none, none] kn72 rfl rfl ?_
  refine y_iload 1 c72_0 rfl rfl ?_
  refine y_istore 3 c72_1 rfl rfl ?_
  refine y_iconst 4 c72_3 rfl ?_
  refine y_istore 6 c72_4 rfl rfl ?_
  exact t72a_316 hT hc hv hp (6 - 0 : Int).toNat c 0 _   (by omega) (by omega) (by omega)
set_option maxRecDepth 100000 in
theorem t38 {L : Nat} {xs : Nat → Int32} {d nn : Nat} {m : yM} {e : Int} (hT : Ty gT m) (he : 0 ≤ e ∧ e ≤ 320) (hE : m 5 e.toNat = 0) (ha : m 2 2 ≤ e) : YC (gZ L xs) d 38 [.ref 2] m nn (qP m nn (fun r => (-2147483648 ≤ r ∧ r < 2147483648) ∧ (r ≠ 0 → m 2 2 < e))) := by
  refine YC.mkB [some (.ref 2)] kn38 rfl rfl ?_
  refine y_aload 1 c38_0 rfl rfl rfl ?_
  refine y_getR 4 c38_1 rfl kf2_0 ?_
  refine y_getR 7 c38_4 rfl kf3_1 ?_
  refine y_aload 8 c38_7 rfl rfl rfl ?_
  refine y_getX 11 (m 2 2) c38_8 rfl kf2_2 rfl ?_
  have tb444 := hT.atp 2 2 0 320 rfl
  refine y_iaT 12 ((-2147483648)) 2147483647 c38_11 rfl ka5 (by omega) hT rfl (fun v445 hv445 gv445 => ?_)
  refine y_retP c38_12 (y_fit0 _) ⟨by omega, fun h0 => ?_⟩
  by_cases q : m 2 2 = e
  · exfalso; rw [q] at hv445; omega
  · omega
set_option maxRecDepth 100000 in
theorem t39 {L : Nat} {xs : Nat → Int32} {d nn : Nat} {m : yM} (hT : Ty gT m) : YC (gZ L xs) d 39 [.ref 2] m nn (qP m nn (fun r => -2147483648 ≤ r ∧ r < 2147483648)) := by
  refine YC.mkB [some (.ref 2)] kn39 rfl rfl ?_
  refine y_aload 1 c39_0 rfl rfl rfl ?_
  refine y_getR 4 c39_1 rfl kf2_0 ?_
  refine y_getR 7 c39_4 rfl kf3_3 ?_
  refine y_aload 8 c39_7 rfl rfl rfl ?_
  refine y_getX 11 (m 2 2) c39_8 rfl kf2_2 rfl ?_
  have tb446 := hT.atp 2 2 0 320 rfl
  refine y_iaT 12 ((-2147483648)) 2147483647 c39_11 rfl ka7 (by omega) hT rfl (fun v447 hv447 gv447 => ?_)
  exact y_retP c39_12 (y_fit0 _) (by omega)
def wFa (a q : Nat) : Bool := a == 2 && q == 4
set_option maxRecDepth 100000 in
theorem t43 {L : Nat} {xs : Nat → Int32} {d nn : Nat} {m : yM} (hT : Ty gT m) : YC (gZ L xs) d 43 [.ref 2] m nn (qI (fun r m' n' => n' = nn ∧ Ty gT m' ∧ Fr wFa m m' ∧ r = 0 ∧ m' 2 2 = m 2 2)) := by
  refine YC.mkB [some (.ref 2)] kn43 rfl rfl ?_
  have hF : Fr wFa m m := Fr.rf
  refine y_aload 1 c43_0 rfl rfl rfl ?_
  refine y_aload 2 c43_1 rfl rfl rfl ?_
  refine y_getR 5 c43_2 rfl kf2_0 ?_
  refine y_getR 8 c43_5 rfl kf3_2 ?_
  refine y_aload 9 c43_8 rfl rfl rfl ?_
  refine y_getX 12 (m 2 2) c43_9 rfl kf2_2 rfl ?_
  have tb448 := hT.atp 2 2 0 320 rfl
  refine y_iaT 13 0 320 c43_12 rfl ka6 (by omega) hT rfl (fun v449 hv449 gv449 => ?_)
  refine y_putI 16 c43_13 rfl kf2_4 (y_fit0 _) ?_
  have hT450 := hT.up 2 4 v449 0 320 rfl (by omega)
  have hF451 := hF.up 2 4 v449 rfl
  refine y_iconst 17 c43_16 rfl ?_
  exact y_retI c43_17 (y_fit1 (by omega)) ⟨rfl, hT450, hF451, rfl, rfl⟩
def wAt (a q : Nat) : Bool := a == 2 && (q == 2 || q == 4)
set_option maxRecDepth 100000 in
theorem t37 {L : Nat} {xs : Nat → Int32} {d nn : Nat} {m : yM} {e : Int} (hT : Ty gT m) (he : 0 ≤ e ∧ e ≤ 320) (hE : m 5 e.toNat = 0) (ha : m 2 2 ≤ e) {v : Int} (hv : v ≠ 0 ∧ -2147483648 ≤ v ∧ v < 2147483648) : YC (gZ L xs) d 37 [.ref 2, yI v] m nn (qI (fun r m' n' => n' = nn ∧ Ty gT m' ∧ Fr wAt m m' ∧ ((r = 0 ∧ m' 2 2 = m 2 2) ∨ (r = 1 ∧ m' 2 2 = m 2 2 + 1 ∧ m 2 2 < e)))) := by
  refine YC.mkB [some (.ref 2), some (yI v)] kn37 rfl rfl ?_
  have hF : Fr wAt m m := Fr.rf
  refine y_aload 1 c37_0 rfl rfl rfl ?_
  refine y_getR 4 c37_1 rfl kf2_0 ?_
  refine y_getR 7 c37_4 rfl kf3_1 ?_
  refine y_aload 8 c37_7 rfl rfl rfl ?_
  refine y_getX 11 (m 2 2) c37_8 rfl kf2_2 rfl ?_
  have tb452 := hT.atp 2 2 0 320 rfl
  refine y_iaT 12 ((-2147483648)) 2147483647 c37_11 rfl ka5 (by omega) hT rfl (fun v453 hv453 gv453 => ?_)
  refine y_iload 13 c37_12 rfl rfl ?_
  refine y_icmp 34 16 c37_13 rfl rfl (yc_eq (by omega) (by omega)) (fun hb454 => ?_) (fun hb454 => ?_)
  · have hlt : m 2 2 < e := by
      by_cases q : m 2 2 = e
      · exfalso; rw [q] at hv453; omega
      · omega
    refine y_aload 35 c37_34 rfl rfl rfl ?_
    refine y_dup 36 c37_35 rfl rfl ?_
    refine y_getX 39 (m 2 2) c37_36 rfl kf2_2 rfl ?_
    refine y_iconst 40 c37_39 rfl ?_
    refine y_iadd 41 c37_40 rfl ?_
    refine y_putI 44 c37_41 rfl kf2_2 (y_fit0 _) ?_
    have hT455 := hT.up 2 2 ((m 2 2) + 1) 0 320 rfl (by omega)
    have hF456 := hF.up 2 2 ((m 2 2) + 1) rfl
    refine y_iconst 45 c37_44 rfl ?_
    have es457 : (yup m 2 2 ((m 2 2) + 1)) 2 2 = (m 2 2) + 1 := rfl
    exact y_retI c37_45 (y_fit1 (by omega)) ⟨rfl, hT455, hF456, by omega⟩
  · refine y_aload 17 c37_16 rfl rfl rfl ?_
    refine y_aload 18 c37_17 rfl rfl rfl ?_
    refine y_getR 21 c37_18 rfl kf2_0 ?_
    refine y_getR 24 c37_21 rfl kf3_2 ?_
    refine y_aload 25 c37_24 rfl rfl rfl ?_
    refine y_getX 28 (m 2 2) c37_25 rfl kf2_2 rfl ?_
    refine y_iaT 29 0 320 c37_28 rfl ka6 (by omega) hT rfl (fun v458 hv458 gv458 => ?_)
    refine y_putI 32 c37_29 rfl kf2_4 (y_fit0 _) ?_
    have hT459 := hT.up 2 4 v458 0 320 rfl (by omega)
    have hF460 := hF.up 2 4 v458 rfl
    refine y_iconst 33 c37_32 rfl ?_
    have es461 : (yup m 2 4 v458) 2 2 = m 2 2 := rfl
    exact y_retI c37_33 (y_fit1 (by omega)) ⟨rfl, hT459, hF460, by omega⟩
