/-! FUNCTIONS OF THE METHODS: printed by wip/fn/dc.py -/
def F153 (m : yM) : Int := (m 0 7)
set_option maxRecDepth 100000 in
theorem d153 {L : Nat} {xs : Nat → Int32} {k d n : Nat} {c : yS3} {m : yM} (hR : RM c m) : PC (gZ L xs) k d 153 [.ref 0] m n (qX m (F153 m)) := by
  have hX : F153 m = F153 m := rfl
  have Hr : ∀ r, F153 m = r → rg r → ∀ n' : Nat, (qX m (F153 m)) (.inl (some (yI r))) m n' := fun r e h n' => by subst e; exact ⟨rfl, h, rfl⟩
  refine PC.mk [some (.ref 0)] kn153 rfl ?_
  refine p_aload 1 c153_0 rfl rfl ?_
  refine p_getX 4 (m 0 7) c153_1 rfl kf0_7 rfl ?_
  exact p_ireturn c153_4 (Hr _ hX (hR.rg _ _) _)
def F154 (f : Nat) (m : yM) : Option (Int × yM) := (some (m 376 2, yup m 376 57 0))
set_option maxRecDepth 100000 in
theorem d154 {L : Nat} {xs : Nat → Int32} {k d n : Nat} {c : yS3} {f : Nat} {m : yM} (hk : k ≤ f) (hR : RM c m) : PC (gZ L xs) k d 154 [.ref 376] m n (qS c (F154 f m)) := by
  have hX : F154 f m = F154 f m := rfl
  have Hr : ∀ r m', F154 f m = some (r, m') → rg r → RM c m' → ∀ n' : Nat, (qS c (F154 f m)) (.inl (some (yI r))) m' n' := fun r m' e h1 h2 n' => ⟨r, rfl, h1, h2, e⟩
  refine PC.mk [some (.ref 376)] kn154 rfl ?_
  refine p_aload 1 c154_0 rfl rfl ?_
  refine p_iconst 2 c154_1 rfl ?_
  refine p_putI 5 c154_2 rfl kf376_57 ?_
  have hR5896 := hR.up 376 57 (v := 0) (nselD rfl) (rgD rfl)
  refine p_aload 6 c154_5 rfl rfl ?_
  refine p_getX 9 (m 376 2) c154_6 rfl kf376_2 (yup_nk (by decide)) ?_
  exact p_ireturn c154_9 (Hr _ _ hX (hR.rg _ _) hR5896 _)
def F155 (x0 : Int) (x1 : Int) : Int := (if x0 < 0 then 0 else (if x0 < x1 then 1 else 0))
set_option maxRecDepth 100000 in
theorem d155 {L : Nat} {xs : Nat → Int32} {k d n : Nat} {c : yS3} {x0 : Int} {x1 : Int} {m : yM} (gx0 : rg x0) (gx1 : rg x1) (hR : RM c m) : PC (gZ L xs) k d 155 [yI x0, yI x1] m n (qX m (F155 x0 x1)) := by
  have hX : F155 x0 x1 = F155 x0 x1 := rfl
  have Hr : ∀ r, F155 x0 x1 = r → rg r → ∀ n' : Nat, (qX m (F155 x0 x1)) (.inl (some (yI r))) m n' := fun r e h n' => by subst e; exact ⟨rfl, h, rfl⟩
  refine PC.mk [some (yI x0), some (yI x1)] kn155 rfl ?_
  refine p_iload 1 c155_0 rfl rfl ?_
  refine p_if 13 4 c155_1 rfl rfl (yz_lt gx0) (fun hb5916 k5917 hk5917 => ?_) (fun hb5916 k5918 hk5918 => ?_)
  · have hX5919 := hX.trans (if_pos hb5916)
    refine p_iconst 14 c155_13 rfl ?_
    exact p_ireturn c155_14 (Hr _ hX5919 (rgD rfl) _)
  · have hX5920 := hX.trans (if_neg hb5916)
    refine p_iload 5 c155_4 rfl rfl ?_
    refine p_iload 6 c155_5 rfl rfl ?_
    refine p_icmp 13 9 c155_6 rfl rfl ((yc_ge gx0 gx1).trans Int.not_lt.symm) (fun hb5921 k5922 hk5922 => ?_) (fun hb5921 k5923 hk5923 => ?_)
    · have hX5924 := hX5920.trans (if_neg hb5921)
      refine p_iconst 14 c155_13 rfl ?_
      exact p_ireturn c155_14 (Hr _ hX5924 (rgD rfl) _)
    · have hX5925 := hX5920.trans (if_pos (Classical.not_not.mp hb5921))
      refine p_iconst 10 c155_9 rfl ?_
      refine p_goto 14 c155_10 rfl ?_
      exact p_ireturn c155_14 (Hr _ hX5925 (rgD rfl) _)
def F156 (x1 : Int) (m : yM) : Int := (F155 x1 (m (pA (m 0 4)) 15))
set_option maxRecDepth 100000 in
theorem d156 {L : Nat} {xs : Nat → Int32} {k d n : Nat} {c : yS3} {x1 : Int} {m : yM} (gx1 : rg x1) (hR : RM c m) : PC (gZ L xs) k d 156 [.ref 0, yI x1] m n (qX m (F156 x1 m)) := by
  have hX : F156 x1 m = F156 x1 m := rfl
  have Hr : ∀ r, F156 x1 m = r → rg r → ∀ n' : Nat, (qX m (F156 x1 m)) (.inl (some (yI r))) m n' := fun r e h n' => by subst e; exact ⟨rfl, h, rfl⟩
  refine PC.mk [some (.ref 0), some (yI x1)] kn156 rfl ?_
  refine p_iload 1 c156_0 rfl rfl ?_
  refine p_aload 2 c156_1 rfl rfl ?_
  refine p_getV 5 (.ref (pA (m 0 4))) c156_2 rfl kf0_4 (pA_sv2 hR.2.1 rfl) ?_
  refine p_getX 8 (m (pA (m 0 4)) 15) c156_5 rfl (kP_15 (pA_is _)) rfl ?_
  refine p_cX 11 [yI x1, yI (m (pA (m 0 4)) 15)] [] c156_8 rfl rfl rfl (fun k' hk' d' => d155 gx1 (hR.rg _ _) hR) (fun hg5926 n5915 k5914 hk5914 => ?_)
  exact p_ireturn c156_11 (Hr _ hX hg5926 _)
def F157 (x1 : Int) (m : yM) : Int := (F155 x1 (m (pA (m 0 4)) 14))
set_option maxRecDepth 100000 in
theorem d157 {L : Nat} {xs : Nat → Int32} {k d n : Nat} {c : yS3} {x1 : Int} {m : yM} (gx1 : rg x1) (hR : RM c m) : PC (gZ L xs) k d 157 [.ref 0, yI x1] m n (qX m (F157 x1 m)) := by
  have hX : F157 x1 m = F157 x1 m := rfl
  have Hr : ∀ r, F157 x1 m = r → rg r → ∀ n' : Nat, (qX m (F157 x1 m)) (.inl (some (yI r))) m n' := fun r e h n' => by subst e; exact ⟨rfl, h, rfl⟩
  refine PC.mk [some (.ref 0), some (yI x1)] kn157 rfl ?_
  refine p_iload 1 c157_0 rfl rfl ?_
  refine p_aload 2 c157_1 rfl rfl ?_
  refine p_getV 5 (.ref (pA (m 0 4))) c157_2 rfl kf0_4 (pA_sv2 hR.2.1 rfl) ?_
  refine p_getX 8 (m (pA (m 0 4)) 14) c157_5 rfl (kP_14 (pA_is _)) rfl ?_
  refine p_cX 11 [yI x1, yI (m (pA (m 0 4)) 14)] [] c157_8 rfl rfl rfl (fun k' hk' d' => d155 gx1 (hR.rg _ _) hR) (fun hg5937 n5936 k5935 hk5935 => ?_)
  exact p_ireturn c157_11 (Hr _ hX hg5937 _)
def J158_16 (f : Nat) (m : yM) : Option ((Int ⊕ Nat) × yM) := (some (.inr 11, m))
set_option maxRecDepth 100000 in
theorem tJ158_16 {L : Nat} {xs : Nat → Int32} {Q : xO → yM → Nat → Prop} {k d n : Nat} {c : yS3} {f : Nat} {m : yM} {j0 j1 j2 : Option Value} (hk : k ≤ f) (hR : RM c m) (Hr : ∀ r m', J158_16 f m = some (.inl r, m') → rg r → RM c m' → ∀ n', Q (.inl (some (yI r))) m' n') (Ht : ∀ e m', J158_16 f m = some (.inr e, m') → (fun e => e = 11) e → RM c m' → ∀ x n', Q (.inr (e, x)) m' n') : PW (gZ L xs) k 158 d 16 [j0, j1, j2] [] m n Q := by
  have hX : J158_16 f m = J158_16 f m := rfl
  exact p_throw c158_16 (fun x n' => Ht _ _ hX rfl hR x n')
def F158 (f : Nat) (x1 : Int) (x2 : Int) (m : yM) : Option ((Int ⊕ Nat) × yM) := (if F156 x1 m = 0 then (J158_16 f m) else (if F157 x2 m = 0 then (J158_16 f m) else (if 0 ≤ x1 ∧ x1 < ((48 : Nat) : Int) then (some (.inl (m (10 + (x1).toNat) x2.toNat), m)) else none)))
set_option maxRecDepth 100000 in
theorem d158 {L : Nat} {xs : Nat → Int32} {k d n : Nat} {c : yS3} {f : Nat} {x1 : Int} {x2 : Int} {m : yM} (hk : k ≤ f) (gx1 : rg x1) (gx2 : rg x2) (hR : RM c m) : PC (gZ L xs) k d 158 [.ref 0, yI x1, yI x2] m n (qEI (fun e => e = 11) c (F158 f x1 x2 m)) := by
  have hX : F158 f x1 x2 m = F158 f x1 x2 m := rfl
  have Hr : ∀ r m', F158 f x1 x2 m = some (.inl r, m') → rg r → RM c m' → ∀ n' : Nat, (qEI (fun e => e = 11) c (F158 f x1 x2 m)) (.inl (some (yI r))) m' n' := fun r m' e h1 h2 n' => Or.inl ⟨r, rfl, h1, h2, e⟩
  have Ht : ∀ e m', F158 f x1 x2 m = some (.inr e, m') → (fun e => e = 11) e → RM c m' → ∀ x n' : Nat, (qEI (fun e => e = 11) c (F158 f x1 x2 m)) (.inr (e, x)) m' n' := fun e m' e1 h1 h2 x n' => Or.inr ⟨e, x, rfl, h1, h2, e1⟩
  refine PC.mk [some (.ref 0), some (yI x1), some (yI x2)] kn158 rfl ?_
  refine p_aload 1 c158_0 rfl rfl ?_
  refine p_iload 2 c158_1 rfl rfl ?_
  refine p_cX 5 [.ref 0, yI x1] [] c158_2 rfl rfl rfl (fun k' hk' d' => d156 gx1 hR) (fun hg5927 n5913 k5912 hk5912 => ?_)
  refine p_if 16 8 c158_5 rfl rfl (yz_eq hg5927) (fun hb5928 k5929 hk5929 => ?_) (fun hb5928 k5930 hk5930 => ?_)
  · have hX5931 := hX.trans (if_pos hb5928)
    exact tJ158_16 (f := f) (by omega) hR (fun r' m' e' => Hr r' m' (hX5931.trans e')) (fun r' m' e' => Ht r' m' (hX5931.trans e'))
  · have hX5932 := hX.trans (if_neg hb5928)
    refine p_aload 9 c158_8 rfl rfl ?_
    refine p_iload 10 c158_9 rfl rfl ?_
    refine p_cX 13 [.ref 0, yI x2] [] c158_10 rfl rfl rfl (fun k' hk' d' => d157 gx2 hR) (fun hg5938 n5934 k5933 hk5933 => ?_)
    refine p_if 24 16 c158_13 rfl rfl (yz_ne hg5938) (fun hb5939 k5940 hk5940 => ?_) (fun hb5939 k5941 hk5941 => ?_)
    · have hX5942 := hX5932.trans (if_neg hb5939)
      refine p_aload 25 c158_24 rfl rfl ?_
      refine p_getR 28 c158_25 rfl kf0_2 ?_
      refine p_getR 31 c158_28 rfl kf8_0 ?_
      refine p_iload 32 c158_31 rfl rfl ?_
      refine p_aaX 33 c158_32 rfl kr9 gx1 (fun hx5943 => ?_)
      have hX5944 := hX5942.trans (if_pos hx5943)
      refine p_iload 34 c158_33 rfl rfl ?_
      refine p_iaX 35 (m (10 + (x1).toNat) x2.toNat) c158_34 rfl (kR9 hx5943) gx2 rfl (fun hx5945 => ?_)
      exact p_ireturn c158_35 (Hr _ _ hX5944 (hR.rg _ _) hR _)
    · have hX5946 := hX5932.trans (if_pos (Classical.not_not.mp hb5939))
      exact tJ158_16 (f := f) (by omega) hR (fun r' m' e' => Hr r' m' (hX5946.trans e')) (fun r' m' e' => Ht r' m' (hX5946.trans e'))
def F159 (f : Nat) (x1 : Int) (x2 : Int) (m : yM) : Option (Int × yM) := (bT (F158 f x1 x2 m) (fun r5949 m5951 => (some (0, yup m5951 413 0 ((i2l r5949).toInt)))) (fun e' m5951 => (if e' = 11 then (some (1, m5951)) else none)))
set_option maxRecDepth 100000 in
theorem d159 {L : Nat} {xs : Nat → Int32} {k d n : Nat} {c : yS3} {f : Nat} {x1 : Int} {x2 : Int} {m : yM} (hk : k ≤ f) (gx1 : rg x1) (gx2 : rg x2) (hR : RM c m) : PC (gZ L xs) k d 159 [.ref 0, yI x1, yI x2, .ref 413] m n (qS c (F159 f x1 x2 m)) := by
  have hX : F159 f x1 x2 m = F159 f x1 x2 m := rfl
  have Hr : ∀ r m', F159 f x1 x2 m = some (r, m') → rg r → RM c m' → ∀ n' : Nat, (qS c (F159 f x1 x2 m)) (.inl (some (yI r))) m' n' := fun r m' e h1 h2 n' => ⟨r, rfl, h1, h2, e⟩
  refine PC.mk [some (.ref 0), some (yI x1), some (yI x2), some (.ref 413), none] kn159 rfl ?_
  refine p_aload 1 c159_0 rfl rfl ?_
  refine p_iconst 2 c159_1 rfl ?_
  refine p_aload 3 c159_2 rfl rfl ?_
  refine p_iload 4 c159_3 rfl rfl ?_
  refine p_iload 5 c159_4 rfl rfl ?_
  refine p_cTI 8 [.ref 0, yI x1, yI x2] [yI 0, .ref 413] c159_5 rfl rfl rfl (fun k' hk' d' => d158 (f := f) (by omega) gx1 gx2 hR) (fun r5949 m5951 hF5947 hg5948 hR5952 n5911 k5910 hk5910 => ?_) (fun e' q5956 m5951 n' hF5947 hE5954 hR5955 => ?_)
  · have hX5950 := hX.trans (bT_l hF5947)
    refine p_i2l 9 c159_8 rfl ?_
    refine p_laS 10 c159_9 rfl kl413 (rgD rfl) (fun hx5957 => ?_)
    have hR5958 := hR5952.up 413 0 (v := (i2l r5949).toInt) (nselD rfl) (rg_i2l _)
    refine p_goto 17 c159_10 rfl ?_
    refine p_iconst 18 c159_17 rfl ?_
    exact p_ireturn c159_18 (Hr _ _ hX5950 (rgD rfl) hR5958 _)
  · have hXe := hX.trans (bT_r hF5947)
    cases (show e' = 11 from hE5954)
    have hX5959 := hXe.trans (if_pos rfl)
    refine ⟨fun pq hpq k5960 hk5960 => ?_, fun hno => absurd (r_kh159_5_11.symm.trans hno) (by simp)⟩
    have hpp : pq = 13 := by have := r_kh159_5_11.symm.trans hpq; simpa using this.symm
    subst hpp
    refine p_astore 15 c159_13 rfl rfl ?_
    refine p_iconst 16 c159_15 rfl ?_
    exact p_ireturn c159_16 (Hr _ _ hX5959 (rgD rfl) hR5955 _)
def F160 (x1 : Int) (m : yM) : Int := (if m 376 19 = 0 then 0 else (if F22 x1 0 (wr ((m 389 (m 376 18).toNat) - 1)) = 0 then 0 else 1))
set_option maxRecDepth 100000 in
theorem d160 {L : Nat} {xs : Nat → Int32} {k d n : Nat} {c : yS3} {x1 : Int} {m : yM} (gx1 : rg x1) (hR : RM c m) : PC (gZ L xs) k d 160 [.ref 376, yI x1] m n (qX m (F160 x1 m)) := by
  have hX : F160 x1 m = F160 x1 m := rfl
  have Hr : ∀ r, F160 x1 m = r → rg r → ∀ n' : Nat, (qX m (F160 x1 m)) (.inl (some (yI r))) m n' := fun r e h n' => by subst e; exact ⟨rfl, h, rfl⟩
  refine PC.mk [some (.ref 376), some (yI x1)] kn160 rfl ?_
  refine p_aload 1 c160_0 rfl rfl ?_
  refine p_getX 4 (m 376 19) c160_1 rfl kf376_19 rfl ?_
  refine p_if 30 7 c160_4 rfl rfl (yz_eq (hR.rg _ _)) (fun hb5973 k5974 hk5974 => ?_) (fun hb5973 k5975 hk5975 => ?_)
  · have hX5976 := hX.trans (if_pos hb5973)
    refine p_iconst 31 c160_30 rfl ?_
    exact p_ireturn c160_31 (Hr _ hX5976 (rgD rfl) _)
  · have hX5977 := hX.trans (if_neg hb5973)
    refine p_iload 8 c160_7 rfl rfl ?_
    refine p_iconst 9 c160_8 rfl ?_
    refine p_aload 10 c160_9 rfl rfl ?_
    refine p_getR 13 c160_10 rfl kf376_26 ?_
    refine p_aload 14 c160_13 rfl rfl ?_
    refine p_getX 17 (m 376 18) c160_14 rfl kf376_18 rfl ?_
    refine p_iaX 18 (m 389 (m 376 18).toNat) c160_17 rfl ka389 (hR.rg _ _) rfl (fun hx5978 => ?_)
    refine p_iconst 19 c160_18 rfl ?_
    refine p_isub 20 c160_19 rfl ?_
    refine p_cX 23 [yI x1, yI 0, yI (wr ((m 389 (m 376 18).toNat) - 1))] [] c160_20 rfl rfl rfl (fun k' hk' d' => d22 gx1 (rgD rfl) (rg_wr _) hR) (fun hg5981 n5980 k5979 hk5979 => ?_)
    refine p_if 30 26 c160_23 rfl rfl (yz_eq hg5981) (fun hb5982 k5983 hk5983 => ?_) (fun hb5982 k5984 hk5984 => ?_)
    · have hX5985 := hX5977.trans (if_pos hb5982)
      refine p_iconst 31 c160_30 rfl ?_
      exact p_ireturn c160_31 (Hr _ hX5985 (rgD rfl) _)
    · have hX5986 := hX5977.trans (if_neg hb5982)
      refine p_iconst 27 c160_26 rfl ?_
      refine p_goto 31 c160_27 rfl ?_
      exact p_ireturn c160_31 (Hr _ hX5986 (rgD rfl) _)
def J162_17 (f : Nat) (xs1 : Int) (m : yM) : Option (Int × yM) := (bI (F23 f xs1 1 m) (fun r6002 m6004 => (some (r6002, m6004))))
set_option maxRecDepth 100000 in
theorem tJ162_17 {L : Nat} {xs : Nat → Int32} {Q : xO → yM → Nat → Prop} {k d n : Nat} {c : yS3} {f : Nat} {xs1 : Int} {m : yM} {j0 j1 : Option Value} (hk : k ≤ f) (gxs1 : rg xs1) (hR : RM c m) (Hr : ∀ r m', J162_17 f xs1 m = some (r, m') → rg r → RM c m' → ∀ n', Q (.inl (some (yI r))) m' n') : PW (gZ L xs) k 162 d 17 [j0, j1] [yI xs1, .ref 376] m n Q := by
  have hX : J162_17 f xs1 m = J162_17 f xs1 m := rfl
  refine p_iconst 18 c162_17 rfl ?_
  refine p_cS 21 [.ref 376, yI xs1, yI 1] [] c162_18 rfl rfl rfl (fun k' hk' d' => d23 (f := f) (by omega) gxs1 (rgD rfl) hR) (fun r6002 m6004 hF6000 hg6001 hR6005 n5999 k5998 hk5998 => ?_)
  have hX6003 := hX.trans (bI_s hF6000)
  exact p_ireturn c162_21 (Hr _ _ hX6003 hg6001 hR6005 _)
def J162_16 (f : Nat) (m : yM) : Option (Int × yM) := (J162_17 f 0 m)
set_option maxRecDepth 100000 in
theorem tJ162_16 {L : Nat} {xs : Nat → Int32} {Q : xO → yM → Nat → Prop} {k d n : Nat} {c : yS3} {f : Nat} {m : yM} {j0 j1 : Option Value} (hk : k ≤ f) (hR : RM c m) (Hr : ∀ r m', J162_16 f m = some (r, m') → rg r → RM c m' → ∀ n', Q (.inl (some (yI r))) m' n') : PW (gZ L xs) k 162 d 16 [j0, j1] [.ref 376] m n Q := by
  have hX : J162_16 f m = J162_16 f m := rfl
  refine p_iconst 17 c162_16 rfl ?_
  exact tJ162_17 (f := f) (by omega) (rgD rfl) hR (fun r' m' e' => Hr r' m' (hX.trans e'))
def F162 (f : Nat) (x1 : Int) (m : yM) : Option (Int × yM) := (if m 376 19 = 0 then (J162_16 f m) else (if x1 = 0 then (J162_16 f m) else (J162_17 f 1 m)))
set_option maxRecDepth 100000 in
theorem d162 {L : Nat} {xs : Nat → Int32} {k d n : Nat} {c : yS3} {f : Nat} {x1 : Int} {m : yM} (hk : k ≤ f) (gx1 : rg x1) (hR : RM c m) : PC (gZ L xs) k d 162 [.ref 376, yI x1] m n (qS c (F162 f x1 m)) := by
  have hX : F162 f x1 m = F162 f x1 m := rfl
  have Hr : ∀ r m', F162 f x1 m = some (r, m') → rg r → RM c m' → ∀ n' : Nat, (qS c (F162 f x1 m)) (.inl (some (yI r))) m' n' := fun r m' e h1 h2 n' => ⟨r, rfl, h1, h2, e⟩
  refine PC.mk [some (.ref 376), some (yI x1)] kn162 rfl ?_
  refine p_aload 1 c162_0 rfl rfl ?_
  refine p_aload 2 c162_1 rfl rfl ?_
  refine p_getX 5 (m 376 19) c162_2 rfl kf376_19 rfl ?_
  refine p_if 16 8 c162_5 rfl rfl (yz_eq (hR.rg _ _)) (fun hb5994 k5995 hk5995 => ?_) (fun hb5994 k5996 hk5996 => ?_)
  · have hX5997 := hX.trans (if_pos hb5994)
    exact tJ162_16 (f := f) (by omega) hR (fun r' m' e' => Hr r' m' (hX5997.trans e'))
  · have hX6006 := hX.trans (if_neg hb5994)
    refine p_iload 9 c162_8 rfl rfl ?_
    refine p_if 16 12 c162_9 rfl rfl (yz_eq gx1) (fun hb6007 k6008 hk6008 => ?_) (fun hb6007 k6009 hk6009 => ?_)
    · have hX6010 := hX6006.trans (if_pos hb6007)
      exact tJ162_16 (f := f) (by omega) hR (fun r' m' e' => Hr r' m' (hX6010.trans e'))
    · have hX6011 := hX6006.trans (if_neg hb6007)
      refine p_iconst 13 c162_12 rfl ?_
      refine p_goto 17 c162_13 rfl ?_
      exact tJ162_17 (f := f) (by omega) (rgD rfl) hR (fun r' m' e' => Hr r' m' (hX6011.trans e'))
def F161 (x1 : Int) (m : yM) : Int := (if m 376 19 = 0 then 0 else (if F22 x1 0 (wr ((m 388 (m 376 18).toNat) - 1)) = 0 then 0 else 1))
set_option maxRecDepth 100000 in
theorem d161 {L : Nat} {xs : Nat → Int32} {k d n : Nat} {c : yS3} {x1 : Int} {m : yM} (gx1 : rg x1) (hR : RM c m) : PC (gZ L xs) k d 161 [.ref 376, yI x1] m n (qX m (F161 x1 m)) := by
  have hX : F161 x1 m = F161 x1 m := rfl
  have Hr : ∀ r, F161 x1 m = r → rg r → ∀ n' : Nat, (qX m (F161 x1 m)) (.inl (some (yI r))) m n' := fun r e h n' => by subst e; exact ⟨rfl, h, rfl⟩
  refine PC.mk [some (.ref 376), some (yI x1)] kn161 rfl ?_
  refine p_aload 1 c161_0 rfl rfl ?_
  refine p_getX 4 (m 376 19) c161_1 rfl kf376_19 rfl ?_
  refine p_if 30 7 c161_4 rfl rfl (yz_eq (hR.rg _ _)) (fun hb6027 k6028 hk6028 => ?_) (fun hb6027 k6029 hk6029 => ?_)
  · have hX6030 := hX.trans (if_pos hb6027)
    refine p_iconst 31 c161_30 rfl ?_
    exact p_ireturn c161_31 (Hr _ hX6030 (rgD rfl) _)
  · have hX6031 := hX.trans (if_neg hb6027)
    refine p_iload 8 c161_7 rfl rfl ?_
    refine p_iconst 9 c161_8 rfl ?_
    refine p_aload 10 c161_9 rfl rfl ?_
    refine p_getR 13 c161_10 rfl kf376_25 ?_
    refine p_aload 14 c161_13 rfl rfl ?_
    refine p_getX 17 (m 376 18) c161_14 rfl kf376_18 rfl ?_
    refine p_iaX 18 (m 388 (m 376 18).toNat) c161_17 rfl ka388 (hR.rg _ _) rfl (fun hx6032 => ?_)
    refine p_iconst 19 c161_18 rfl ?_
    refine p_isub 20 c161_19 rfl ?_
    refine p_cX 23 [yI x1, yI 0, yI (wr ((m 388 (m 376 18).toNat) - 1))] [] c161_20 rfl rfl rfl (fun k' hk' d' => d22 gx1 (rgD rfl) (rg_wr _) hR) (fun hg6035 n6034 k6033 hk6033 => ?_)
    refine p_if 30 26 c161_23 rfl rfl (yz_eq hg6035) (fun hb6036 k6037 hk6037 => ?_) (fun hb6036 k6038 hk6038 => ?_)
    · have hX6039 := hX6031.trans (if_pos hb6036)
      refine p_iconst 31 c161_30 rfl ?_
      exact p_ireturn c161_31 (Hr _ hX6039 (rgD rfl) _)
    · have hX6040 := hX6031.trans (if_neg hb6036)
      refine p_iconst 27 c161_26 rfl ?_
      refine p_goto 31 c161_27 rfl ?_
      exact p_ireturn c161_31 (Hr _ hX6040 (rgD rfl) _)
def J163_22 (f : Nat) (x1 : Int) (x2 : Int) (xs1 : Int) (m : yM) : Option (Int × yM) := (bI (F162 f xs1 m) (fun r6014 m6016 => (if r6014 = 0 then (some (0, m6016)) else (some (m6016 404 (wr ((wr (12 * x1)) + x2)).toNat, m6016)))))
set_option maxRecDepth 100000 in
theorem tJ163_22 {L : Nat} {xs : Nat → Int32} {Q : xO → yM → Nat → Prop} {k d n : Nat} {c : yS3} {f : Nat} {x1 : Int} {x2 : Int} {xs1 : Int} {m : yM} (hk : k ≤ f) (gx1 : rg x1) (gx2 : rg x2) (gxs1 : rg xs1) (hR : RM c m) (Hr : ∀ r m', J163_22 f x1 x2 xs1 m = some (r, m') → rg r → RM c m' → ∀ n', Q (.inl (some (yI r))) m' n') : PW (gZ L xs) k 163 d 22 [some (.ref 376), some (yI x1), some (yI x2)] [yI xs1, .ref 376] m n Q := by
  have hX : J163_22 f x1 x2 xs1 m = J163_22 f x1 x2 xs1 m := rfl
  refine p_cS 25 [.ref 376, yI xs1] [] c163_22 rfl rfl rfl (fun k' hk' d' => d162 (f := f) (by omega) gxs1 hR) (fun r6014 m6016 hF6012 hg6013 hR6017 n5993 k5992 hk5992 => ?_)
  have hX6015 := hX.trans (bI_s hF6012)
  refine p_if 42 28 c163_25 rfl rfl (yz_eq hg6013) (fun hb6018 k6019 hk6019 => ?_) (fun hb6018 k6020 hk6020 => ?_)
  · have hX6021 := hX6015.trans (if_pos hb6018)
    refine p_iconst 43 c163_42 rfl ?_
    exact p_ireturn c163_43 (Hr _ _ hX6021 (rgD rfl) hR6017 _)
  · have hX6022 := hX6015.trans (if_neg hb6018)
    refine p_aload 29 c163_28 rfl rfl ?_
    refine p_getR 32 c163_29 rfl kf376_41 ?_
    refine p_iconst 34 c163_32 rfl ?_
    refine p_iload 35 c163_34 rfl rfl ?_
    refine p_imul 36 c163_35 rfl ?_
    refine p_iload 37 c163_36 rfl rfl ?_
    refine p_iadd 38 c163_37 rfl ?_
    refine p_iaX 39 (m6016 404 (wr ((wr (12 * x1)) + x2)).toNat) c163_38 rfl ka404 (rg_wr _) rfl (fun hx6023 => ?_)
    refine p_goto 43 c163_39 rfl ?_
    exact p_ireturn c163_43 (Hr _ _ hX6022 (hR6017.rg _ _) hR6017 _)
def J163_21 (f : Nat) (x1 : Int) (x2 : Int) (m : yM) : Option (Int × yM) := (J163_22 f x1 x2 0 m)
set_option maxRecDepth 100000 in
theorem tJ163_21 {L : Nat} {xs : Nat → Int32} {Q : xO → yM → Nat → Prop} {k d n : Nat} {c : yS3} {f : Nat} {x1 : Int} {x2 : Int} {m : yM} (hk : k ≤ f) (gx1 : rg x1) (gx2 : rg x2) (hR : RM c m) (Hr : ∀ r m', J163_21 f x1 x2 m = some (r, m') → rg r → RM c m' → ∀ n', Q (.inl (some (yI r))) m' n') : PW (gZ L xs) k 163 d 21 [some (.ref 376), some (yI x1), some (yI x2)] [.ref 376] m n Q := by
  have hX : J163_21 f x1 x2 m = J163_21 f x1 x2 m := rfl
  refine p_iconst 22 c163_21 rfl ?_
  exact tJ163_22 (f := f) (by omega) gx1 gx2 (rgD rfl) hR (fun r' m' e' => Hr r' m' (hX.trans e'))
def F163 (f : Nat) (x1 : Int) (x2 : Int) (m : yM) : Option (Int × yM) := (if F160 x1 m = 0 then (J163_21 f x1 x2 m) else (if F161 x2 m = 0 then (J163_21 f x1 x2 m) else (J163_22 f x1 x2 1 m)))
set_option maxRecDepth 100000 in
theorem d163 {L : Nat} {xs : Nat → Int32} {k d n : Nat} {c : yS3} {f : Nat} {x1 : Int} {x2 : Int} {m : yM} (hk : k ≤ f) (gx1 : rg x1) (gx2 : rg x2) (hR : RM c m) : PC (gZ L xs) k d 163 [.ref 376, yI x1, yI x2] m n (qS c (F163 f x1 x2 m)) := by
  have hX : F163 f x1 x2 m = F163 f x1 x2 m := rfl
  have Hr : ∀ r m', F163 f x1 x2 m = some (r, m') → rg r → RM c m' → ∀ n' : Nat, (qS c (F163 f x1 x2 m)) (.inl (some (yI r))) m' n' := fun r m' e h1 h2 n' => ⟨r, rfl, h1, h2, e⟩
  refine PC.mk [some (.ref 376), some (yI x1), some (yI x2)] kn163 rfl ?_
  refine p_aload 1 c163_0 rfl rfl ?_
  refine p_aload 2 c163_1 rfl rfl ?_
  refine p_iload 3 c163_2 rfl rfl ?_
  refine p_cX 6 [.ref 376, yI x1] [.ref 376] c163_3 rfl rfl rfl (fun k' hk' d' => d160 gx1 hR) (fun hg5987 n5972 k5971 hk5971 => ?_)
  refine p_if 21 9 c163_6 rfl rfl (yz_eq hg5987) (fun hb5988 k5989 hk5989 => ?_) (fun hb5988 k5990 hk5990 => ?_)
  · have hX5991 := hX.trans (if_pos hb5988)
    exact tJ163_21 (f := f) (by omega) gx1 gx2 hR (fun r' m' e' => Hr r' m' (hX5991.trans e'))
  · have hX6024 := hX.trans (if_neg hb5988)
    refine p_aload 10 c163_9 rfl rfl ?_
    refine p_iload 11 c163_10 rfl rfl ?_
    refine p_cX 14 [.ref 376, yI x2] [.ref 376] c163_11 rfl rfl rfl (fun k' hk' d' => d161 gx2 hR) (fun hg6041 n6026 k6025 hk6025 => ?_)
    refine p_if 21 17 c163_14 rfl rfl (yz_eq hg6041) (fun hb6042 k6043 hk6043 => ?_) (fun hb6042 k6044 hk6044 => ?_)
    · have hX6045 := hX6024.trans (if_pos hb6042)
      exact tJ163_21 (f := f) (by omega) gx1 gx2 hR (fun r' m' e' => Hr r' m' (hX6045.trans e'))
    · have hX6046 := hX6024.trans (if_neg hb6042)
      refine p_iconst 18 c163_17 rfl ?_
      refine p_goto 22 c163_18 rfl ?_
      exact tJ163_22 (f := f) (by omega) gx1 gx2 (rgD rfl) hR (fun r' m' e' => Hr r' m' (hX6046.trans e'))
def J164_30 (f : Nat) (m : yM) : Option ((Int ⊕ Nat) × yM) := (some (.inr 11, m))
set_option maxRecDepth 100000 in
theorem tJ164_30 {L : Nat} {xs : Nat → Int32} {Q : xO → yM → Nat → Prop} {k d n : Nat} {c : yS3} {f : Nat} {m : yM} {j0 j1 j2 j3 : Option Value} (hk : k ≤ f) (hR : RM c m) (Hr : ∀ r m', J164_30 f m = some (.inl r, m') → rg r → RM c m' → ∀ n', Q (.inl (some (yI r))) m' n') (Ht : ∀ e m', J164_30 f m = some (.inr e, m') → (fun e => e = 11) e → RM c m' → ∀ x n', Q (.inr (e, x)) m' n') : PW (gZ L xs) k 164 d 30 [j0, j1, j2, j3] [] m n Q := by
  have hX : J164_30 f m = J164_30 f m := rfl
  exact p_throw c164_30 (fun x n' => Ht _ _ hX rfl hR x n')
def F164 (f : Nat) (x1 : Int) (x2 : Int) (x3 : Int) (m : yM) : Option ((Int ⊕ Nat) × yM) := (if F157 x1 m = 0 then (J164_30 f m) else (if F155 x2 (m (pA (m 0 4)) 11) = 0 then (J164_30 f m) else (if F157 x3 m = 0 then (J164_30 f m) else (if 73 ≤ (F83 x1 x2) ∧ (F83 x1 x2) < 169 then (some (.inl (m (F83 x1 x2) x3.toNat), m)) else none))))
set_option maxRecDepth 100000 in
theorem d164 {L : Nat} {xs : Nat → Int32} {k d n : Nat} {c : yS3} {f : Nat} {x1 : Int} {x2 : Int} {x3 : Int} {m : yM} (hk : k ≤ f) (gx1 : rg x1) (gx2 : rg x2) (gx3 : rg x3) (hR : RM c m) : PC (gZ L xs) k d 164 [.ref 0, yI x1, yI x2, yI x3] m n (qEI (fun e => e = 11) c (F164 f x1 x2 x3 m)) := by
  have hX : F164 f x1 x2 x3 m = F164 f x1 x2 x3 m := rfl
  have Hr : ∀ r m', F164 f x1 x2 x3 m = some (.inl r, m') → rg r → RM c m' → ∀ n' : Nat, (qEI (fun e => e = 11) c (F164 f x1 x2 x3 m)) (.inl (some (yI r))) m' n' := fun r m' e h1 h2 n' => Or.inl ⟨r, rfl, h1, h2, e⟩
  have Ht : ∀ e m', F164 f x1 x2 x3 m = some (.inr e, m') → (fun e => e = 11) e → RM c m' → ∀ x n' : Nat, (qEI (fun e => e = 11) c (F164 f x1 x2 x3 m)) (.inr (e, x)) m' n' := fun e m' e1 h1 h2 x n' => Or.inr ⟨e, x, rfl, h1, h2, e1⟩
  refine PC.mk [some (.ref 0), some (yI x1), some (yI x2), some (yI x3)] kn164 rfl ?_
  refine p_aload 1 c164_0 rfl rfl ?_
  refine p_iload 2 c164_1 rfl rfl ?_
  refine p_cX 5 [.ref 0, yI x1] [] c164_2 rfl rfl rfl (fun k' hk' d' => d157 gx1 hR) (fun hg6065 n6064 k6063 hk6063 => ?_)
  refine p_if 30 8 c164_5 rfl rfl (yz_eq hg6065) (fun hb6066 k6067 hk6067 => ?_) (fun hb6066 k6068 hk6068 => ?_)
  · have hX6069 := hX.trans (if_pos hb6066)
    exact tJ164_30 (f := f) (by omega) hR (fun r' m' e' => Hr r' m' (hX6069.trans e')) (fun r' m' e' => Ht r' m' (hX6069.trans e'))
  · have hX6070 := hX.trans (if_neg hb6066)
    refine p_iload 9 c164_8 rfl rfl ?_
    refine p_aload 10 c164_9 rfl rfl ?_
    refine p_getV 13 (.ref (pA (m 0 4))) c164_10 rfl kf0_4 (pA_sv2 hR.2.1 rfl) ?_
    refine p_getX 16 (m (pA (m 0 4)) 11) c164_13 rfl (kP_11 (pA_is _)) rfl ?_
    refine p_cX 19 [yI x2, yI (m (pA (m 0 4)) 11)] [] c164_16 rfl rfl rfl (fun k' hk' d' => d155 gx2 (hR.rg _ _) hR) (fun hg6073 n6072 k6071 hk6071 => ?_)
    refine p_if 30 22 c164_19 rfl rfl (yz_eq hg6073) (fun hb6074 k6075 hk6075 => ?_) (fun hb6074 k6076 hk6076 => ?_)
    · have hX6077 := hX6070.trans (if_pos hb6074)
      exact tJ164_30 (f := f) (by omega) hR (fun r' m' e' => Hr r' m' (hX6077.trans e')) (fun r' m' e' => Ht r' m' (hX6077.trans e'))
    · have hX6078 := hX6070.trans (if_neg hb6074)
      refine p_aload 23 c164_22 rfl rfl ?_
      refine p_iload 24 c164_23 rfl rfl ?_
      refine p_cX 27 [.ref 0, yI x3] [] c164_24 rfl rfl rfl (fun k' hk' d' => d157 gx3 hR) (fun hg6081 n6080 k6079 hk6079 => ?_)
      refine p_if 38 30 c164_27 rfl rfl (yz_ne hg6081) (fun hb6082 k6083 hk6083 => ?_) (fun hb6082 k6084 hk6084 => ?_)
      · have hX6085 := hX6078.trans (if_neg hb6082)
        refine p_aload 39 c164_38 rfl rfl ?_
        refine p_getR 42 c164_39 rfl kf0_2 ?_
        refine p_iload 43 c164_42 rfl rfl ?_
        refine p_iload 44 c164_43 rfl rfl ?_
        refine p_cXR 47 [.ref 8, yI x1, yI x2] [] c164_44 rfl rfl rfl (fun k' hk' d' => d83 gx1 gx2 hR) (fun hg6088 n6087 k6086 hk6086 => ?_)
        have := hg6088.2
        have hX6089 := hX6085.trans (if_pos hg6088.2)
        refine p_iload 48 c164_47 rfl rfl ?_
        refine p_iaX 49 (m (F83 x1 x2) x3.toNat) c164_48 rfl hg6088.1 gx3 rfl (fun hx6090 => ?_)
        exact p_ireturn c164_49 (Hr _ _ hX6089 (hR.rg _ _) hR _)
      · have hX6091 := hX6078.trans (if_pos (Classical.not_not.mp hb6082))
        exact tJ164_30 (f := f) (by omega) hR (fun r' m' e' => Hr r' m' (hX6091.trans e')) (fun r' m' e' => Ht r' m' (hX6091.trans e'))
def F165 (f : Nat) (x1 : Int) (x2 : Int) (x3 : Int) (m : yM) : Option (Int × yM) := (bT (F164 f x1 x2 x3 m) (fun r6094 m6096 => (some (0, yup m6096 413 0 ((i2l r6094).toInt)))) (fun e' m6096 => (if e' = 11 then (some (1, m6096)) else none)))
set_option maxRecDepth 100000 in
theorem d165 {L : Nat} {xs : Nat → Int32} {k d n : Nat} {c : yS3} {f : Nat} {x1 : Int} {x2 : Int} {x3 : Int} {m : yM} (hk : k ≤ f) (gx1 : rg x1) (gx2 : rg x2) (gx3 : rg x3) (hR : RM c m) : PC (gZ L xs) k d 165 [.ref 0, yI x1, yI x2, yI x3, .ref 413] m n (qS c (F165 f x1 x2 x3 m)) := by
  have hX : F165 f x1 x2 x3 m = F165 f x1 x2 x3 m := rfl
  have Hr : ∀ r m', F165 f x1 x2 x3 m = some (r, m') → rg r → RM c m' → ∀ n' : Nat, (qS c (F165 f x1 x2 x3 m)) (.inl (some (yI r))) m' n' := fun r m' e h1 h2 n' => ⟨r, rfl, h1, h2, e⟩
  refine PC.mk [some (.ref 0), some (yI x1), some (yI x2), some (yI x3), some (.ref 413), none] kn165 rfl ?_
  refine p_aload 2 c165_0 rfl rfl ?_
  refine p_iconst 3 c165_2 rfl ?_
  refine p_aload 4 c165_3 rfl rfl ?_
  refine p_iload 5 c165_4 rfl rfl ?_
  refine p_iload 6 c165_5 rfl rfl ?_
  refine p_iload 7 c165_6 rfl rfl ?_
  refine p_cTI 10 [.ref 0, yI x1, yI x2, yI x3] [yI 0, .ref 413] c165_7 rfl rfl rfl (fun k' hk' d' => d164 (f := f) (by omega) gx1 gx2 gx3 hR) (fun r6094 m6096 hF6092 hg6093 hR6097 n6062 k6061 hk6061 => ?_) (fun e' q6101 m6096 n' hF6092 hE6099 hR6100 => ?_)
  · have hX6095 := hX.trans (bT_l hF6092)
    refine p_i2l 11 c165_10 rfl ?_
    refine p_laS 12 c165_11 rfl kl413 (rgD rfl) (fun hx6102 => ?_)
    have hR6103 := hR6097.up 413 0 (v := (i2l r6094).toInt) (nselD rfl) (rg_i2l _)
    refine p_goto 19 c165_12 rfl ?_
    refine p_iconst 20 c165_19 rfl ?_
    exact p_ireturn c165_20 (Hr _ _ hX6095 (rgD rfl) hR6103 _)
  · have hXe := hX.trans (bT_r hF6092)
    cases (show e' = 11 from hE6099)
    have hX6104 := hXe.trans (if_pos rfl)
    refine ⟨fun pq hpq k6105 hk6105 => ?_, fun hno => absurd (r_kh165_7_11.symm.trans hno) (by simp)⟩
    have hpp : pq = 15 := by have := r_kh165_7_11.symm.trans hpq; simpa using this.symm
    subst hpp
    refine p_astore 17 c165_15 rfl rfl ?_
    refine p_iconst 18 c165_17 rfl ?_
    exact p_ireturn c165_18 (Hr _ _ hX6104 (rgD rfl) hR6100 _)
def J166_41 (f : Nat) (x1 : Int) (x2 : Int) (x3 : Int) (xs1 : Int) (m : yM) : Option (Int × yM) := (bI (F162 f xs1 m) (fun r6128 m6130 => (if r6128 = 0 then (some (0, m6130)) else (some (m6130 405 (wr ((wr ((wr (96 * x1)) + (wr (12 * x2)))) + x3)).toNat, m6130)))))
set_option maxRecDepth 100000 in
theorem tJ166_41 {L : Nat} {xs : Nat → Int32} {Q : xO → yM → Nat → Prop} {k d n : Nat} {c : yS3} {f : Nat} {x1 : Int} {x2 : Int} {x3 : Int} {xs1 : Int} {m : yM} (hk : k ≤ f) (gx1 : rg x1) (gx2 : rg x2) (gx3 : rg x3) (gxs1 : rg xs1) (hR : RM c m) (Hr : ∀ r m', J166_41 f x1 x2 x3 xs1 m = some (r, m') → rg r → RM c m' → ∀ n', Q (.inl (some (yI r))) m' n') : PW (gZ L xs) k 166 d 41 [some (.ref 376), some (yI x1), some (yI x2), some (yI x3)] [yI xs1, .ref 376] m n Q := by
  have hX : J166_41 f x1 x2 x3 xs1 m = J166_41 f x1 x2 x3 xs1 m := rfl
  refine p_cS 44 [.ref 376, yI xs1] [] c166_41 rfl rfl rfl (fun k' hk' d' => d162 (f := f) (by omega) gxs1 hR) (fun r6128 m6130 hF6126 hg6127 hR6131 n6125 k6124 hk6124 => ?_)
  have hX6129 := hX.trans (bI_s hF6126)
  refine p_if 66 47 c166_44 rfl rfl (yz_eq hg6127) (fun hb6132 k6133 hk6133 => ?_) (fun hb6132 k6134 hk6134 => ?_)
  · have hX6135 := hX6129.trans (if_pos hb6132)
    refine p_iconst 67 c166_66 rfl ?_
    exact p_ireturn c166_67 (Hr _ _ hX6135 (rgD rfl) hR6131 _)
  · have hX6136 := hX6129.trans (if_neg hb6132)
    refine p_aload 48 c166_47 rfl rfl ?_
    refine p_getR 51 c166_48 rfl kf376_42 ?_
    refine p_iconst 53 c166_51 rfl ?_
    refine p_iload 54 c166_53 rfl rfl ?_
    refine p_imul 55 c166_54 rfl ?_
    refine p_iconst 57 c166_55 rfl ?_
    refine p_iload 58 c166_57 rfl rfl ?_
    refine p_imul 59 c166_58 rfl ?_
    refine p_iadd 60 c166_59 rfl ?_
    refine p_iload 61 c166_60 rfl rfl ?_
    refine p_iadd 62 c166_61 rfl ?_
    refine p_iaX 63 (m6130 405 (wr ((wr ((wr (96 * x1)) + (wr (12 * x2)))) + x3)).toNat) c166_62 rfl ka405 (rg_wr _) rfl (fun hx6137 => ?_)
    refine p_goto 67 c166_63 rfl ?_
    exact p_ireturn c166_67 (Hr _ _ hX6136 (hR6131.rg _ _) hR6131 _)
def J166_40 (f : Nat) (x1 : Int) (x2 : Int) (x3 : Int) (m : yM) : Option (Int × yM) := (J166_41 f x1 x2 x3 0 m)
set_option maxRecDepth 100000 in
theorem tJ166_40 {L : Nat} {xs : Nat → Int32} {Q : xO → yM → Nat → Prop} {k d n : Nat} {c : yS3} {f : Nat} {x1 : Int} {x2 : Int} {x3 : Int} {m : yM} (hk : k ≤ f) (gx1 : rg x1) (gx2 : rg x2) (gx3 : rg x3) (hR : RM c m) (Hr : ∀ r m', J166_40 f x1 x2 x3 m = some (r, m') → rg r → RM c m' → ∀ n', Q (.inl (some (yI r))) m' n') : PW (gZ L xs) k 166 d 40 [some (.ref 376), some (yI x1), some (yI x2), some (yI x3)] [.ref 376] m n Q := by
  have hX : J166_40 f x1 x2 x3 m = J166_40 f x1 x2 x3 m := rfl
  refine p_iconst 41 c166_40 rfl ?_
  exact tJ166_41 (f := f) (by omega) gx1 gx2 gx3 (rgD rfl) hR (fun r' m' e' => Hr r' m' (hX.trans e'))
def F166 (f : Nat) (x1 : Int) (x2 : Int) (x3 : Int) (m : yM) : Option (Int × yM) := (if F161 x1 m = 0 then (J166_40 f x1 x2 x3 m) else (if F161 x3 m = 0 then (J166_40 f x1 x2 x3 m) else (if F22 x2 0 (wr ((m 385 (m 376 18).toNat) - 1)) = 0 then (J166_40 f x1 x2 x3 m) else (J166_41 f x1 x2 x3 1 m))))
set_option maxRecDepth 100000 in
theorem d166 {L : Nat} {xs : Nat → Int32} {k d n : Nat} {c : yS3} {f : Nat} {x1 : Int} {x2 : Int} {x3 : Int} {m : yM} (hk : k ≤ f) (gx1 : rg x1) (gx2 : rg x2) (gx3 : rg x3) (hR : RM c m) : PC (gZ L xs) k d 166 [.ref 376, yI x1, yI x2, yI x3] m n (qS c (F166 f x1 x2 x3 m)) := by
  have hX : F166 f x1 x2 x3 m = F166 f x1 x2 x3 m := rfl
  have Hr : ∀ r m', F166 f x1 x2 x3 m = some (r, m') → rg r → RM c m' → ∀ n' : Nat, (qS c (F166 f x1 x2 x3 m)) (.inl (some (yI r))) m' n' := fun r m' e h1 h2 n' => ⟨r, rfl, h1, h2, e⟩
  refine PC.mk [some (.ref 376), some (yI x1), some (yI x2), some (yI x3)] kn166 rfl ?_
  refine p_aload 1 c166_0 rfl rfl ?_
  refine p_aload 2 c166_1 rfl rfl ?_
  refine p_iload 3 c166_2 rfl rfl ?_
  refine p_cX 6 [.ref 376, yI x1] [.ref 376] c166_3 rfl rfl rfl (fun k' hk' d' => d161 gx1 hR) (fun hg6119 n6118 k6117 hk6117 => ?_)
  refine p_if 40 9 c166_6 rfl rfl (yz_eq hg6119) (fun hb6120 k6121 hk6121 => ?_) (fun hb6120 k6122 hk6122 => ?_)
  · have hX6123 := hX.trans (if_pos hb6120)
    exact tJ166_40 (f := f) (by omega) gx1 gx2 gx3 hR (fun r' m' e' => Hr r' m' (hX6123.trans e'))
  · have hX6138 := hX.trans (if_neg hb6120)
    refine p_aload 10 c166_9 rfl rfl ?_
    refine p_iload 11 c166_10 rfl rfl ?_
    refine p_cX 14 [.ref 376, yI x3] [.ref 376] c166_11 rfl rfl rfl (fun k' hk' d' => d161 gx3 hR) (fun hg6141 n6140 k6139 hk6139 => ?_)
    refine p_if 40 17 c166_14 rfl rfl (yz_eq hg6141) (fun hb6142 k6143 hk6143 => ?_) (fun hb6142 k6144 hk6144 => ?_)
    · have hX6145 := hX6138.trans (if_pos hb6142)
      exact tJ166_40 (f := f) (by omega) gx1 gx2 gx3 hR (fun r' m' e' => Hr r' m' (hX6145.trans e'))
    · have hX6146 := hX6138.trans (if_neg hb6142)
      refine p_iload 18 c166_17 rfl rfl ?_
      refine p_iconst 19 c166_18 rfl ?_
      refine p_aload 20 c166_19 rfl rfl ?_
      refine p_getR 23 c166_20 rfl kf376_22 ?_
      refine p_aload 24 c166_23 rfl rfl ?_
      refine p_getX 27 (m 376 18) c166_24 rfl kf376_18 rfl ?_
      refine p_iaX 28 (m 385 (m 376 18).toNat) c166_27 rfl ka385 (hR.rg _ _) rfl (fun hx6147 => ?_)
      refine p_iconst 29 c166_28 rfl ?_
      refine p_isub 30 c166_29 rfl ?_
      refine p_cX 33 [yI x2, yI 0, yI (wr ((m 385 (m 376 18).toNat) - 1))] [.ref 376] c166_30 rfl rfl rfl (fun k' hk' d' => d22 gx2 (rgD rfl) (rg_wr _) hR) (fun hg6150 n6149 k6148 hk6148 => ?_)
      refine p_if 40 36 c166_33 rfl rfl (yz_eq hg6150) (fun hb6151 k6152 hk6152 => ?_) (fun hb6151 k6153 hk6153 => ?_)
      · have hX6154 := hX6146.trans (if_pos hb6151)
        exact tJ166_40 (f := f) (by omega) gx1 gx2 gx3 hR (fun r' m' e' => Hr r' m' (hX6154.trans e'))
      · have hX6155 := hX6146.trans (if_neg hb6151)
        refine p_iconst 37 c166_36 rfl ?_
        refine p_goto 41 c166_37 rfl ?_
        exact tJ166_41 (f := f) (by omega) gx1 gx2 gx3 (rgD rfl) hR (fun r' m' e' => Hr r' m' (hX6155.trans e'))
def F167 (x1 : Int) (m : yM) : Int := (F155 x1 (m (pA (m 0 4)) 10))
set_option maxRecDepth 100000 in
theorem d167 {L : Nat} {xs : Nat → Int32} {k d n : Nat} {c : yS3} {x1 : Int} {m : yM} (gx1 : rg x1) (hR : RM c m) : PC (gZ L xs) k d 167 [.ref 0, yI x1] m n (qX m (F167 x1 m)) := by
  have hX : F167 x1 m = F167 x1 m := rfl
  have Hr : ∀ r, F167 x1 m = r → rg r → ∀ n' : Nat, (qX m (F167 x1 m)) (.inl (some (yI r))) m n' := fun r e h n' => by subst e; exact ⟨rfl, h, rfl⟩
  refine PC.mk [some (.ref 0), some (yI x1)] kn167 rfl ?_
  refine p_iload 1 c167_0 rfl rfl ?_
  refine p_aload 2 c167_1 rfl rfl ?_
  refine p_getV 5 (.ref (pA (m 0 4))) c167_2 rfl kf0_4 (pA_sv2 hR.2.1 rfl) ?_
  refine p_getX 8 (m (pA (m 0 4)) 10) c167_5 rfl (kP_10 (pA_is _)) rfl ?_
  refine p_cX 11 [yI x1, yI (m (pA (m 0 4)) 10)] [] c167_8 rfl rfl rfl (fun k' hk' d' => d155 gx1 (hR.rg _ _) hR) (fun hg6183 n6182 k6181 hk6181 => ?_)
  exact p_ireturn c167_11 (Hr _ hX hg6183 _)
def J168_22 (f : Nat) (m : yM) : Option ((Int ⊕ Nat) × yM) := (some (.inr 11, m))
set_option maxRecDepth 100000 in
theorem tJ168_22 {L : Nat} {xs : Nat → Int32} {Q : xO → yM → Nat → Prop} {k d n : Nat} {c : yS3} {f : Nat} {m : yM} {j0 j1 j2 : Option Value} (hk : k ≤ f) (hR : RM c m) (Hr : ∀ r m', J168_22 f m = some (.inl r, m') → rg r → RM c m' → ∀ n', Q (.inl (some (yI r))) m' n') (Ht : ∀ e m', J168_22 f m = some (.inr e, m') → (fun e => e = 11) e → RM c m' → ∀ x n', Q (.inr (e, x)) m' n') : PW (gZ L xs) k 168 d 22 [j0, j1, j2] [] m n Q := by
  have hX : J168_22 f m = J168_22 f m := rfl
  exact p_throw c168_22 (fun x n' => Ht _ _ hX rfl hR x n')
def F168 (f : Nat) (x1 : Int) (x2 : Int) (m : yM) : Option ((Int ⊕ Nat) × yM) := (if F155 x1 (m (pA (m 0 4)) 12) = 0 then (J168_22 f m) else (if F167 x2 m = 0 then (J168_22 f m) else (if 0 ≤ x1 ∧ x1 < ((12 : Nat) : Int) then (some (.inl (m (59 + (x1).toNat) x2.toNat), m)) else none)))
set_option maxRecDepth 100000 in
theorem d168 {L : Nat} {xs : Nat → Int32} {k d n : Nat} {c : yS3} {f : Nat} {x1 : Int} {x2 : Int} {m : yM} (hk : k ≤ f) (gx1 : rg x1) (gx2 : rg x2) (hR : RM c m) : PC (gZ L xs) k d 168 [.ref 0, yI x1, yI x2] m n (qEI (fun e => e = 11) c (F168 f x1 x2 m)) := by
  have hX : F168 f x1 x2 m = F168 f x1 x2 m := rfl
  have Hr : ∀ r m', F168 f x1 x2 m = some (.inl r, m') → rg r → RM c m' → ∀ n' : Nat, (qEI (fun e => e = 11) c (F168 f x1 x2 m)) (.inl (some (yI r))) m' n' := fun r m' e h1 h2 n' => Or.inl ⟨r, rfl, h1, h2, e⟩
  have Ht : ∀ e m', F168 f x1 x2 m = some (.inr e, m') → (fun e => e = 11) e → RM c m' → ∀ x n' : Nat, (qEI (fun e => e = 11) c (F168 f x1 x2 m)) (.inr (e, x)) m' n' := fun e m' e1 h1 h2 x n' => Or.inr ⟨e, x, rfl, h1, h2, e1⟩
  refine PC.mk [some (.ref 0), some (yI x1), some (yI x2)] kn168 rfl ?_
  refine p_iload 1 c168_0 rfl rfl ?_
  refine p_aload 2 c168_1 rfl rfl ?_
  refine p_getV 5 (.ref (pA (m 0 4))) c168_2 rfl kf0_4 (pA_sv2 hR.2.1 rfl) ?_
  refine p_getX 8 (m (pA (m 0 4)) 12) c168_5 rfl (kP_12 (pA_is _)) rfl ?_
  refine p_cX 11 [yI x1, yI (m (pA (m 0 4)) 12)] [] c168_8 rfl rfl rfl (fun k' hk' d' => d155 gx1 (hR.rg _ _) hR) (fun hg6173 n6172 k6171 hk6171 => ?_)
  refine p_if 22 14 c168_11 rfl rfl (yz_eq hg6173) (fun hb6174 k6175 hk6175 => ?_) (fun hb6174 k6176 hk6176 => ?_)
  · have hX6177 := hX.trans (if_pos hb6174)
    exact tJ168_22 (f := f) (by omega) hR (fun r' m' e' => Hr r' m' (hX6177.trans e')) (fun r' m' e' => Ht r' m' (hX6177.trans e'))
  · have hX6178 := hX.trans (if_neg hb6174)
    refine p_aload 15 c168_14 rfl rfl ?_
    refine p_iload 16 c168_15 rfl rfl ?_
    refine p_cX 19 [.ref 0, yI x2] [] c168_16 rfl rfl rfl (fun k' hk' d' => d167 gx2 hR) (fun hg6184 n6180 k6179 hk6179 => ?_)
    refine p_if 30 22 c168_19 rfl rfl (yz_ne hg6184) (fun hb6185 k6186 hk6186 => ?_) (fun hb6185 k6187 hk6187 => ?_)
    · have hX6188 := hX6178.trans (if_neg hb6185)
      refine p_aload 31 c168_30 rfl rfl ?_
      refine p_getR 34 c168_31 rfl kf0_2 ?_
      refine p_getR 37 c168_34 rfl kf8_1 ?_
      refine p_iload 38 c168_37 rfl rfl ?_
      refine p_aaX 39 c168_38 rfl kr58 gx1 (fun hx6189 => ?_)
      have hX6190 := hX6188.trans (if_pos hx6189)
      refine p_iload 40 c168_39 rfl rfl ?_
      refine p_iaX 41 (m (59 + (x1).toNat) x2.toNat) c168_40 rfl (kR58 hx6189) gx2 rfl (fun hx6191 => ?_)
      exact p_ireturn c168_41 (Hr _ _ hX6190 (hR.rg _ _) hR _)
    · have hX6192 := hX6178.trans (if_pos (Classical.not_not.mp hb6185))
      exact tJ168_22 (f := f) (by omega) hR (fun r' m' e' => Hr r' m' (hX6192.trans e')) (fun r' m' e' => Ht r' m' (hX6192.trans e'))
def F169 (f : Nat) (x1 : Int) (x2 : Int) (m : yM) : Option (Int × yM) := (bT (F168 f x1 x2 m) (fun r6195 m6197 => (some (0, yup m6197 413 0 ((i2l r6195).toInt)))) (fun e' m6197 => (if e' = 11 then (some (1, m6197)) else none)))
set_option maxRecDepth 100000 in
theorem d169 {L : Nat} {xs : Nat → Int32} {k d n : Nat} {c : yS3} {f : Nat} {x1 : Int} {x2 : Int} {m : yM} (hk : k ≤ f) (gx1 : rg x1) (gx2 : rg x2) (hR : RM c m) : PC (gZ L xs) k d 169 [.ref 0, yI x1, yI x2, .ref 413] m n (qS c (F169 f x1 x2 m)) := by
  have hX : F169 f x1 x2 m = F169 f x1 x2 m := rfl
  have Hr : ∀ r m', F169 f x1 x2 m = some (r, m') → rg r → RM c m' → ∀ n' : Nat, (qS c (F169 f x1 x2 m)) (.inl (some (yI r))) m' n' := fun r m' e h1 h2 n' => ⟨r, rfl, h1, h2, e⟩
  refine PC.mk [some (.ref 0), some (yI x1), some (yI x2), some (.ref 413), none] kn169 rfl ?_
  refine p_aload 1 c169_0 rfl rfl ?_
  refine p_iconst 2 c169_1 rfl ?_
  refine p_aload 3 c169_2 rfl rfl ?_
  refine p_iload 4 c169_3 rfl rfl ?_
  refine p_iload 5 c169_4 rfl rfl ?_
  refine p_cTI 8 [.ref 0, yI x1, yI x2] [yI 0, .ref 413] c169_5 rfl rfl rfl (fun k' hk' d' => d168 (f := f) (by omega) gx1 gx2 hR) (fun r6195 m6197 hF6193 hg6194 hR6198 n6170 k6169 hk6169 => ?_) (fun e' q6202 m6197 n' hF6193 hE6200 hR6201 => ?_)
  · have hX6196 := hX.trans (bT_l hF6193)
    refine p_i2l 9 c169_8 rfl ?_
    refine p_laS 10 c169_9 rfl kl413 (rgD rfl) (fun hx6203 => ?_)
    have hR6204 := hR6198.up 413 0 (v := (i2l r6195).toInt) (nselD rfl) (rg_i2l _)
    refine p_goto 17 c169_10 rfl ?_
    refine p_iconst 18 c169_17 rfl ?_
    exact p_ireturn c169_18 (Hr _ _ hX6196 (rgD rfl) hR6204 _)
  · have hXe := hX.trans (bT_r hF6193)
    cases (show e' = 11 from hE6200)
    have hX6205 := hXe.trans (if_pos rfl)
    refine ⟨fun pq hpq k6206 hk6206 => ?_, fun hno => absurd (r_kh169_5_11.symm.trans hno) (by simp)⟩
    have hpp : pq = 13 := by have := r_kh169_5_11.symm.trans hpq; simpa using this.symm
    subst hpp
    refine p_astore 15 c169_13 rfl rfl ?_
    refine p_iconst 16 c169_15 rfl ?_
    exact p_ireturn c169_16 (Hr _ _ hX6205 (rgD rfl) hR6201 _)
def F170 (x1 : Int) (m : yM) : Int := (if m 376 19 = 0 then 0 else (if F22 x1 0 (wr ((m 384 (m 376 18).toNat) - 1)) = 0 then 0 else 1))
set_option maxRecDepth 100000 in
theorem d170 {L : Nat} {xs : Nat → Int32} {k d n : Nat} {c : yS3} {x1 : Int} {m : yM} (gx1 : rg x1) (hR : RM c m) : PC (gZ L xs) k d 170 [.ref 376, yI x1] m n (qX m (F170 x1 m)) := by
  have hX : F170 x1 m = F170 x1 m := rfl
  have Hr : ∀ r, F170 x1 m = r → rg r → ∀ n' : Nat, (qX m (F170 x1 m)) (.inl (some (yI r))) m n' := fun r e h n' => by subst e; exact ⟨rfl, h, rfl⟩
  refine PC.mk [some (.ref 376), some (yI x1)] kn170 rfl ?_
  refine p_aload 1 c170_0 rfl rfl ?_
  refine p_getX 4 (m 376 19) c170_1 rfl kf376_19 rfl ?_
  refine p_if 30 7 c170_4 rfl rfl (yz_eq (hR.rg _ _)) (fun hb6219 k6220 hk6220 => ?_) (fun hb6219 k6221 hk6221 => ?_)
  · have hX6222 := hX.trans (if_pos hb6219)
    refine p_iconst 31 c170_30 rfl ?_
    exact p_ireturn c170_31 (Hr _ hX6222 (rgD rfl) _)
  · have hX6223 := hX.trans (if_neg hb6219)
    refine p_iload 8 c170_7 rfl rfl ?_
    refine p_iconst 9 c170_8 rfl ?_
    refine p_aload 10 c170_9 rfl rfl ?_
    refine p_getR 13 c170_10 rfl kf376_21 ?_
    refine p_aload 14 c170_13 rfl rfl ?_
    refine p_getX 17 (m 376 18) c170_14 rfl kf376_18 rfl ?_
    refine p_iaX 18 (m 384 (m 376 18).toNat) c170_17 rfl ka384 (hR.rg _ _) rfl (fun hx6224 => ?_)
    refine p_iconst 19 c170_18 rfl ?_
    refine p_isub 20 c170_19 rfl ?_
    refine p_cX 23 [yI x1, yI 0, yI (wr ((m 384 (m 376 18).toNat) - 1))] [] c170_20 rfl rfl rfl (fun k' hk' d' => d22 gx1 (rgD rfl) (rg_wr _) hR) (fun hg6227 n6226 k6225 hk6225 => ?_)
    refine p_if 30 26 c170_23 rfl rfl (yz_eq hg6227) (fun hb6228 k6229 hk6229 => ?_) (fun hb6228 k6230 hk6230 => ?_)
    · have hX6231 := hX6223.trans (if_pos hb6228)
      refine p_iconst 31 c170_30 rfl ?_
      exact p_ireturn c170_31 (Hr _ hX6231 (rgD rfl) _)
    · have hX6232 := hX6223.trans (if_neg hb6228)
      refine p_iconst 27 c170_26 rfl ?_
      refine p_goto 31 c170_27 rfl ?_
      exact p_ireturn c170_31 (Hr _ hX6232 (rgD rfl) _)
def J171_33 (f : Nat) (x1 : Int) (x2 : Int) (xs1 : Int) (m : yM) : Option (Int × yM) := (bI (F162 f xs1 m) (fun r6242 m6244 => (if r6242 = 0 then (some (0, m6244)) else (some (m6244 406 (wr ((wr (10 * x1)) + x2)).toNat, m6244)))))
set_option maxRecDepth 100000 in
theorem tJ171_33 {L : Nat} {xs : Nat → Int32} {Q : xO → yM → Nat → Prop} {k d n : Nat} {c : yS3} {f : Nat} {x1 : Int} {x2 : Int} {xs1 : Int} {m : yM} (hk : k ≤ f) (gx1 : rg x1) (gx2 : rg x2) (gxs1 : rg xs1) (hR : RM c m) (Hr : ∀ r m', J171_33 f x1 x2 xs1 m = some (r, m') → rg r → RM c m' → ∀ n', Q (.inl (some (yI r))) m' n') : PW (gZ L xs) k 171 d 33 [some (.ref 376), some (yI x1), some (yI x2)] [yI xs1, .ref 376] m n Q := by
  have hX : J171_33 f x1 x2 xs1 m = J171_33 f x1 x2 xs1 m := rfl
  refine p_cS 36 [.ref 376, yI xs1] [] c171_33 rfl rfl rfl (fun k' hk' d' => d162 (f := f) (by omega) gxs1 hR) (fun r6242 m6244 hF6240 hg6241 hR6245 n6239 k6238 hk6238 => ?_)
  have hX6243 := hX.trans (bI_s hF6240)
  refine p_if 53 39 c171_36 rfl rfl (yz_eq hg6241) (fun hb6246 k6247 hk6247 => ?_) (fun hb6246 k6248 hk6248 => ?_)
  · have hX6249 := hX6243.trans (if_pos hb6246)
    refine p_iconst 54 c171_53 rfl ?_
    exact p_ireturn c171_54 (Hr _ _ hX6249 (rgD rfl) hR6245 _)
  · have hX6250 := hX6243.trans (if_neg hb6246)
    refine p_aload 40 c171_39 rfl rfl ?_
    refine p_getR 43 c171_40 rfl kf376_43 ?_
    refine p_iconst 45 c171_43 rfl ?_
    refine p_iload 46 c171_45 rfl rfl ?_
    refine p_imul 47 c171_46 rfl ?_
    refine p_iload 48 c171_47 rfl rfl ?_
    refine p_iadd 49 c171_48 rfl ?_
    refine p_iaX 50 (m6244 406 (wr ((wr (10 * x1)) + x2)).toNat) c171_49 rfl ka406 (rg_wr _) rfl (fun hx6251 => ?_)
    refine p_goto 54 c171_50 rfl ?_
    exact p_ireturn c171_54 (Hr _ _ hX6250 (hR6245.rg _ _) hR6245 _)
def J171_32 (f : Nat) (x1 : Int) (x2 : Int) (m : yM) : Option (Int × yM) := (J171_33 f x1 x2 0 m)
set_option maxRecDepth 100000 in
theorem tJ171_32 {L : Nat} {xs : Nat → Int32} {Q : xO → yM → Nat → Prop} {k d n : Nat} {c : yS3} {f : Nat} {x1 : Int} {x2 : Int} {m : yM} (hk : k ≤ f) (gx1 : rg x1) (gx2 : rg x2) (hR : RM c m) (Hr : ∀ r m', J171_32 f x1 x2 m = some (r, m') → rg r → RM c m' → ∀ n', Q (.inl (some (yI r))) m' n') : PW (gZ L xs) k 171 d 32 [some (.ref 376), some (yI x1), some (yI x2)] [.ref 376] m n Q := by
  have hX : J171_32 f x1 x2 m = J171_32 f x1 x2 m := rfl
  refine p_iconst 33 c171_32 rfl ?_
  exact tJ171_33 (f := f) (by omega) gx1 gx2 (rgD rfl) hR (fun r' m' e' => Hr r' m' (hX.trans e'))
def F171 (f : Nat) (x1 : Int) (x2 : Int) (m : yM) : Option (Int × yM) := (if F170 x2 m = 0 then (J171_32 f x1 x2 m) else (if F22 x1 0 (wr ((m 386 (m 376 18).toNat) - 1)) = 0 then (J171_32 f x1 x2 m) else (J171_33 f x1 x2 1 m)))
set_option maxRecDepth 100000 in
theorem d171 {L : Nat} {xs : Nat → Int32} {k d n : Nat} {c : yS3} {f : Nat} {x1 : Int} {x2 : Int} {m : yM} (hk : k ≤ f) (gx1 : rg x1) (gx2 : rg x2) (hR : RM c m) : PC (gZ L xs) k d 171 [.ref 376, yI x1, yI x2] m n (qS c (F171 f x1 x2 m)) := by
  have hX : F171 f x1 x2 m = F171 f x1 x2 m := rfl
  have Hr : ∀ r m', F171 f x1 x2 m = some (r, m') → rg r → RM c m' → ∀ n' : Nat, (qS c (F171 f x1 x2 m)) (.inl (some (yI r))) m' n' := fun r m' e h1 h2 n' => ⟨r, rfl, h1, h2, e⟩
  refine PC.mk [some (.ref 376), some (yI x1), some (yI x2)] kn171 rfl ?_
  refine p_aload 1 c171_0 rfl rfl ?_
  refine p_aload 2 c171_1 rfl rfl ?_
  refine p_iload 3 c171_2 rfl rfl ?_
  refine p_cX 6 [.ref 376, yI x2] [.ref 376] c171_3 rfl rfl rfl (fun k' hk' d' => d170 gx2 hR) (fun hg6233 n6218 k6217 hk6217 => ?_)
  refine p_if 32 9 c171_6 rfl rfl (yz_eq hg6233) (fun hb6234 k6235 hk6235 => ?_) (fun hb6234 k6236 hk6236 => ?_)
  · have hX6237 := hX.trans (if_pos hb6234)
    exact tJ171_32 (f := f) (by omega) gx1 gx2 hR (fun r' m' e' => Hr r' m' (hX6237.trans e'))
  · have hX6252 := hX.trans (if_neg hb6234)
    refine p_iload 10 c171_9 rfl rfl ?_
    refine p_iconst 11 c171_10 rfl ?_
    refine p_aload 12 c171_11 rfl rfl ?_
    refine p_getR 15 c171_12 rfl kf376_23 ?_
    refine p_aload 16 c171_15 rfl rfl ?_
    refine p_getX 19 (m 376 18) c171_16 rfl kf376_18 rfl ?_
    refine p_iaX 20 (m 386 (m 376 18).toNat) c171_19 rfl ka386 (hR.rg _ _) rfl (fun hx6253 => ?_)
    refine p_iconst 21 c171_20 rfl ?_
    refine p_isub 22 c171_21 rfl ?_
    refine p_cX 25 [yI x1, yI 0, yI (wr ((m 386 (m 376 18).toNat) - 1))] [.ref 376] c171_22 rfl rfl rfl (fun k' hk' d' => d22 gx1 (rgD rfl) (rg_wr _) hR) (fun hg6256 n6255 k6254 hk6254 => ?_)
    refine p_if 32 28 c171_25 rfl rfl (yz_eq hg6256) (fun hb6257 k6258 hk6258 => ?_) (fun hb6257 k6259 hk6259 => ?_)
    · have hX6260 := hX6252.trans (if_pos hb6257)
      exact tJ171_32 (f := f) (by omega) gx1 gx2 hR (fun r' m' e' => Hr r' m' (hX6260.trans e'))
    · have hX6261 := hX6252.trans (if_neg hb6257)
      refine p_iconst 29 c171_28 rfl ?_
      refine p_goto 33 c171_29 rfl ?_
      exact tJ171_33 (f := f) (by omega) gx1 gx2 (rgD rfl) hR (fun r' m' e' => Hr r' m' (hX6261.trans e'))
def F172 (f : Nat) (x1 : Int) (m : yM) : Option ((Int ⊕ Nat) × yM) := (if F167 x1 m = 0 then (some (.inr 11, m)) else (some (.inl (m 71 x1.toNat), m)))
set_option maxRecDepth 100000 in
theorem d172 {L : Nat} {xs : Nat → Int32} {k d n : Nat} {c : yS3} {f : Nat} {x1 : Int} {m : yM} (hk : k ≤ f) (gx1 : rg x1) (hR : RM c m) : PC (gZ L xs) k d 172 [.ref 0, yI x1] m n (qEI (fun e => e = 11) c (F172 f x1 m)) := by
  have hX : F172 f x1 m = F172 f x1 m := rfl
  have Hr : ∀ r m', F172 f x1 m = some (.inl r, m') → rg r → RM c m' → ∀ n' : Nat, (qEI (fun e => e = 11) c (F172 f x1 m)) (.inl (some (yI r))) m' n' := fun r m' e h1 h2 n' => Or.inl ⟨r, rfl, h1, h2, e⟩
  have Ht : ∀ e m', F172 f x1 m = some (.inr e, m') → (fun e => e = 11) e → RM c m' → ∀ x n' : Nat, (qEI (fun e => e = 11) c (F172 f x1 m)) (.inr (e, x)) m' n' := fun e m' e1 h1 h2 x n' => Or.inr ⟨e, x, rfl, h1, h2, e1⟩
  refine PC.mk [some (.ref 0), some (yI x1)] kn172 rfl ?_
  refine p_aload 1 c172_0 rfl rfl ?_
  refine p_iload 2 c172_1 rfl rfl ?_
  refine p_cX 5 [.ref 0, yI x1] [] c172_2 rfl rfl rfl (fun k' hk' d' => d167 gx1 hR) (fun hg6278 n6277 k6276 hk6276 => ?_)
  refine p_if 16 8 c172_5 rfl rfl (yz_ne hg6278) (fun hb6279 k6280 hk6280 => ?_) (fun hb6279 k6281 hk6281 => ?_)
  · have hX6282 := hX.trans (if_neg hb6279)
    refine p_aload 17 c172_16 rfl rfl ?_
    refine p_getR 20 c172_17 rfl kf0_2 ?_
    refine p_getR 23 c172_20 rfl kf8_2 ?_
    refine p_iload 24 c172_23 rfl rfl ?_
    refine p_iaX 25 (m 71 x1.toNat) c172_24 rfl ka71 gx1 rfl (fun hx6283 => ?_)
    exact p_ireturn c172_25 (Hr _ _ hX6282 (hR.rg _ _) hR _)
  · have hX6284 := hX.trans (if_pos (Classical.not_not.mp hb6279))
    exact p_throw c172_8 (fun x n' => Ht _ _ hX6284 rfl hR x n')
def F173 (f : Nat) (x1 : Int) (m : yM) : Option (Int × yM) := (bT (F172 f x1 m) (fun r6287 m6289 => (some (0, yup m6289 413 0 ((i2l r6287).toInt)))) (fun e' m6289 => (if e' = 11 then (some (1, m6289)) else none)))
set_option maxRecDepth 100000 in
theorem d173 {L : Nat} {xs : Nat → Int32} {k d n : Nat} {c : yS3} {f : Nat} {x1 : Int} {m : yM} (hk : k ≤ f) (gx1 : rg x1) (hR : RM c m) : PC (gZ L xs) k d 173 [.ref 0, yI x1, .ref 413] m n (qS c (F173 f x1 m)) := by
  have hX : F173 f x1 m = F173 f x1 m := rfl
  have Hr : ∀ r m', F173 f x1 m = some (r, m') → rg r → RM c m' → ∀ n' : Nat, (qS c (F173 f x1 m)) (.inl (some (yI r))) m' n' := fun r m' e h1 h2 n' => ⟨r, rfl, h1, h2, e⟩
  refine PC.mk [some (.ref 0), some (yI x1), some (.ref 413), none] kn173 rfl ?_
  refine p_aload 1 c173_0 rfl rfl ?_
  refine p_iconst 2 c173_1 rfl ?_
  refine p_aload 3 c173_2 rfl rfl ?_
  refine p_iload 4 c173_3 rfl rfl ?_
  refine p_cTI 7 [.ref 0, yI x1] [yI 0, .ref 413] c173_4 rfl rfl rfl (fun k' hk' d' => d172 (f := f) (by omega) gx1 hR) (fun r6287 m6289 hF6285 hg6286 hR6290 n6275 k6274 hk6274 => ?_) (fun e' q6294 m6289 n' hF6285 hE6292 hR6293 => ?_)
  · have hX6288 := hX.trans (bT_l hF6285)
    refine p_i2l 8 c173_7 rfl ?_
    refine p_laS 9 c173_8 rfl kl413 (rgD rfl) (fun hx6295 => ?_)
    have hR6296 := hR6290.up 413 0 (v := (i2l r6287).toInt) (nselD rfl) (rg_i2l _)
    refine p_goto 15 c173_9 rfl ?_
    refine p_iconst 16 c173_15 rfl ?_
    exact p_ireturn c173_16 (Hr _ _ hX6288 (rgD rfl) hR6296 _)
  · have hXe := hX.trans (bT_r hF6285)
    cases (show e' = 11 from hE6292)
    have hX6297 := hXe.trans (if_pos rfl)
    refine ⟨fun pq hpq k6298 hk6298 => ?_, fun hno => absurd (r_kh173_4_11.symm.trans hno) (by simp)⟩
    have hpp : pq = 12 := by have := r_kh173_4_11.symm.trans hpq; simpa using this.symm
    subst hpp
    refine p_astore 13 c173_12 rfl rfl ?_
    refine p_iconst 14 c173_13 rfl ?_
    exact p_ireturn c173_14 (Hr _ _ hX6297 (rgD rfl) hR6293 _)
def F174 (f : Nat) (x1 : Int) (m : yM) : Option (Int × yM) := (bI (F162 f (F170 x1 m) m) (fun r6315 m6317 => (if r6315 = 0 then (some (0, m6317)) else (some (m6317 407 x1.toNat, m6317)))))
set_option maxRecDepth 100000 in
theorem d174 {L : Nat} {xs : Nat → Int32} {k d n : Nat} {c : yS3} {f : Nat} {x1 : Int} {m : yM} (hk : k ≤ f) (gx1 : rg x1) (hR : RM c m) : PC (gZ L xs) k d 174 [.ref 376, yI x1] m n (qS c (F174 f x1 m)) := by
  have hX : F174 f x1 m = F174 f x1 m := rfl
  have Hr : ∀ r m', F174 f x1 m = some (r, m') → rg r → RM c m' → ∀ n' : Nat, (qS c (F174 f x1 m)) (.inl (some (yI r))) m' n' := fun r m' e h1 h2 n' => ⟨r, rfl, h1, h2, e⟩
  refine PC.mk [some (.ref 376), some (yI x1)] kn174 rfl ?_
  refine p_aload 1 c174_0 rfl rfl ?_
  refine p_aload 2 c174_1 rfl rfl ?_
  refine p_iload 3 c174_2 rfl rfl ?_
  refine p_cX 6 [.ref 376, yI x1] [.ref 376] c174_3 rfl rfl rfl (fun k' hk' d' => d170 gx1 hR) (fun hg6310 n6309 k6308 hk6308 => ?_)
  refine p_cS 9 [.ref 376, yI (F170 x1 m)] [] c174_6 rfl rfl rfl (fun k' hk' d' => d162 (f := f) (by omega) hg6310 hR) (fun r6315 m6317 hF6313 hg6314 hR6318 n6312 k6311 hk6311 => ?_)
  have hX6316 := hX.trans (bI_s hF6313)
  refine p_if 21 12 c174_9 rfl rfl (yz_eq hg6314) (fun hb6319 k6320 hk6320 => ?_) (fun hb6319 k6321 hk6321 => ?_)
  · have hX6322 := hX6316.trans (if_pos hb6319)
    refine p_iconst 22 c174_21 rfl ?_
    exact p_ireturn c174_22 (Hr _ _ hX6322 (rgD rfl) hR6318 _)
  · have hX6323 := hX6316.trans (if_neg hb6319)
    refine p_aload 13 c174_12 rfl rfl ?_
    refine p_getR 16 c174_13 rfl kf376_44 ?_
    refine p_iload 17 c174_16 rfl rfl ?_
    refine p_iaX 18 (m6317 407 x1.toNat) c174_17 rfl ka407 gx1 rfl (fun hx6324 => ?_)
    refine p_goto 22 c174_18 rfl ?_
    exact p_ireturn c174_22 (Hr _ _ hX6323 (hR6318.rg _ _) hR6318 _)
def J175_53 (f : Nat) (A : Nat) (a1 : Nat) (x2 : Int) : Option (Int ⊕ (Int ⊕ Int)) := (some (.inl (wr (x2 + 1))))
set_option maxRecDepth 100000 in
theorem tJ175_53 {L : Nat} {xs : Nat → Int32} {Q : xO → yM → Nat → Prop} {k d n : Nat} {c : yS3} {f : Nat} {A : Nat} {a1 : Nat} {x2 : Int} {m : yM} (hk : k ≤ f) (hc : c.2.1 = pX A) (hA : (A = 256 ∨ A = 316)) (hs1 : (276 ≤ a1 ∧ a1 < 316) ∨ (336 ≤ a1 ∧ a1 < 376)) (gx2 : rg x2) (hR : RM c m) (Hn : ∀ (y0 : Int) (n' : Nat), J175_53 f A a1 x2 = some (.inl y0) → rg y0 → ∀ k', k' < k → PW (gZ L xs) k' 175 d 2 [some (.ref 8), some (.ref a1), some (yI y0)] [] m n' Q) (He : ∀ (y0 : Int) (n' : Nat), J175_53 f A a1 x2 = some (.inr (.inl y0)) → rg y0 → ∀ k', k' ≤ k → PW (gZ L xs) k' 175 d 59 [some (.ref 8), some (.ref a1), some (yI y0)] [] m n' Q) (Hr : ∀ r, J175_53 f A a1 x2 = some (.inr (.inr r)) → rg r → ∀ n', Q (.inl (some (yI r))) m n') : PW (gZ L xs) k 175 d 53 [some (.ref 8), some (.ref a1), some (yI x2)] [] m n Q := by
  have hX : J175_53 f A a1 x2 = J175_53 f A a1 x2 := rfl
  refine p_iinc 56 c175_53 rfl rfl rfl ?_
  refine p_gotoD 2 c175_56 rfl (fun k6363 hk6363 => ?_)
  exact Hn _ _ hX (rg_wr _) _ (by omega)
def B175_2 (f : Nat) (A : Nat) (a1 : Nat) (x2 : Int) (m : yM) : Option (Int ⊕ (Int ⊕ Int)) := (if x2 < m A 14 then (if 0 ≤ (m a1 3) ∧ (m a1 3) < ((48 : Nat) : Int) then (if m (10 + (m a1 3).toNat) x2.toNat = (-1) then (J175_53 f A a1 x2) else (bP (F81 f A (m (A + 8) x2.toNat) (m a1 7) m) (fun r6370 => (if r6370 = 0 then (some (.inr (.inr 0))) else (J175_53 f A a1 x2))))) else none) else (some (.inr (.inl x2))))
set_option maxRecDepth 100000 in
theorem tB175_2 {L : Nat} {xs : Nat → Int32} {Q : xO → yM → Nat → Prop} {k d n : Nat} {c : yS3} {f : Nat} {A : Nat} {a1 : Nat} {x2 : Int} {m : yM} (hk : k ≤ f) (hc : c.2.1 = pX A) (hA : (A = 256 ∨ A = 316)) (hs1 : (276 ≤ a1 ∧ a1 < 316) ∨ (336 ≤ a1 ∧ a1 < 376)) (gx2 : rg x2) (hR : RM c m) (Hn : ∀ (y0 : Int) (n' : Nat), B175_2 f A a1 x2 m = some (.inl y0) → rg y0 → ∀ k', k' < k → PW (gZ L xs) k' 175 d 2 [some (.ref 8), some (.ref a1), some (yI y0)] [] m n' Q) (He : ∀ (y0 : Int) (n' : Nat), B175_2 f A a1 x2 m = some (.inr (.inl y0)) → rg y0 → ∀ k', k' ≤ k → PW (gZ L xs) k' 175 d 59 [some (.ref 8), some (.ref a1), some (yI y0)] [] m n' Q) (Hr : ∀ r, B175_2 f A a1 x2 m = some (.inr (.inr r)) → rg r → ∀ n', Q (.inl (some (yI r))) m n') : PW (gZ L xs) k 175 d 2 [some (.ref 8), some (.ref a1), some (yI x2)] [] m n Q := by
  have hX : B175_2 f A a1 x2 m = B175_2 f A a1 x2 m := rfl
  refine p_iload 3 c175_2 rfl rfl ?_
  refine p_aload 4 c175_3 rfl rfl ?_
  refine p_getV 7 (.ref A) c175_4 rfl kf8_4 (pX_of hA hR.2.2.2.2.1 hc) ?_
  refine p_getX 10 (m A 14) c175_7 rfl (kP_14 hA) rfl ?_
  refine p_icmp 59 13 c175_10 rfl rfl ((yc_ge gx2 (hR.rg _ _)).trans Int.not_lt.symm) (fun hb6351 k6352 hk6352 => ?_) (fun hb6351 k6353 hk6353 => ?_)
  · have hX6354 := hX.trans (if_neg hb6351)
    exact He _ _ hX6354 gx2 _ (by omega)
  · have hX6355 := hX.trans (if_pos (Classical.not_not.mp hb6351))
    refine p_aload 14 c175_13 rfl rfl ?_
    refine p_getR 17 c175_14 rfl kf8_0 ?_
    refine p_aload 18 c175_17 rfl rfl ?_
    refine p_getX 21 (m a1 3) c175_18 rfl (kS_3 hs1) rfl ?_
    refine p_aaX 22 c175_21 rfl kr9 (hR.rg _ _) (fun hx6356 => ?_)
    have hX6357 := hX6355.trans (if_pos hx6356)
    refine p_iload 23 c175_22 rfl rfl ?_
    refine p_iaX 24 (m (10 + (m a1 3).toNat) x2.toNat) c175_23 rfl (kR9 hx6356) gx2 rfl (fun hx6358 => ?_)
    refine p_iconst 25 c175_24 rfl ?_
    refine p_icmp 53 28 c175_25 rfl rfl (yc_eq (hR.rg _ _) (rgD rfl)) (fun hb6359 k6360 hk6360 => ?_) (fun hb6359 k6361 hk6361 => ?_)
    · have hX6362 := hX6357.trans (if_pos hb6359)
      exact tJ175_53 (f := f) (by omega) hc hA hs1 gx2 hR (fun y0 n' e' h0 k' hk' => Hn y0 n' (hX6362.trans e') h0 k' (by omega)) (fun y0 n' e' h0 k' hk' => He y0 n' (hX6362.trans e') h0 k' (by omega)) (fun r' e' => Hr r' (hX6362.trans e'))
    · have hX6364 := hX6357.trans (if_neg hb6359)
      refine p_aload 29 c175_28 rfl rfl ?_
      refine p_getV 32 (.ref A) c175_29 rfl kf8_4 (pX_of hA hR.2.2.2.2.1 hc) ?_
      refine p_aload 33 c175_32 rfl rfl ?_
      refine p_getV 36 (.ref A) c175_33 rfl kf8_4 (pX_of hA hR.2.2.2.2.1 hc) ?_
      refine p_getR 39 c175_36 rfl (kP_7 hA) ?_
      refine p_iload 40 c175_39 rfl rfl ?_
      refine p_iaX 41 (m (A + 8) x2.toNat) c175_40 rfl (kPa_8 hA) gx2 rfl (fun hx6365 => ?_)
      refine p_aload 42 c175_41 rfl rfl ?_
      refine p_getX 45 (m a1 7) c175_42 rfl (kS_7 hs1) rfl ?_
      refine p_cO 48 [.ref A, yI (m (A + 8) x2.toNat), yI (m a1 7)] [] c175_45 rfl rfl rfl (fun k' hk' d' => d81 (f := f) (by omega) hA (hR.rg _ _) (hR.rg _ _) hR) (fun r6370 hF6368 hg6369 n6367 k6366 hk6366 => ?_)
      have hX6371 := hX6364.trans (bP_s hF6368)
      refine p_if 53 51 c175_48 rfl rfl (yz_ne hg6369) (fun hb6372 k6373 hk6373 => ?_) (fun hb6372 k6374 hk6374 => ?_)
      · have hX6375 := hX6371.trans (if_neg hb6372)
        exact tJ175_53 (f := f) (by omega) hc hA hs1 gx2 hR (fun y0 n' e' h0 k' hk' => Hn y0 n' (hX6375.trans e') h0 k' (by omega)) (fun y0 n' e' h0 k' hk' => He y0 n' (hX6375.trans e') h0 k' (by omega)) (fun r' e' => Hr r' (hX6375.trans e'))
      · have hX6376 := hX6371.trans (if_pos (Classical.not_not.mp hb6372))
        refine p_iconst 52 c175_51 rfl ?_
        exact p_ireturn c175_52 (Hr _ hX6376 (rgD rfl) _)
def F175 (f : Nat) (A : Nat) (a1 : Nat) (m : yM) : Option Int := (bQ (ploop (fun (l : Int) => B175_2 f A a1 l m) f 0) (fun l6377 => (some 1)) (fun r => some r))
set_option maxRecDepth 100000 in
theorem d175 {L : Nat} {xs : Nat → Int32} {k d n : Nat} {c : yS3} {f : Nat} {A : Nat} {a1 : Nat} {m : yM} (hk : k ≤ f) (hc : c.2.1 = pX A) (hA : (A = 256 ∨ A = 316)) (hs1 : (276 ≤ a1 ∧ a1 < 316) ∨ (336 ≤ a1 ∧ a1 < 376)) (hR : RM c m) : PC (gZ L xs) k d 175 [.ref 8, .ref a1] m n (qO m (F175 f A a1 m)) := by
  have hX : F175 f A a1 m = F175 f A a1 m := rfl
  have Hr : ∀ r, F175 f A a1 m = some r → rg r → ∀ n' : Nat, (qO m (F175 f A a1 m)) (.inl (some (yI r))) m n' := fun r e h n' => ⟨r, rfl, h, rfl, e⟩
  refine PC.mk [some (.ref 8), some (.ref a1), none] kn175 rfl ?_
  refine p_iconst 1 c175_0 rfl ?_
  refine p_istore 2 c175_1 rfl rfl ?_
  refine PW.ploop (K := k) (pce := 59) (fun (l : Int) => B175_2 f A a1 l m) (fun (l : Int) j => [some (.ref 8), some (.ref a1), some (yI l)]) (fun (l : Int) => rg l) (fun r' => rg r' → ∀ n' : Nat, (qO m (F175 f A a1 m)) (.inl (some (yI r'))) m n') (fun k' hk' l j n' hl Hn' He' Hr' => tB175_2 (f := f) (by omega) hc hA hs1 hl hR (fun y0 n2 e h0 => Hn' y0 (fun q => ([none, none, none] : List (Option Value)).getD q none) n2 e h0) (fun y0 n2 e h0 => He' y0 (fun q => ([none, none, none] : List (Option Value)).getD q none) n2 e h0) Hr') f k (by omega) (Nat.le_refl _) 0 (fun q => ([some (.ref 8), some (.ref a1), some (yI 0)] : xL).getD q none) _ (rgD rfl) (fun l6377 j6380 n6382 e6379 hl6378 k6381 hk6381 => ?_) (fun r' e' => ?_)
  · have hX6383 := hX.trans (bQ_l e6379)
    refine p_iconst 60 c175_59 rfl ?_
    exact p_ireturn c175_60 (Hr _ hX6383 (rgD rfl) _)
  · exact Hr r' (hX.trans (bQ_r e'))
def F176 (f : Nat) (x1 : Int) (m : yM) : Option ((Int ⊕ Nat) × yM) := (if F155 x1 (m (pA (m 0 4)) 13) = 0 then (some (.inr 11, m)) else (if 0 ≤ (m ((pA (m 0 4)) + 9) x1.toNat) ∧ (m ((pA (m 0 4)) + 9) x1.toNat) < ((40 : Nat) : Int) then (bP (F175 f (pA (m 8 4)) ((pA (m 0 4)) + 20 + (m ((pA (m 0 4)) + 9) x1.toNat).toNat) m) (fun r6386 => (if r6386 = 0 then (some (.inl 0, m)) else (some (.inl 1, m))))) else none))
set_option maxRecDepth 100000 in
theorem d176 {L : Nat} {xs : Nat → Int32} {k d n : Nat} {c : yS3} {f : Nat} {x1 : Int} {m : yM} (hk : k ≤ f) (gx1 : rg x1) (hR : RM c m) : PC (gZ L xs) k d 176 [.ref 0, yI x1] m n (qEI (fun e => e = 11) c (F176 f x1 m)) := by
  have hX : F176 f x1 m = F176 f x1 m := rfl
  have Hr : ∀ r m', F176 f x1 m = some (.inl r, m') → rg r → RM c m' → ∀ n' : Nat, (qEI (fun e => e = 11) c (F176 f x1 m)) (.inl (some (yI r))) m' n' := fun r m' e h1 h2 n' => Or.inl ⟨r, rfl, h1, h2, e⟩
  have Ht : ∀ e m', F176 f x1 m = some (.inr e, m') → (fun e => e = 11) e → RM c m' → ∀ x n' : Nat, (qEI (fun e => e = 11) c (F176 f x1 m)) (.inr (e, x)) m' n' := fun e m' e1 h1 h2 x n' => Or.inr ⟨e, x, rfl, h1, h2, e1⟩
  refine PC.mk [some (.ref 0), some (yI x1)] kn176 rfl ?_
  refine p_iload 1 c176_0 rfl rfl ?_
  refine p_aload 2 c176_1 rfl rfl ?_
  refine p_getV 5 (.ref (pA (m 0 4))) c176_2 rfl kf0_4 (pA_sv2 hR.2.1 rfl) ?_
  refine p_getX 8 (m (pA (m 0 4)) 13) c176_5 rfl (kP_13 (pA_is _)) rfl ?_
  refine p_cX 11 [yI x1, yI (m (pA (m 0 4)) 13)] [] c176_8 rfl rfl rfl (fun k' hk' d' => d155 gx1 (hR.rg _ _) hR) (fun hg6341 n6340 k6339 hk6339 => ?_)
  refine p_if 22 14 c176_11 rfl rfl (yz_ne hg6341) (fun hb6342 k6343 hk6343 => ?_) (fun hb6342 k6344 hk6344 => ?_)
  · have hX6345 := hX.trans (if_neg hb6342)
    refine p_aload 23 c176_22 rfl rfl ?_
    refine p_getR 26 c176_23 rfl kf0_2 ?_
    refine p_aload 27 c176_26 rfl rfl ?_
    refine p_getV 30 (.ref (pA (m 0 4))) c176_27 rfl kf0_4 (pA_sv2 hR.2.1 rfl) ?_
    refine p_getR 33 c176_30 rfl (kP_6 (pA_is _)) ?_
    refine p_aload 34 c176_33 rfl rfl ?_
    refine p_getV 37 (.ref (pA (m 0 4))) c176_34 rfl kf0_4 (pA_sv2 hR.2.1 rfl) ?_
    refine p_getR 40 c176_37 rfl (kP_8 (pA_is _)) ?_
    refine p_iload 41 c176_40 rfl rfl ?_
    refine p_iaX 42 (m ((pA (m 0 4)) + 9) x1.toNat) c176_41 rfl (kPa_9 (pA_is _)) gx1 rfl (fun hx6346 => ?_)
    refine p_aaX 43 c176_42 rfl (kPr_7 (pA_is _)) (hR.rg _ _) (fun hx6347 => ?_)
    have hX6348 := hX6345.trans (if_pos hx6347)
    by_cases hs8 : s01 (m 8 4)
    case neg => exact p_call 46 [.ref 8, .ref ((pA (m 0 4)) + 20 + (m ((pA (m 0 4)) + 9) x1.toNat).toNat)] [] c176_43 rfl rfl rfl (fun k' _ d' => d175n hs8) (fun _ _ _ q => q.elim) (fun _ _ _ _ q => q.elim)
    have h8 := h8_of hR rfl hs8
    refine p_cO 46 [.ref 8, .ref ((pA (m 0 4)) + 20 + (m ((pA (m 0 4)) + 9) x1.toNat).toNat)] [] c176_43 rfl rfl rfl (fun k' hk' d' => d175 (f := f) (by omega) h8 (pA_is _) (kSr (pA_is _) hx6347) hR) (fun r6386 hF6384 hg6385 n6350 k6349 hk6349 => ?_)
    have hX6387 := hX6348.trans (bP_s hF6384)
    refine p_if 53 49 c176_46 rfl rfl (yz_eq hg6385) (fun hb6388 k6389 hk6389 => ?_) (fun hb6388 k6390 hk6390 => ?_)
    · have hX6391 := hX6387.trans (if_pos hb6388)
      refine p_iconst 54 c176_53 rfl ?_
      exact p_ireturn c176_54 (Hr _ _ hX6391 (rgD rfl) hR _)
    · have hX6392 := hX6387.trans (if_neg hb6388)
      refine p_iconst 50 c176_49 rfl ?_
      refine p_goto 54 c176_50 rfl ?_
      exact p_ireturn c176_54 (Hr _ _ hX6392 (rgD rfl) hR _)
  · have hX6393 := hX.trans (if_pos (Classical.not_not.mp hb6342))
    exact p_throw c176_14 (fun x n' => Ht _ _ hX6393 rfl hR x n')
def F177 (f : Nat) (x1 : Int) (m : yM) : Option (Int × yM) := (bT (F176 f x1 m) (fun r6396 m6398 => (some (0, yup m6398 413 0 ((i2l r6396).toInt)))) (fun e' m6398 => (if e' = 11 then (some (1, m6398)) else none)))
set_option maxRecDepth 100000 in
theorem d177 {L : Nat} {xs : Nat → Int32} {k d n : Nat} {c : yS3} {f : Nat} {x1 : Int} {m : yM} (hk : k ≤ f) (gx1 : rg x1) (hR : RM c m) : PC (gZ L xs) k d 177 [.ref 0, yI x1, .ref 413] m n (qS c (F177 f x1 m)) := by
  have hX : F177 f x1 m = F177 f x1 m := rfl
  have Hr : ∀ r m', F177 f x1 m = some (r, m') → rg r → RM c m' → ∀ n' : Nat, (qS c (F177 f x1 m)) (.inl (some (yI r))) m' n' := fun r m' e h1 h2 n' => ⟨r, rfl, h1, h2, e⟩
  refine PC.mk [some (.ref 0), some (yI x1), some (.ref 413), none] kn177 rfl ?_
  refine p_aload 1 c177_0 rfl rfl ?_
  refine p_iconst 2 c177_1 rfl ?_
  refine p_aload 3 c177_2 rfl rfl ?_
  refine p_iload 4 c177_3 rfl rfl ?_
  refine p_cTI 7 [.ref 0, yI x1] [yI 0, .ref 413] c177_4 rfl rfl rfl (fun k' hk' d' => d176 (f := f) (by omega) gx1 hR) (fun r6396 m6398 hF6394 hg6395 hR6399 n6338 k6337 hk6337 => ?_) (fun e' q6403 m6398 n' hF6394 hE6401 hR6402 => ?_)
  · have hX6397 := hX.trans (bT_l hF6394)
    refine p_i2l 8 c177_7 rfl ?_
    refine p_laS 9 c177_8 rfl kl413 (rgD rfl) (fun hx6404 => ?_)
    have hR6405 := hR6399.up 413 0 (v := (i2l r6396).toInt) (nselD rfl) (rg_i2l _)
    refine p_goto 15 c177_9 rfl ?_
    refine p_iconst 16 c177_15 rfl ?_
    exact p_ireturn c177_16 (Hr _ _ hX6397 (rgD rfl) hR6405 _)
  · have hXe := hX.trans (bT_r hF6394)
    cases (show e' = 11 from hE6401)
    have hX6406 := hXe.trans (if_pos rfl)
    refine ⟨fun pq hpq k6407 hk6407 => ?_, fun hno => absurd (r_kh177_4_11.symm.trans hno) (by simp)⟩
    have hpp : pq = 12 := by have := r_kh177_4_11.symm.trans hpq; simpa using this.symm
    subst hpp
    refine p_astore 13 c177_12 rfl rfl ?_
    refine p_iconst 14 c177_13 rfl ?_
    exact p_ireturn c177_14 (Hr _ _ hX6406 (rgD rfl) hR6402 _)
def J178_110 (f : Nat) (x1 : Int) (x2 : Int) (x3 : Int) (m : yM) : Option ((Int × yM) ⊕ ((Int × yM) ⊕ (Int × yM))) := (some (.inl ((wr (x3 + 1)), m)))
set_option maxRecDepth 100000 in
theorem tJ178_110 {L : Nat} {xs : Nat → Int32} {Q : xO → yM → Nat → Prop} {k d n : Nat} {c : yS3} {f : Nat} {x1 : Int} {x2 : Int} {x3 : Int} {m : yM} (hk : k ≤ f) (gx1 : rg x1) (gx2 : rg x2) (gx3 : rg x3) (hR : RM c m) (Hn : ∀ (y0 : Int) (m' : yM) (n' : Nat), J178_110 f x1 x2 x3 m = some (.inl (y0, m')) → rg y0 → RM c m' → ∀ k', k' < k → PW (gZ L xs) k' 178 d 42 [some (.ref 376), some (yI x1), some (yI x2), some (yI y0)] [] m' n' Q) (He : ∀ (y0 : Int) (m' : yM) (n' : Nat), J178_110 f x1 x2 x3 m = some (.inr (.inl (y0, m'))) → rg y0 → RM c m' → ∀ k', k' ≤ k → PW (gZ L xs) k' 178 d 116 [some (.ref 376), some (yI x1), some (yI x2), some (yI y0)] [] m' n' Q) (Hr : ∀ r m', J178_110 f x1 x2 x3 m = some (.inr (.inr (r, m'))) → rg r → RM c m' → ∀ n', Q (.inl (some (yI r))) m' n') : PW (gZ L xs) k 178 d 110 [some (.ref 376), some (yI x1), some (yI x2), some (yI x3)] [] m n Q := by
  have hX : J178_110 f x1 x2 x3 m = J178_110 f x1 x2 x3 m := rfl
  refine p_iinc 113 c178_110 rfl rfl rfl ?_
  refine p_gotoD 42 c178_113 rfl (fun k6445 hk6445 => ?_)
  exact Hn _ _ _ hX (rg_wr _) hR _ (by omega)
def B178_42 (f : Nat) (x1 : Int) (x2 : Int) (x3 : Int) (m : yM) : Option ((Int × yM) ⊕ ((Int × yM) ⊕ (Int × yM))) := (if x3 < m 388 (m 376 18).toNat then (if m 404 (wr ((wr (12 * x2)) + x3)).toNat < 0 then (J178_110 f x1 x2 x3 m) else (bP (F149 f (m 376 18) (m 400 (wr ((wr (12 * (m 376 18))) + x3)).toNat) (m 402 (wr ((wr (8 * (m 376 18))) + x1)).toNat) m) (fun r6453 => (if r6453 = 0 then (some (.inr (.inr (0, m)))) else (J178_110 f x1 x2 x3 m))))) else (some (.inr (.inl (x3, m)))))
set_option maxRecDepth 100000 in
theorem tB178_42 {L : Nat} {xs : Nat → Int32} {Q : xO → yM → Nat → Prop} {k d n : Nat} {c : yS3} {f : Nat} {x1 : Int} {x2 : Int} {x3 : Int} {m : yM} (hk : k ≤ f) (gx1 : rg x1) (gx2 : rg x2) (gx3 : rg x3) (hR : RM c m) (Hn : ∀ (y0 : Int) (m' : yM) (n' : Nat), B178_42 f x1 x2 x3 m = some (.inl (y0, m')) → rg y0 → RM c m' → ∀ k', k' < k → PW (gZ L xs) k' 178 d 42 [some (.ref 376), some (yI x1), some (yI x2), some (yI y0)] [] m' n' Q) (He : ∀ (y0 : Int) (m' : yM) (n' : Nat), B178_42 f x1 x2 x3 m = some (.inr (.inl (y0, m'))) → rg y0 → RM c m' → ∀ k', k' ≤ k → PW (gZ L xs) k' 178 d 116 [some (.ref 376), some (yI x1), some (yI x2), some (yI y0)] [] m' n' Q) (Hr : ∀ r m', B178_42 f x1 x2 x3 m = some (.inr (.inr (r, m'))) → rg r → RM c m' → ∀ n', Q (.inl (some (yI r))) m' n') : PW (gZ L xs) k 178 d 42 [some (.ref 376), some (yI x1), some (yI x2), some (yI x3)] [] m n Q := by
  have hX : B178_42 f x1 x2 x3 m = B178_42 f x1 x2 x3 m := rfl
  refine p_iload 43 c178_42 rfl rfl ?_
  refine p_aload 44 c178_43 rfl rfl ?_
  refine p_getR 47 c178_44 rfl kf376_25 ?_
  refine p_aload 48 c178_47 rfl rfl ?_
  refine p_getX 51 (m 376 18) c178_48 rfl kf376_18 rfl ?_
  refine p_iaX 52 (m 388 (m 376 18).toNat) c178_51 rfl ka388 (hR.rg _ _) rfl (fun hx6434 => ?_)
  refine p_icmp 116 55 c178_52 rfl rfl ((yc_ge gx3 (hR.rg _ _)).trans Int.not_lt.symm) (fun hb6435 k6436 hk6436 => ?_) (fun hb6435 k6437 hk6437 => ?_)
  · have hX6438 := hX.trans (if_neg hb6435)
    exact He _ _ _ hX6438 gx3 hR _ (by omega)
  · have hX6439 := hX.trans (if_pos (Classical.not_not.mp hb6435))
    refine p_aload 56 c178_55 rfl rfl ?_
    refine p_getR 59 c178_56 rfl kf376_41 ?_
    refine p_iconst 61 c178_59 rfl ?_
    refine p_iload 62 c178_61 rfl rfl ?_
    refine p_imul 63 c178_62 rfl ?_
    refine p_iload 64 c178_63 rfl rfl ?_
    refine p_iadd 65 c178_64 rfl ?_
    refine p_iaX 66 (m 404 (wr ((wr (12 * x2)) + x3)).toNat) c178_65 rfl ka404 (rg_wr _) rfl (fun hx6440 => ?_)
    refine p_if 110 69 c178_66 rfl rfl (yz_lt (hR.rg _ _)) (fun hb6441 k6442 hk6442 => ?_) (fun hb6441 k6443 hk6443 => ?_)
    · have hX6444 := hX6439.trans (if_pos hb6441)
      exact tJ178_110 (f := f) (by omega) gx1 gx2 gx3 hR (fun y0 m' n' e' h0 hR' k' hk' => Hn y0 m' n' (hX6444.trans e') h0 hR' k' (by omega)) (fun y0 m' n' e' h0 hR' k' hk' => He y0 m' n' (hX6444.trans e') h0 hR' k' (by omega)) (fun r' m' e' => Hr r' m' (hX6444.trans e'))
    · have hX6446 := hX6439.trans (if_neg hb6441)
      refine p_aload 70 c178_69 rfl rfl ?_
      refine p_aload 71 c178_70 rfl rfl ?_
      refine p_getX 74 (m 376 18) c178_71 rfl kf376_18 rfl ?_
      refine p_aload 75 c178_74 rfl rfl ?_
      refine p_getR 78 c178_75 rfl kf376_37 ?_
      refine p_iconst 80 c178_78 rfl ?_
      refine p_aload 81 c178_80 rfl rfl ?_
      refine p_getX 84 (m 376 18) c178_81 rfl kf376_18 rfl ?_
      refine p_imul 85 c178_84 rfl ?_
      refine p_iload 86 c178_85 rfl rfl ?_
      refine p_iadd 87 c178_86 rfl ?_
      refine p_iaX 88 (m 400 (wr ((wr (12 * (m 376 18))) + x3)).toNat) c178_87 rfl ka400 (rg_wr _) rfl (fun hx6447 => ?_)
      refine p_aload 89 c178_88 rfl rfl ?_
      refine p_getR 92 c178_89 rfl kf376_39 ?_
      refine p_iconst 94 c178_92 rfl ?_
      refine p_aload 95 c178_94 rfl rfl ?_
      refine p_getX 98 (m 376 18) c178_95 rfl kf376_18 rfl ?_
      refine p_imul 99 c178_98 rfl ?_
      refine p_iload 100 c178_99 rfl rfl ?_
      refine p_iadd 101 c178_100 rfl ?_
      refine p_iaX 102 (m 402 (wr ((wr (8 * (m 376 18))) + x1)).toNat) c178_101 rfl ka402 (rg_wr _) rfl (fun hx6448 => ?_)
      refine p_cO 105 [.ref 376, yI (m 376 18), yI (m 400 (wr ((wr (12 * (m 376 18))) + x3)).toNat), yI (m 402 (wr ((wr (8 * (m 376 18))) + x1)).toNat)] [] c178_102 rfl rfl rfl (fun k' hk' d' => d149 (f := f) (by omega) (hR.rg _ _) (hR.rg _ _) (hR.rg _ _) hR) (fun r6453 hF6451 hg6452 n6450 k6449 hk6449 => ?_)
      have hX6454 := hX6446.trans (bP_s hF6451)
      refine p_if 110 108 c178_105 rfl rfl (yz_ne hg6452) (fun hb6455 k6456 hk6456 => ?_) (fun hb6455 k6457 hk6457 => ?_)
      · have hX6458 := hX6454.trans (if_neg hb6455)
        exact tJ178_110 (f := f) (by omega) gx1 gx2 gx3 hR (fun y0 m' n' e' h0 hR' k' hk' => Hn y0 m' n' (hX6458.trans e') h0 hR' k' (by omega)) (fun y0 m' n' e' h0 hR' k' hk' => He y0 m' n' (hX6458.trans e') h0 hR' k' (by omega)) (fun r' m' e' => Hr r' m' (hX6458.trans e'))
      · have hX6459 := hX6454.trans (if_pos (Classical.not_not.mp hb6455))
        refine p_iconst 109 c178_108 rfl ?_
        exact p_ireturn c178_109 (Hr _ _ hX6459 (rgD rfl) hR _)
def F178 (f : Nat) (x1 : Int) (m : yM) : Option (Int × yM) := (bI (F162 f (F22 x1 0 (wr ((m 387 (m 376 18).toNat) - 1))) m) (fun r6425 m6427 => (if r6425 = 0 then (some (0, m6427)) else (bL (yloop (fun (l : Int) ml => B178_42 f x1 (m6427 401 (wr ((wr (8 * (m6427 376 18))) + x1)).toNat) l ml) f 0 m6427) (fun l6460 m6466 => (some (1, m6466))) (fun r mr => some (r, mr))))))
set_option maxRecDepth 100000 in
theorem d178 {L : Nat} {xs : Nat → Int32} {k d n : Nat} {c : yS3} {f : Nat} {x1 : Int} {m : yM} (hk : k ≤ f) (gx1 : rg x1) (hR : RM c m) : PC (gZ L xs) k d 178 [.ref 376, yI x1] m n (qS c (F178 f x1 m)) := by
  have hX : F178 f x1 m = F178 f x1 m := rfl
  have Hr : ∀ r m', F178 f x1 m = some (r, m') → rg r → RM c m' → ∀ n' : Nat, (qS c (F178 f x1 m)) (.inl (some (yI r))) m' n' := fun r m' e h1 h2 n' => ⟨r, rfl, h1, h2, e⟩
  refine PC.mk [some (.ref 376), some (yI x1), none, none] kn178 rfl ?_
  refine p_aload 1 c178_0 rfl rfl ?_
  refine p_iload 2 c178_1 rfl rfl ?_
  refine p_iconst 3 c178_2 rfl ?_
  refine p_aload 4 c178_3 rfl rfl ?_
  refine p_getR 7 c178_4 rfl kf376_24 ?_
  refine p_aload 8 c178_7 rfl rfl ?_
  refine p_getX 11 (m 376 18) c178_8 rfl kf376_18 rfl ?_
  refine p_iaX 12 (m 387 (m 376 18).toNat) c178_11 rfl ka387 (hR.rg _ _) rfl (fun hx6417 => ?_)
  refine p_iconst 13 c178_12 rfl ?_
  refine p_isub 14 c178_13 rfl ?_
  refine p_cX 17 [yI x1, yI 0, yI (wr ((m 387 (m 376 18).toNat) - 1))] [.ref 376] c178_14 rfl rfl rfl (fun k' hk' d' => d22 gx1 (rgD rfl) (rg_wr _) hR) (fun hg6420 n6419 k6418 hk6418 => ?_)
  refine p_cS 20 [.ref 376, yI (F22 x1 0 (wr ((m 387 (m 376 18).toNat) - 1)))] [] c178_17 rfl rfl rfl (fun k' hk' d' => d162 (f := f) (by omega) hg6420 hR) (fun r6425 m6427 hF6423 hg6424 hR6428 n6422 k6421 hk6421 => ?_)
  have hX6426 := hX.trans (bI_s hF6423)
  refine p_if 25 23 c178_20 rfl rfl (yz_ne hg6424) (fun hb6429 k6430 hk6430 => ?_) (fun hb6429 k6431 hk6431 => ?_)
  · have hX6432 := hX6426.trans (if_neg hb6429)
    refine p_aload 26 c178_25 rfl rfl ?_
    refine p_getR 29 c178_26 rfl kf376_38 ?_
    refine p_iconst 31 c178_29 rfl ?_
    refine p_aload 32 c178_31 rfl rfl ?_
    refine p_getX 35 (m6427 376 18) c178_32 rfl kf376_18 rfl ?_
    refine p_imul 36 c178_35 rfl ?_
    refine p_iload 37 c178_36 rfl rfl ?_
    refine p_iadd 38 c178_37 rfl ?_
    refine p_iaX 39 (m6427 401 (wr ((wr (8 * (m6427 376 18))) + x1)).toNat) c178_38 rfl ka401 (rg_wr _) rfl (fun hx6433 => ?_)
    refine p_istore 40 c178_39 rfl rfl ?_
    refine p_iconst 41 c178_40 rfl ?_
    refine p_istore 42 c178_41 rfl rfl ?_
    refine PW.loop (K := k6430) (pce := 116) (fun (l : Int) ml => B178_42 f x1 (m6427 401 (wr ((wr (8 * (m6427 376 18))) + x1)).toNat) l ml) (fun (l : Int) j => [some (.ref 376), some (yI x1), some (yI (m6427 401 (wr ((wr (8 * (m6427 376 18))) + x1)).toNat)), some (yI l)]) (fun (l : Int) => rg l) (RM c) (fun r' m' => rg r' → RM c m' → ∀ n' : Nat, (qS c (F178 f x1 m)) (.inl (some (yI r'))) m' n') (fun k' hk' l j m' n' hl hI Hn' He' Hr' => tB178_42 (f := f) (by omega) gx1 (hR6428.rg _ _) hl hI (fun y0 m2 n2 e h0 hR2 => Hn' y0 (fun q => ([none, none, none, none] : List (Option Value)).getD q none) m2 n2 e h0 hR2) (fun y0 m2 n2 e h0 hR2 => He' y0 (fun q => ([none, none, none, none] : List (Option Value)).getD q none) m2 n2 e h0 hR2) Hr') f k6430 (by omega) (Nat.le_refl _) 0 (fun q => ([some (.ref 376), some (yI x1), some (yI (m6427 401 (wr ((wr (8 * (m6427 376 18))) + x1)).toNat)), some (yI 0)] : xL).getD q none) _ _ (rgD rfl) hR6428 (fun l6460 j6463 m6466 n6465 e6462 hl6461 hR6467 k6464 hk6464 => ?_) (fun r' m' e' => ?_)
    · have hX6468 := hX6432.trans (bL_l e6462)
      refine p_iconst 117 c178_116 rfl ?_
      exact p_ireturn c178_117 (Hr _ _ hX6468 (rgD rfl) hR6467 _)
    · exact Hr r' m' (hX6432.trans (bL_r e'))
  · have hX6469 := hX6426.trans (if_pos (Classical.not_not.mp hb6429))
    refine p_iconst 24 c178_23 rfl ?_
    exact p_ireturn c178_24 (Hr _ _ hX6469 (rgD rfl) hR6428 _)
def F26 (m : yM) : Int := (m 376 57)
set_option maxRecDepth 100000 in
theorem d26 {L : Nat} {xs : Nat → Int32} {k d n : Nat} {c : yS3} {m : yM} (hR : RM c m) : PC (gZ L xs) k d 26 [.ref 376] m n (qX m (F26 m)) := by
  have hX : F26 m = F26 m := rfl
  have Hr : ∀ r, F26 m = r → rg r → ∀ n' : Nat, (qX m (F26 m)) (.inl (some (yI r))) m n' := fun r e h n' => by subst e; exact ⟨rfl, h, rfl⟩
  refine PC.mk [some (.ref 376)] kn26 rfl ?_
  refine p_aload 1 c26_0 rfl rfl ?_
  refine p_getX 4 (m 376 57) c26_1 rfl kf376_57 rfl ?_
  exact p_ireturn c26_4 (Hr _ hX (hR.rg _ _) _)
def J179_39 (f : Nat) (A : Nat) (x1 : Int) (x2 : Int) (x3 : Int) : Option (Int ⊕ (Int ⊕ Int)) := (some (.inl (wr (x3 + 1))))
set_option maxRecDepth 100000 in
theorem tJ179_39 {L : Nat} {xs : Nat → Int32} {Q : xO → yM → Nat → Prop} {k d n : Nat} {c : yS3} {f : Nat} {A : Nat} {x1 : Int} {x2 : Int} {x3 : Int} {m : yM} (hk : k ≤ f) (hc : c.2.1 = pX A) (hA : (A = 256 ∨ A = 316)) (gx1 : rg x1) (gx2 : rg x2) (gx3 : rg x3) (hR : RM c m) (Hn : ∀ (y0 : Int) (n' : Nat), J179_39 f A x1 x2 x3 = some (.inl y0) → rg y0 → ∀ k', k' < k → PW (gZ L xs) k' 179 d 2 [some (.ref 8), some (yI x1), some (yI x2), some (yI y0)] [] m n' Q) (He : ∀ (y0 : Int) (n' : Nat), J179_39 f A x1 x2 x3 = some (.inr (.inl y0)) → rg y0 → ∀ k', k' ≤ k → PW (gZ L xs) k' 179 d 45 [some (.ref 8), some (yI x1), some (yI x2), some (yI y0)] [] m n' Q) (Hr : ∀ r, J179_39 f A x1 x2 x3 = some (.inr (.inr r)) → rg r → ∀ n', Q (.inl (some (yI r))) m n') : PW (gZ L xs) k 179 d 39 [some (.ref 8), some (yI x1), some (yI x2), some (yI x3)] [] m n Q := by
  have hX : J179_39 f A x1 x2 x3 = J179_39 f A x1 x2 x3 := rfl
  refine p_iinc 42 c179_39 rfl rfl rfl ?_
  refine p_gotoD 2 c179_42 rfl (fun k6533 hk6533 => ?_)
  exact Hn _ _ hX (rg_wr _) _ (by omega)
def B179_2 (f : Nat) (A : Nat) (x1 : Int) (x2 : Int) (x3 : Int) (m : yM) : Option (Int ⊕ (Int ⊕ Int)) := (if x3 < m A 14 then (if 0 ≤ x1 ∧ x1 < ((48 : Nat) : Int) then (if m (10 + (x1).toNat) x3.toNat = (-1) then (J179_39 f A x1 x2 x3) else (if 0 ≤ x2 ∧ x2 < ((48 : Nat) : Int) then (if m (10 + (x2).toNat) x3.toNat = (-1) then (J179_39 f A x1 x2 x3) else (some (.inr (.inr 1)))) else none)) else none) else (some (.inr (.inl x3))))
set_option maxRecDepth 100000 in
theorem tB179_2 {L : Nat} {xs : Nat → Int32} {Q : xO → yM → Nat → Prop} {k d n : Nat} {c : yS3} {f : Nat} {A : Nat} {x1 : Int} {x2 : Int} {x3 : Int} {m : yM} (hk : k ≤ f) (hc : c.2.1 = pX A) (hA : (A = 256 ∨ A = 316)) (gx1 : rg x1) (gx2 : rg x2) (gx3 : rg x3) (hR : RM c m) (Hn : ∀ (y0 : Int) (n' : Nat), B179_2 f A x1 x2 x3 m = some (.inl y0) → rg y0 → ∀ k', k' < k → PW (gZ L xs) k' 179 d 2 [some (.ref 8), some (yI x1), some (yI x2), some (yI y0)] [] m n' Q) (He : ∀ (y0 : Int) (n' : Nat), B179_2 f A x1 x2 x3 m = some (.inr (.inl y0)) → rg y0 → ∀ k', k' ≤ k → PW (gZ L xs) k' 179 d 45 [some (.ref 8), some (yI x1), some (yI x2), some (yI y0)] [] m n' Q) (Hr : ∀ r, B179_2 f A x1 x2 x3 m = some (.inr (.inr r)) → rg r → ∀ n', Q (.inl (some (yI r))) m n') : PW (gZ L xs) k 179 d 2 [some (.ref 8), some (yI x1), some (yI x2), some (yI x3)] [] m n Q := by
  have hX : B179_2 f A x1 x2 x3 m = B179_2 f A x1 x2 x3 m := rfl
  refine p_iload 3 c179_2 rfl rfl ?_
  refine p_aload 4 c179_3 rfl rfl ?_
  refine p_getV 7 (.ref A) c179_4 rfl kf8_4 (pX_of hA hR.2.2.2.2.1 hc) ?_
  refine p_getX 10 (m A 14) c179_7 rfl (kP_14 hA) rfl ?_
  refine p_icmp 45 13 c179_10 rfl rfl ((yc_ge gx3 (hR.rg _ _)).trans Int.not_lt.symm) (fun hb6521 k6522 hk6522 => ?_) (fun hb6521 k6523 hk6523 => ?_)
  · have hX6524 := hX.trans (if_neg hb6521)
    exact He _ _ hX6524 gx3 _ (by omega)
  · have hX6525 := hX.trans (if_pos (Classical.not_not.mp hb6521))
    refine p_aload 14 c179_13 rfl rfl ?_
    refine p_getR 17 c179_14 rfl kf8_0 ?_
    refine p_iload 18 c179_17 rfl rfl ?_
    refine p_aaX 19 c179_18 rfl kr9 gx1 (fun hx6526 => ?_)
    have hX6527 := hX6525.trans (if_pos hx6526)
    refine p_iload 20 c179_19 rfl rfl ?_
    refine p_iaX 21 (m (10 + (x1).toNat) x3.toNat) c179_20 rfl (kR9 hx6526) gx3 rfl (fun hx6528 => ?_)
    refine p_iconst 22 c179_21 rfl ?_
    refine p_icmp 39 25 c179_22 rfl rfl (yc_eq (hR.rg _ _) (rgD rfl)) (fun hb6529 k6530 hk6530 => ?_) (fun hb6529 k6531 hk6531 => ?_)
    · have hX6532 := hX6527.trans (if_pos hb6529)
      exact tJ179_39 (f := f) (by omega) hc hA gx1 gx2 gx3 hR (fun y0 n' e' h0 k' hk' => Hn y0 n' (hX6532.trans e') h0 k' (by omega)) (fun y0 n' e' h0 k' hk' => He y0 n' (hX6532.trans e') h0 k' (by omega)) (fun r' e' => Hr r' (hX6532.trans e'))
    · have hX6534 := hX6527.trans (if_neg hb6529)
      refine p_aload 26 c179_25 rfl rfl ?_
      refine p_getR 29 c179_26 rfl kf8_0 ?_
      refine p_iload 30 c179_29 rfl rfl ?_
      refine p_aaX 31 c179_30 rfl kr9 gx2 (fun hx6535 => ?_)
      have hX6536 := hX6534.trans (if_pos hx6535)
      refine p_iload 32 c179_31 rfl rfl ?_
      refine p_iaX 33 (m (10 + (x2).toNat) x3.toNat) c179_32 rfl (kR9 hx6535) gx3 rfl (fun hx6537 => ?_)
      refine p_iconst 34 c179_33 rfl ?_
      refine p_icmp 39 37 c179_34 rfl rfl (yc_eq (hR.rg _ _) (rgD rfl)) (fun hb6538 k6539 hk6539 => ?_) (fun hb6538 k6540 hk6540 => ?_)
      · have hX6541 := hX6536.trans (if_pos hb6538)
        exact tJ179_39 (f := f) (by omega) hc hA gx1 gx2 gx3 hR (fun y0 n' e' h0 k' hk' => Hn y0 n' (hX6541.trans e') h0 k' (by omega)) (fun y0 n' e' h0 k' hk' => He y0 n' (hX6541.trans e') h0 k' (by omega)) (fun r' e' => Hr r' (hX6541.trans e'))
      · have hX6542 := hX6536.trans (if_neg hb6538)
        refine p_iconst 38 c179_37 rfl ?_
        exact p_ireturn c179_38 (Hr _ hX6542 (rgD rfl) _)
def F179 (f : Nat) (A : Nat) (x1 : Int) (x2 : Int) (m : yM) : Option Int := (bQ (ploop (fun (l : Int) => B179_2 f A x1 x2 l m) f 0) (fun l6543 => (some 0)) (fun r => some r))
set_option maxRecDepth 100000 in
theorem d179 {L : Nat} {xs : Nat → Int32} {k d n : Nat} {c : yS3} {f : Nat} {A : Nat} {x1 : Int} {x2 : Int} {m : yM} (hk : k ≤ f) (hc : c.2.1 = pX A) (hA : (A = 256 ∨ A = 316)) (gx1 : rg x1) (gx2 : rg x2) (hR : RM c m) : PC (gZ L xs) k d 179 [.ref 8, yI x1, yI x2] m n (qO m (F179 f A x1 x2 m)) := by
  have hX : F179 f A x1 x2 m = F179 f A x1 x2 m := rfl
  have Hr : ∀ r, F179 f A x1 x2 m = some r → rg r → ∀ n' : Nat, (qO m (F179 f A x1 x2 m)) (.inl (some (yI r))) m n' := fun r e h n' => ⟨r, rfl, h, rfl, e⟩
  refine PC.mk [some (.ref 8), some (yI x1), some (yI x2), none] kn179 rfl ?_
  refine p_iconst 1 c179_0 rfl ?_
  refine p_istore 2 c179_1 rfl rfl ?_
  refine PW.ploop (K := k) (pce := 45) (fun (l : Int) => B179_2 f A x1 x2 l m) (fun (l : Int) j => [some (.ref 8), some (yI x1), some (yI x2), some (yI l)]) (fun (l : Int) => rg l) (fun r' => rg r' → ∀ n' : Nat, (qO m (F179 f A x1 x2 m)) (.inl (some (yI r'))) m n') (fun k' hk' l j n' hl Hn' He' Hr' => tB179_2 (f := f) (by omega) hc hA gx1 gx2 hl hR (fun y0 n2 e h0 => Hn' y0 (fun q => ([none, none, none, none] : List (Option Value)).getD q none) n2 e h0) (fun y0 n2 e h0 => He' y0 (fun q => ([none, none, none, none] : List (Option Value)).getD q none) n2 e h0) Hr') f k (by omega) (Nat.le_refl _) 0 (fun q => ([some (.ref 8), some (yI x1), some (yI x2), some (yI 0)] : xL).getD q none) _ (rgD rfl) (fun l6543 j6546 n6548 e6545 hl6544 k6547 hk6547 => ?_) (fun r' e' => ?_)
  · have hX6549 := hX.trans (bQ_l e6545)
    refine p_iconst 46 c179_45 rfl ?_
    exact p_ireturn c179_46 (Hr _ hX6549 (rgD rfl) _)
  · exact Hr r' (hX.trans (bQ_r e'))
def J180_16 (f : Nat) (m : yM) : Option ((Int ⊕ Nat) × yM) := (some (.inr 11, m))
set_option maxRecDepth 100000 in
theorem tJ180_16 {L : Nat} {xs : Nat → Int32} {Q : xO → yM → Nat → Prop} {k d n : Nat} {c : yS3} {f : Nat} {m : yM} {j0 j1 j2 : Option Value} (hk : k ≤ f) (hR : RM c m) (Hr : ∀ r m', J180_16 f m = some (.inl r, m') → rg r → RM c m' → ∀ n', Q (.inl (some (yI r))) m' n') (Ht : ∀ e m', J180_16 f m = some (.inr e, m') → (fun e => e = 11) e → RM c m' → ∀ x n', Q (.inr (e, x)) m' n') : PW (gZ L xs) k 180 d 16 [j0, j1, j2] [] m n Q := by
  have hX : J180_16 f m = J180_16 f m := rfl
  exact p_throw c180_16 (fun x n' => Ht _ _ hX rfl hR x n')
def F180 (f : Nat) (x1 : Int) (x2 : Int) (m : yM) : Option ((Int ⊕ Nat) × yM) := (if F156 x1 m = 0 then (J180_16 f m) else (if F156 x2 m = 0 then (J180_16 f m) else (bP (F179 f (pA (m 8 4)) x1 x2 m) (fun r6552 => (if r6552 = 0 then (some (.inl 0, m)) else (some (.inl 1, m)))))))
set_option maxRecDepth 100000 in
theorem d180 {L : Nat} {xs : Nat → Int32} {k d n : Nat} {c : yS3} {f : Nat} {x1 : Int} {x2 : Int} {m : yM} (hk : k ≤ f) (gx1 : rg x1) (gx2 : rg x2) (hR : RM c m) : PC (gZ L xs) k d 180 [.ref 0, yI x1, yI x2] m n (qEI (fun e => e = 11) c (F180 f x1 x2 m)) := by
  have hX : F180 f x1 x2 m = F180 f x1 x2 m := rfl
  have Hr : ∀ r m', F180 f x1 x2 m = some (.inl r, m') → rg r → RM c m' → ∀ n' : Nat, (qEI (fun e => e = 11) c (F180 f x1 x2 m)) (.inl (some (yI r))) m' n' := fun r m' e h1 h2 n' => Or.inl ⟨r, rfl, h1, h2, e⟩
  have Ht : ∀ e m', F180 f x1 x2 m = some (.inr e, m') → (fun e => e = 11) e → RM c m' → ∀ x n' : Nat, (qEI (fun e => e = 11) c (F180 f x1 x2 m)) (.inr (e, x)) m' n' := fun e m' e1 h1 h2 x n' => Or.inr ⟨e, x, rfl, h1, h2, e1⟩
  refine PC.mk [some (.ref 0), some (yI x1), some (yI x2)] kn180 rfl ?_
  refine p_aload 1 c180_0 rfl rfl ?_
  refine p_iload 2 c180_1 rfl rfl ?_
  refine p_cX 5 [.ref 0, yI x1] [] c180_2 rfl rfl rfl (fun k' hk' d' => d156 gx1 hR) (fun hg6506 n6505 k6504 hk6504 => ?_)
  refine p_if 16 8 c180_5 rfl rfl (yz_eq hg6506) (fun hb6507 k6508 hk6508 => ?_) (fun hb6507 k6509 hk6509 => ?_)
  · have hX6510 := hX.trans (if_pos hb6507)
    exact tJ180_16 (f := f) (by omega) hR (fun r' m' e' => Hr r' m' (hX6510.trans e')) (fun r' m' e' => Ht r' m' (hX6510.trans e'))
  · have hX6511 := hX.trans (if_neg hb6507)
    refine p_aload 9 c180_8 rfl rfl ?_
    refine p_iload 10 c180_9 rfl rfl ?_
    refine p_cX 13 [.ref 0, yI x2] [] c180_10 rfl rfl rfl (fun k' hk' d' => d156 gx2 hR) (fun hg6514 n6513 k6512 hk6512 => ?_)
    refine p_if 24 16 c180_13 rfl rfl (yz_ne hg6514) (fun hb6515 k6516 hk6516 => ?_) (fun hb6515 k6517 hk6517 => ?_)
    · have hX6518 := hX6511.trans (if_neg hb6515)
      refine p_aload 25 c180_24 rfl rfl ?_
      refine p_getR 28 c180_25 rfl kf0_2 ?_
      refine p_iload 29 c180_28 rfl rfl ?_
      refine p_iload 30 c180_29 rfl rfl ?_
      by_cases hs8 : s01 (m 8 4)
      case neg => exact p_call 33 [.ref 8, yI x1, yI x2] [] c180_30 rfl rfl rfl (fun k' _ d' => d179n hs8) (fun _ _ _ q => q.elim) (fun _ _ _ _ q => q.elim)
      have h8 := h8_of hR rfl hs8
      refine p_cO 33 [.ref 8, yI x1, yI x2] [] c180_30 rfl rfl rfl (fun k' hk' d' => d179 (f := f) (by omega) h8 (pA_is _) gx1 gx2 hR) (fun r6552 hF6550 hg6551 n6520 k6519 hk6519 => ?_)
      have hX6553 := hX6518.trans (bP_s hF6550)
      refine p_if 40 36 c180_33 rfl rfl (yz_eq hg6551) (fun hb6554 k6555 hk6555 => ?_) (fun hb6554 k6556 hk6556 => ?_)
      · have hX6557 := hX6553.trans (if_pos hb6554)
        refine p_iconst 41 c180_40 rfl ?_
        exact p_ireturn c180_41 (Hr _ _ hX6557 (rgD rfl) hR _)
      · have hX6558 := hX6553.trans (if_neg hb6554)
        refine p_iconst 37 c180_36 rfl ?_
        refine p_goto 41 c180_37 rfl ?_
        exact p_ireturn c180_41 (Hr _ _ hX6558 (rgD rfl) hR _)
    · have hX6559 := hX6511.trans (if_pos (Classical.not_not.mp hb6515))
      exact tJ180_16 (f := f) (by omega) hR (fun r' m' e' => Hr r' m' (hX6559.trans e')) (fun r' m' e' => Ht r' m' (hX6559.trans e'))
def F181 (f : Nat) (x1 : Int) (x2 : Int) (m : yM) : Option (Int × yM) := (bT (F180 f x1 x2 m) (fun r6562 m6564 => (some (0, yup m6564 413 0 ((i2l r6562).toInt)))) (fun e' m6564 => (if e' = 11 then (some (1, m6564)) else none)))
set_option maxRecDepth 100000 in
theorem d181 {L : Nat} {xs : Nat → Int32} {k d n : Nat} {c : yS3} {f : Nat} {x1 : Int} {x2 : Int} {m : yM} (hk : k ≤ f) (gx1 : rg x1) (gx2 : rg x2) (hR : RM c m) : PC (gZ L xs) k d 181 [.ref 0, yI x1, yI x2, .ref 413] m n (qS c (F181 f x1 x2 m)) := by
  have hX : F181 f x1 x2 m = F181 f x1 x2 m := rfl
  have Hr : ∀ r m', F181 f x1 x2 m = some (r, m') → rg r → RM c m' → ∀ n' : Nat, (qS c (F181 f x1 x2 m)) (.inl (some (yI r))) m' n' := fun r m' e h1 h2 n' => ⟨r, rfl, h1, h2, e⟩
  refine PC.mk [some (.ref 0), some (yI x1), some (yI x2), some (.ref 413), none] kn181 rfl ?_
  refine p_aload 1 c181_0 rfl rfl ?_
  refine p_iconst 2 c181_1 rfl ?_
  refine p_aload 3 c181_2 rfl rfl ?_
  refine p_iload 4 c181_3 rfl rfl ?_
  refine p_iload 5 c181_4 rfl rfl ?_
  refine p_cTI 8 [.ref 0, yI x1, yI x2] [yI 0, .ref 413] c181_5 rfl rfl rfl (fun k' hk' d' => d180 (f := f) (by omega) gx1 gx2 hR) (fun r6562 m6564 hF6560 hg6561 hR6565 n6503 k6502 hk6502 => ?_) (fun e' q6569 m6564 n' hF6560 hE6567 hR6568 => ?_)
  · have hX6563 := hX.trans (bT_l hF6560)
    refine p_i2l 9 c181_8 rfl ?_
    refine p_laS 10 c181_9 rfl kl413 (rgD rfl) (fun hx6570 => ?_)
    have hR6571 := hR6565.up 413 0 (v := (i2l r6562).toInt) (nselD rfl) (rg_i2l _)
    refine p_goto 17 c181_10 rfl ?_
    refine p_iconst 18 c181_17 rfl ?_
    exact p_ireturn c181_18 (Hr _ _ hX6563 (rgD rfl) hR6571 _)
  · have hXe := hX.trans (bT_r hF6560)
    cases (show e' = 11 from hE6567)
    have hX6572 := hXe.trans (if_pos rfl)
    refine ⟨fun pq hpq k6573 hk6573 => ?_, fun hno => absurd (r_kh181_5_11.symm.trans hno) (by simp)⟩
    have hpp : pq = 13 := by have := r_kh181_5_11.symm.trans hpq; simpa using this.symm
    subst hpp
    refine p_astore 15 c181_13 rfl rfl ?_
    refine p_iconst 16 c181_15 rfl ?_
    exact p_ireturn c181_16 (Hr _ _ hX6572 (rgD rfl) hR6568 _)
