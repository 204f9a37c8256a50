/-! FUNCTIONS OF THE METHODS: printed by wip/fn/dc.py -/
def F153 (m : yM) : Int := (m 0 7)
set_option maxRecDepth 100000 in
theorem d153 {L : Nat} {xs : Nat → Int32} {k d n : Nat} {c : yS3} {m : yM} (hR : RM c m) : PC (gZ L xs) k d 153 [.ref 0] m n (qX m (F153 m)) := by
  have hX : F153 m = F153 m := rfl
  have Hr : ∀ r, F153 m = r → rg r → ∀ n' : Nat, (qX m (F153 m)) (.inl (some (yI r))) m n' := fun r e h n' => by subst e; exact ⟨rfl, h, rfl⟩
  refine PC.mk [some (.ref 0)] kn153 rfl ?_
  refine p_aload 1 c153_0 rfl rfl ?_
  refine p_getX 4 (m 0 7) c153_1 rfl kf0_7 rfl ?_
  exact p_ireturn c153_4 (Hr _ hX (hR.rg _ _) _)
def F154 (f : Nat) (m : yM) : Option (Int × yM) := (some (m 376 2, yup m 376 57 0))
set_option maxRecDepth 100000 in
theorem d154 {L : Nat} {xs : Nat → Int32} {k d n : Nat} {c : yS3} {f : Nat} {m : yM} (hk : k ≤ f) (hR : RM c m) : PC (gZ L xs) k d 154 [.ref 376] m n (qS c (F154 f m)) := by
  have hX : F154 f m = F154 f m := rfl
  have Hr : ∀ r m', F154 f m = some (r, m') → rg r → RM c m' → ∀ n' : Nat, (qS c (F154 f m)) (.inl (some (yI r))) m' n' := fun r m' e h1 h2 n' => ⟨r, rfl, h1, h2, e⟩
  refine PC.mk [some (.ref 376)] kn154 rfl ?_
  refine p_aload 1 c154_0 rfl rfl ?_
  refine p_iconst 2 c154_1 rfl ?_
  refine p_putI 5 c154_2 rfl kf376_57 ?_
  have hR5896 := hR.up 376 57 (v := 0) (nselD rfl) (rgD rfl)
  refine p_aload 6 c154_5 rfl rfl ?_
  refine p_getX 9 (m 376 2) c154_6 rfl kf376_2 (yup_nk (by decide)) ?_
  exact p_ireturn c154_9 (Hr _ _ hX (hR.rg _ _) hR5896 _)
def F155 (x0 : Int) (x1 : Int) : Int := (if x0 < 0 then 0 else (if x0 < x1 then 1 else 0))
set_option maxRecDepth 100000 in
theorem d155 {L : Nat} {xs : Nat → Int32} {k d n : Nat} {c : yS3} {x0 : Int} {x1 : Int} {m : yM} (gx0 : rg x0) (gx1 : rg x1) (hR : RM c m) : PC (gZ L xs) k d 155 [yI x0, yI x1] m n (qX m (F155 x0 x1)) := by
  have hX : F155 x0 x1 = F155 x0 x1 := rfl
  have Hr : ∀ r, F155 x0 x1 = r → rg r → ∀ n' : Nat, (qX m (F155 x0 x1)) (.inl (some (yI r))) m n' := fun r e h n' => by subst e; exact ⟨rfl, h, rfl⟩
  refine PC.mk [some (yI x0), some (yI x1)] kn155 rfl ?_
  refine p_iload 1 c155_0 rfl rfl ?_
  refine p_if 13 4 c155_1 rfl rfl (yz_lt gx0) (fun hb5921 k5922 hk5922 => ?_) (fun hb5921 k5923 hk5923 => ?_)
  · have hX5924 := hX.trans (if_pos hb5921)
    refine p_iconst 14 c155_13 rfl ?_
    exact p_ireturn c155_14 (Hr _ hX5924 (rgD rfl) _)
  · have hX5925 := hX.trans (if_neg hb5921)
    refine p_iload 5 c155_4 rfl rfl ?_
    refine p_iload 6 c155_5 rfl rfl ?_
    refine p_icmp 13 9 c155_6 rfl rfl ((yc_ge gx0 gx1).trans Int.not_lt.symm) (fun hb5926 k5927 hk5927 => ?_) (fun hb5926 k5928 hk5928 => ?_)
    · have hX5929 := hX5925.trans (if_neg hb5926)
      refine p_iconst 14 c155_13 rfl ?_
      exact p_ireturn c155_14 (Hr _ hX5929 (rgD rfl) _)
    · have hX5930 := hX5925.trans (if_pos (Classical.not_not.mp hb5926))
      refine p_iconst 10 c155_9 rfl ?_
      refine p_goto 14 c155_10 rfl ?_
      exact p_ireturn c155_14 (Hr _ hX5930 (rgD rfl) _)
def F156 (x1 : Int) (m : yM) : Int := (F155 x1 (m (pA (m 0 4)) 15))
set_option maxRecDepth 100000 in
theorem d156 {L : Nat} {xs : Nat → Int32} {k d n : Nat} {c : yS3} {x1 : Int} {m : yM} (gx1 : rg x1) (hR : RM c m) : PC (gZ L xs) k d 156 [.ref 0, yI x1] m n (qX m (F156 x1 m)) := by
  have hX : F156 x1 m = F156 x1 m := rfl
  have Hr : ∀ r, F156 x1 m = r → rg r → ∀ n' : Nat, (qX m (F156 x1 m)) (.inl (some (yI r))) m n' := fun r e h n' => by subst e; exact ⟨rfl, h, rfl⟩
  refine PC.mk [some (.ref 0), some (yI x1)] kn156 rfl ?_
  refine p_iload 1 c156_0 rfl rfl ?_
  refine p_aload 2 c156_1 rfl rfl ?_
  refine p_getV 5 (.ref (pA (m 0 4))) c156_2 rfl kf0_4 (pA_sv2 hR.2.1 rfl) ?_
  refine p_getX 8 (m (pA (m 0 4)) 15) c156_5 rfl (kP_15 (pA_is _)) rfl ?_
  refine p_cX 11 [yI x1, yI (m (pA (m 0 4)) 15)] [] c156_8 rfl rfl rfl (fun k' hk' d' => d155 gx1 (hR.rg _ _) hR) (fun hg5931 n5920 k5919 hk5919 => ?_)
  exact p_ireturn c156_11 (Hr _ hX hg5931 _)
def F157 (x1 : Int) (m : yM) : Int := (F155 x1 (m (pA (m 0 4)) 14))
set_option maxRecDepth 100000 in
theorem d157 {L : Nat} {xs : Nat → Int32} {k d n : Nat} {c : yS3} {x1 : Int} {m : yM} (gx1 : rg x1) (hR : RM c m) : PC (gZ L xs) k d 157 [.ref 0, yI x1] m n (qX m (F157 x1 m)) := by
  have hX : F157 x1 m = F157 x1 m := rfl
  have Hr : ∀ r, F157 x1 m = r → rg r → ∀ n' : Nat, (qX m (F157 x1 m)) (.inl (some (yI r))) m n' := fun r e h n' => by subst e; exact ⟨rfl, h, rfl⟩
  refine PC.mk [some (.ref 0), some (yI x1)] kn157 rfl ?_
  refine p_iload 1 c157_0 rfl rfl ?_
  refine p_aload 2 c157_1 rfl rfl ?_
  refine p_getV 5 (.ref (pA (m 0 4))) c157_2 rfl kf0_4 (pA_sv2 hR.2.1 rfl) ?_
  refine p_getX 8 (m (pA (m 0 4)) 14) c157_5 rfl (kP_14 (pA_is _)) rfl ?_
  refine p_cX 11 [yI x1, yI (m (pA (m 0 4)) 14)] [] c157_8 rfl rfl rfl (fun k' hk' d' => d155 gx1 (hR.rg _ _) hR) (fun hg5942 n5941 k5940 hk5940 => ?_)
  exact p_ireturn c157_11 (Hr _ hX hg5942 _)
def J158_16 (f : Nat) (m : yM) : Option ((Int ⊕ Nat) × yM) := (some (.inr 11, m))
set_option maxRecDepth 100000 in
theorem tJ158_16 {L : Nat} {xs : Nat → Int32} {Q : xO → yM → Nat → Prop} {k d n : Nat} {c : yS3} {f : Nat} {m : yM} {j0 j1 j2 : Option Value} (hk : k ≤ f) (hR : RM c m) (Hr : ∀ r m', J158_16 f m = some (.inl r, m') → rg r → RM c m' → ∀ n', Q (.inl (some (yI r))) m' n') (Ht : ∀ e m', J158_16 f m = some (.inr e, m') → (fun e => e = 11) e → RM c m' → ∀ x n', Q (.inr (e, x)) m' n') : PW (gZ L xs) k 158 d 16 [j0, j1, j2] [] m n Q := by
  have hX : J158_16 f m = J158_16 f m := rfl
  exact p_throw c158_16 (fun x n' => Ht _ _ hX rfl hR x n')
def F158 (f : Nat) (x1 : Int) (x2 : Int) (m : yM) : Option ((Int ⊕ Nat) × yM) := (if F156 x1 m = 0 then (J158_16 f m) else (if F157 x2 m = 0 then (J158_16 f m) else (if 0 ≤ x1 ∧ x1 < ((48 : Nat) : Int) then (some (.inl (m (10 + (x1).toNat) x2.toNat), m)) else none)))
set_option maxRecDepth 100000 in
theorem d158 {L : Nat} {xs : Nat → Int32} {k d n : Nat} {c : yS3} {f : Nat} {x1 : Int} {x2 : Int} {m : yM} (hk : k ≤ f) (gx1 : rg x1) (gx2 : rg x2) (hR : RM c m) : PC (gZ L xs) k d 158 [.ref 0, yI x1, yI x2] m n (qEI (fun e => e = 11) c (F158 f x1 x2 m)) := by
  have hX : F158 f x1 x2 m = F158 f x1 x2 m := rfl
  have Hr : ∀ r m', F158 f x1 x2 m = some (.inl r, m') → rg r → RM c m' → ∀ n' : Nat, (qEI (fun e => e = 11) c (F158 f x1 x2 m)) (.inl (some (yI r))) m' n' := fun r m' e h1 h2 n' => Or.inl ⟨r, rfl, h1, h2, e⟩
  have Ht : ∀ e m', F158 f x1 x2 m = some (.inr e, m') → (fun e => e = 11) e → RM c m' → ∀ x n' : Nat, (qEI (fun e => e = 11) c (F158 f x1 x2 m)) (.inr (e, x)) m' n' := fun e m' e1 h1 h2 x n' => Or.inr ⟨e, x, rfl, h1, h2, e1⟩
  refine PC.mk [some (.ref 0), some (yI x1), some (yI x2)] kn158 rfl ?_
  refine p_aload 1 c158_0 rfl rfl ?_
  refine p_iload 2 c158_1 rfl rfl ?_
  refine p_cX 5 [.ref 0, yI x1] [] c158_2 rfl rfl rfl (fun k' hk' d' => d156 gx1 hR) (fun hg5932 n5918 k5917 hk5917 => ?_)
  refine p_if 16 8 c158_5 rfl rfl (yz_eq hg5932) (fun hb5933 k5934 hk5934 => ?_) (fun hb5933 k5935 hk5935 => ?_)
  · have hX5936 := hX.trans (if_pos hb5933)
    exact tJ158_16 (f := f) (by omega) hR (fun r' m' e' => Hr r' m' (hX5936.trans e')) (fun r' m' e' => Ht r' m' (hX5936.trans e'))
  · have hX5937 := hX.trans (if_neg hb5933)
    refine p_aload 9 c158_8 rfl rfl ?_
    refine p_iload 10 c158_9 rfl rfl ?_
    refine p_cX 13 [.ref 0, yI x2] [] c158_10 rfl rfl rfl (fun k' hk' d' => d157 gx2 hR) (fun hg5943 n5939 k5938 hk5938 => ?_)
    refine p_if 24 16 c158_13 rfl rfl (yz_ne hg5943) (fun hb5944 k5945 hk5945 => ?_) (fun hb5944 k5946 hk5946 => ?_)
    · have hX5947 := hX5937.trans (if_neg hb5944)
      refine p_aload 25 c158_24 rfl rfl ?_
      refine p_getR 28 c158_25 rfl kf0_2 ?_
      refine p_getR 31 c158_28 rfl kf8_0 ?_
      refine p_iload 32 c158_31 rfl rfl ?_
      refine p_aaX 33 c158_32 rfl kr9 gx1 (fun hx5948 => ?_)
      have hX5949 := hX5947.trans (if_pos hx5948)
      refine p_iload 34 c158_33 rfl rfl ?_
      refine p_iaX 35 (m (10 + (x1).toNat) x2.toNat) c158_34 rfl (kR9 hx5948) gx2 rfl (fun hx5950 => ?_)
      exact p_ireturn c158_35 (Hr _ _ hX5949 (hR.rg _ _) hR _)
    · have hX5951 := hX5937.trans (if_pos (Classical.not_not.mp hb5944))
      exact tJ158_16 (f := f) (by omega) hR (fun r' m' e' => Hr r' m' (hX5951.trans e')) (fun r' m' e' => Ht r' m' (hX5951.trans e'))
def F159 (f : Nat) (x1 : Int) (x2 : Int) (m : yM) : Option (Int × yM) := (bT (F158 f x1 x2 m) (fun r5954 m5956 => (some (0, yup m5956 413 0 ((i2l r5954).toInt)))) (fun e' m5956 => (if e' = 11 then (some (1, m5956)) else none)))
set_option maxRecDepth 100000 in
theorem d159 {L : Nat} {xs : Nat → Int32} {k d n : Nat} {c : yS3} {f : Nat} {x1 : Int} {x2 : Int} {m : yM} (hk : k ≤ f) (gx1 : rg x1) (gx2 : rg x2) (hR : RM c m) : PC (gZ L xs) k d 159 [.ref 0, yI x1, yI x2, .ref 413] m n (qS c (F159 f x1 x2 m)) := by
  have hX : F159 f x1 x2 m = F159 f x1 x2 m := rfl
  have Hr : ∀ r m', F159 f x1 x2 m = some (r, m') → rg r → RM c m' → ∀ n' : Nat, (qS c (F159 f x1 x2 m)) (.inl (some (yI r))) m' n' := fun r m' e h1 h2 n' => ⟨r, rfl, h1, h2, e⟩
  refine PC.mk [some (.ref 0), some (yI x1), some (yI x2), some (.ref 413), none] kn159 rfl ?_
  refine p_aload 1 c159_0 rfl rfl ?_
  refine p_iconst 2 c159_1 rfl ?_
  refine p_aload 3 c159_2 rfl rfl ?_
  refine p_iload 4 c159_3 rfl rfl ?_
  refine p_iload 5 c159_4 rfl rfl ?_
  refine p_cTI 8 [.ref 0, yI x1, yI x2] [yI 0, .ref 413] c159_5 rfl rfl rfl (fun k' hk' d' => d158 (f := f) (by omega) gx1 gx2 hR) (fun r5954 m5956 hF5952 hg5953 hR5957 n5916 k5915 hk5915 => ?_) (fun e' q5961 m5956 n' hF5952 hE5959 hR5960 => ?_)
  · have hX5955 := hX.trans (bT_l hF5952)
    refine p_i2l 9 c159_8 rfl ?_
    refine p_laS 10 c159_9 rfl kl413 (rgD rfl) (fun hx5962 => ?_)
    have hR5963 := hR5957.up 413 0 (v := (i2l r5954).toInt) (nselD rfl) (rg_i2l _)
    refine p_goto 17 c159_10 rfl ?_
    refine p_iconst 18 c159_17 rfl ?_
    exact p_ireturn c159_18 (Hr _ _ hX5955 (rgD rfl) hR5963 _)
  · have hXe := hX.trans (bT_r hF5952)
    cases (show e' = 11 from hE5959)
    have hX5964 := hXe.trans (if_pos rfl)
    refine ⟨fun pq hpq k5965 hk5965 => ?_, fun hno => absurd (r_kh159_5_11.symm.trans hno) (by simp)⟩
    have hpp : pq = 13 := by have := r_kh159_5_11.symm.trans hpq; simpa using this.symm
    subst hpp
    refine p_astore 15 c159_13 rfl rfl ?_
    refine p_iconst 16 c159_15 rfl ?_
    exact p_ireturn c159_16 (Hr _ _ hX5964 (rgD rfl) hR5960 _)
def F160 (x1 : Int) (m : yM) : Int := (if m 376 19 = 0 then 0 else (if F22 x1 0 (wr ((m 389 (m 376 18).toNat) - 1)) = 0 then 0 else 1))
set_option maxRecDepth 100000 in
theorem d160 {L : Nat} {xs : Nat → Int32} {k d n : Nat} {c : yS3} {x1 : Int} {m : yM} (gx1 : rg x1) (hR : RM c m) : PC (gZ L xs) k d 160 [.ref 376, yI x1] m n (qX m (F160 x1 m)) := by
  have hX : F160 x1 m = F160 x1 m := rfl
  have Hr : ∀ r, F160 x1 m = r → rg r → ∀ n' : Nat, (qX m (F160 x1 m)) (.inl (some (yI r))) m n' := fun r e h n' => by subst e; exact ⟨rfl, h, rfl⟩
  refine PC.mk [some (.ref 376), some (yI x1)] kn160 rfl ?_
  refine p_aload 1 c160_0 rfl rfl ?_
  refine p_getX 4 (m 376 19) c160_1 rfl kf376_19 rfl ?_
  refine p_if 30 7 c160_4 rfl rfl (yz_eq (hR.rg _ _)) (fun hb5978 k5979 hk5979 => ?_) (fun hb5978 k5980 hk5980 => ?_)
  · have hX5981 := hX.trans (if_pos hb5978)
    refine p_iconst 31 c160_30 rfl ?_
    exact p_ireturn c160_31 (Hr _ hX5981 (rgD rfl) _)
  · have hX5982 := hX.trans (if_neg hb5978)
    refine p_iload 8 c160_7 rfl rfl ?_
    refine p_iconst 9 c160_8 rfl ?_
    refine p_aload 10 c160_9 rfl rfl ?_
    refine p_getR 13 c160_10 rfl kf376_26 ?_
    refine p_aload 14 c160_13 rfl rfl ?_
    refine p_getX 17 (m 376 18) c160_14 rfl kf376_18 rfl ?_
    refine p_iaX 18 (m 389 (m 376 18).toNat) c160_17 rfl ka389 (hR.rg _ _) rfl (fun hx5983 => ?_)
    refine p_iconst 19 c160_18 rfl ?_
    refine p_isub 20 c160_19 rfl ?_
    refine p_cX 23 [yI x1, yI 0, yI (wr ((m 389 (m 376 18).toNat) - 1))] [] c160_20 rfl rfl rfl (fun k' hk' d' => d22 gx1 (rgD rfl) (rg_wr _) hR) (fun hg5986 n5985 k5984 hk5984 => ?_)
    refine p_if 30 26 c160_23 rfl rfl (yz_eq hg5986) (fun hb5987 k5988 hk5988 => ?_) (fun hb5987 k5989 hk5989 => ?_)
    · have hX5990 := hX5982.trans (if_pos hb5987)
      refine p_iconst 31 c160_30 rfl ?_
      exact p_ireturn c160_31 (Hr _ hX5990 (rgD rfl) _)
    · have hX5991 := hX5982.trans (if_neg hb5987)
      refine p_iconst 27 c160_26 rfl ?_
      refine p_goto 31 c160_27 rfl ?_
      exact p_ireturn c160_31 (Hr _ hX5991 (rgD rfl) _)
def J162_17 (f : Nat) (xs1 : Int) (m : yM) : Option (Int × yM) := (bI (F23 f xs1 1 m) (fun r6007 m6009 => (some (r6007, m6009))))
set_option maxRecDepth 100000 in
theorem tJ162_17 {L : Nat} {xs : Nat → Int32} {Q : xO → yM → Nat → Prop} {k d n : Nat} {c : yS3} {f : Nat} {xs1 : Int} {m : yM} {j0 j1 : Option Value} (hk : k ≤ f) (gxs1 : rg xs1) (hR : RM c m) (Hr : ∀ r m', J162_17 f xs1 m = some (r, m') → rg r → RM c m' → ∀ n', Q (.inl (some (yI r))) m' n') : PW (gZ L xs) k 162 d 17 [j0, j1] [yI xs1, .ref 376] m n Q := by
  have hX : J162_17 f xs1 m = J162_17 f xs1 m := rfl
  refine p_iconst 18 c162_17 rfl ?_
  refine p_cS 21 [.ref 376, yI xs1, yI 1] [] c162_18 rfl rfl rfl (fun k' hk' d' => d23 (f := f) (by omega) gxs1 (rgD rfl) hR) (fun r6007 m6009 hF6005 hg6006 hR6010 n6004 k6003 hk6003 => ?_)
  have hX6008 := hX.trans (bI_s hF6005)
  exact p_ireturn c162_21 (Hr _ _ hX6008 hg6006 hR6010 _)
def J162_16 (f : Nat) (m : yM) : Option (Int × yM) := (J162_17 f 0 m)
set_option maxRecDepth 100000 in
theorem tJ162_16 {L : Nat} {xs : Nat → Int32} {Q : xO → yM → Nat → Prop} {k d n : Nat} {c : yS3} {f : Nat} {m : yM} {j0 j1 : Option Value} (hk : k ≤ f) (hR : RM c m) (Hr : ∀ r m', J162_16 f m = some (r, m') → rg r → RM c m' → ∀ n', Q (.inl (some (yI r))) m' n') : PW (gZ L xs) k 162 d 16 [j0, j1] [.ref 376] m n Q := by
  have hX : J162_16 f m = J162_16 f m := rfl
  refine p_iconst 17 c162_16 rfl ?_
  exact tJ162_17 (f := f) (by omega) (rgD rfl) hR (fun r' m' e' => Hr r' m' (hX.trans e'))
def F162 (f : Nat) (x1 : Int) (m : yM) : Option (Int × yM) := (if m 376 19 = 0 then (J162_16 f m) else (if x1 = 0 then (J162_16 f m) else (J162_17 f 1 m)))
set_option maxRecDepth 100000 in
theorem d162 {L : Nat} {xs : Nat → Int32} {k d n : Nat} {c : yS3} {f : Nat} {x1 : Int} {m : yM} (hk : k ≤ f) (gx1 : rg x1) (hR : RM c m) : PC (gZ L xs) k d 162 [.ref 376, yI x1] m n (qS c (F162 f x1 m)) := by
  have hX : F162 f x1 m = F162 f x1 m := rfl
  have Hr : ∀ r m', F162 f x1 m = some (r, m') → rg r → RM c m' → ∀ n' : Nat, (qS c (F162 f x1 m)) (.inl (some (yI r))) m' n' := fun r m' e h1 h2 n' => ⟨r, rfl, h1, h2, e⟩
  refine PC.mk [some (.ref 376), some (yI x1)] kn162 rfl ?_
  refine p_aload 1 c162_0 rfl rfl ?_
  refine p_aload 2 c162_1 rfl rfl ?_
  refine p_getX 5 (m 376 19) c162_2 rfl kf376_19 rfl ?_
  refine p_if 16 8 c162_5 rfl rfl (yz_eq (hR.rg _ _)) (fun hb5999 k6000 hk6000 => ?_) (fun hb5999 k6001 hk6001 => ?_)
  · have hX6002 := hX.trans (if_pos hb5999)
    exact tJ162_16 (f := f) (by omega) hR (fun r' m' e' => Hr r' m' (hX6002.trans e'))
  · have hX6011 := hX.trans (if_neg hb5999)
    refine p_iload 9 c162_8 rfl rfl ?_
    refine p_if 16 12 c162_9 rfl rfl (yz_eq gx1) (fun hb6012 k6013 hk6013 => ?_) (fun hb6012 k6014 hk6014 => ?_)
    · have hX6015 := hX6011.trans (if_pos hb6012)
      exact tJ162_16 (f := f) (by omega) hR (fun r' m' e' => Hr r' m' (hX6015.trans e'))
    · have hX6016 := hX6011.trans (if_neg hb6012)
      refine p_iconst 13 c162_12 rfl ?_
      refine p_goto 17 c162_13 rfl ?_
      exact tJ162_17 (f := f) (by omega) (rgD rfl) hR (fun r' m' e' => Hr r' m' (hX6016.trans e'))
def F161 (x1 : Int) (m : yM) : Int := (if m 376 19 = 0 then 0 else (if F22 x1 0 (wr ((m 388 (m 376 18).toNat) - 1)) = 0 then 0 else 1))
set_option maxRecDepth 100000 in
theorem d161 {L : Nat} {xs : Nat → Int32} {k d n : Nat} {c : yS3} {x1 : Int} {m : yM} (gx1 : rg x1) (hR : RM c m) : PC (gZ L xs) k d 161 [.ref 376, yI x1] m n (qX m (F161 x1 m)) := by
  have hX : F161 x1 m = F161 x1 m := rfl
  have Hr : ∀ r, F161 x1 m = r → rg r → ∀ n' : Nat, (qX m (F161 x1 m)) (.inl (some (yI r))) m n' := fun r e h n' => by subst e; exact ⟨rfl, h, rfl⟩
  refine PC.mk [some (.ref 376), some (yI x1)] kn161 rfl ?_
  refine p_aload 1 c161_0 rfl rfl ?_
  refine p_getX 4 (m 376 19) c161_1 rfl kf376_19 rfl ?_
  refine p_if 30 7 c161_4 rfl rfl (yz_eq (hR.rg _ _)) (fun hb6032 k6033 hk6033 => ?_) (fun hb6032 k6034 hk6034 => ?_)
  · have hX6035 := hX.trans (if_pos hb6032)
    refine p_iconst 31 c161_30 rfl ?_
    exact p_ireturn c161_31 (Hr _ hX6035 (rgD rfl) _)
  · have hX6036 := hX.trans (if_neg hb6032)
    refine p_iload 8 c161_7 rfl rfl ?_
    refine p_iconst 9 c161_8 rfl ?_
    refine p_aload 10 c161_9 rfl rfl ?_
    refine p_getR 13 c161_10 rfl kf376_25 ?_
    refine p_aload 14 c161_13 rfl rfl ?_
    refine p_getX 17 (m 376 18) c161_14 rfl kf376_18 rfl ?_
    refine p_iaX 18 (m 388 (m 376 18).toNat) c161_17 rfl ka388 (hR.rg _ _) rfl (fun hx6037 => ?_)
    refine p_iconst 19 c161_18 rfl ?_
    refine p_isub 20 c161_19 rfl ?_
    refine p_cX 23 [yI x1, yI 0, yI (wr ((m 388 (m 376 18).toNat) - 1))] [] c161_20 rfl rfl rfl (fun k' hk' d' => d22 gx1 (rgD rfl) (rg_wr _) hR) (fun hg6040 n6039 k6038 hk6038 => ?_)
    refine p_if 30 26 c161_23 rfl rfl (yz_eq hg6040) (fun hb6041 k6042 hk6042 => ?_) (fun hb6041 k6043 hk6043 => ?_)
    · have hX6044 := hX6036.trans (if_pos hb6041)
      refine p_iconst 31 c161_30 rfl ?_
      exact p_ireturn c161_31 (Hr _ hX6044 (rgD rfl) _)
    · have hX6045 := hX6036.trans (if_neg hb6041)
      refine p_iconst 27 c161_26 rfl ?_
      refine p_goto 31 c161_27 rfl ?_
      exact p_ireturn c161_31 (Hr _ hX6045 (rgD rfl) _)
def J163_22 (f : Nat) (x1 : Int) (x2 : Int) (xs1 : Int) (m : yM) : Option (Int × yM) := (bI (F162 f xs1 m) (fun r6019 m6021 => (if r6019 = 0 then (some (0, m6021)) else (some (m6021 404 (wr ((wr (12 * x1)) + x2)).toNat, m6021)))))
set_option maxRecDepth 100000 in
theorem tJ163_22 {L : Nat} {xs : Nat → Int32} {Q : xO → yM → Nat → Prop} {k d n : Nat} {c : yS3} {f : Nat} {x1 : Int} {x2 : Int} {xs1 : Int} {m : yM} (hk : k ≤ f) (gx1 : rg x1) (gx2 : rg x2) (gxs1 : rg xs1) (hR : RM c m) (Hr : ∀ r m', J163_22 f x1 x2 xs1 m = some (r, m') → rg r → RM c m' → ∀ n', Q (.inl (some (yI r))) m' n') : PW (gZ L xs) k 163 d 22 [some (.ref 376), some (yI x1), some (yI x2)] [yI xs1, .ref 376] m n Q := by
  have hX : J163_22 f x1 x2 xs1 m = J163_22 f x1 x2 xs1 m := rfl
  refine p_cS 25 [.ref 376, yI xs1] [] c163_22 rfl rfl rfl (fun k' hk' d' => d162 (f := f) (by omega) gxs1 hR) (fun r6019 m6021 hF6017 hg6018 hR6022 n5998 k5997 hk5997 => ?_)
  have hX6020 := hX.trans (bI_s hF6017)
  refine p_if 42 28 c163_25 rfl rfl (yz_eq hg6018) (fun hb6023 k6024 hk6024 => ?_) (fun hb6023 k6025 hk6025 => ?_)
  · have hX6026 := hX6020.trans (if_pos hb6023)
    refine p_iconst 43 c163_42 rfl ?_
    exact p_ireturn c163_43 (Hr _ _ hX6026 (rgD rfl) hR6022 _)
  · have hX6027 := hX6020.trans (if_neg hb6023)
    refine p_aload 29 c163_28 rfl rfl ?_
    refine p_getR 32 c163_29 rfl kf376_41 ?_
    refine p_iconst 34 c163_32 rfl ?_
    refine p_iload 35 c163_34 rfl rfl ?_
    refine p_imul 36 c163_35 rfl ?_
    refine p_iload 37 c163_36 rfl rfl ?_
    refine p_iadd 38 c163_37 rfl ?_
    refine p_iaX 39 (m6021 404 (wr ((wr (12 * x1)) + x2)).toNat) c163_38 rfl ka404 (rg_wr _) rfl (fun hx6028 => ?_)
    refine p_goto 43 c163_39 rfl ?_
    exact p_ireturn c163_43 (Hr _ _ hX6027 (hR6022.rg _ _) hR6022 _)
def J163_21 (f : Nat) (x1 : Int) (x2 : Int) (m : yM) : Option (Int × yM) := (J163_22 f x1 x2 0 m)
set_option maxRecDepth 100000 in
theorem tJ163_21 {L : Nat} {xs : Nat → Int32} {Q : xO → yM → Nat → Prop} {k d n : Nat} {c : yS3} {f : Nat} {x1 : Int} {x2 : Int} {m : yM} (hk : k ≤ f) (gx1 : rg x1) (gx2 : rg x2) (hR : RM c m) (Hr : ∀ r m', J163_21 f x1 x2 m = some (r, m') → rg r → RM c m' → ∀ n', Q (.inl (some (yI r))) m' n') : PW (gZ L xs) k 163 d 21 [some (.ref 376), some (yI x1), some (yI x2)] [.ref 376] m n Q := by
  have hX : J163_21 f x1 x2 m = J163_21 f x1 x2 m := rfl
  refine p_iconst 22 c163_21 rfl ?_
  exact tJ163_22 (f := f) (by omega) gx1 gx2 (rgD rfl) hR (fun r' m' e' => Hr r' m' (hX.trans e'))
def F163 (f : Nat) (x1 : Int) (x2 : Int) (m : yM) : Option (Int × yM) := (if F160 x1 m = 0 then (J163_21 f x1 x2 m) else (if F161 x2 m = 0 then (J163_21 f x1 x2 m) else (J163_22 f x1 x2 1 m)))
set_option maxRecDepth 100000 in
theorem d163 {L : Nat} {xs : Nat → Int32} {k d n : Nat} {c : yS3} {f : Nat} {x1 : Int} {x2 : Int} {m : yM} (hk : k ≤ f) (gx1 : rg x1) (gx2 : rg x2) (hR : RM c m) : PC (gZ L xs) k d 163 [.ref 376, yI x1, yI x2] m n (qS c (F163 f x1 x2 m)) := by
  have hX : F163 f x1 x2 m = F163 f x1 x2 m := rfl
  have Hr : ∀ r m', F163 f x1 x2 m = some (r, m') → rg r → RM c m' → ∀ n' : Nat, (qS c (F163 f x1 x2 m)) (.inl (some (yI r))) m' n' := fun r m' e h1 h2 n' => ⟨r, rfl, h1, h2, e⟩
  refine PC.mk [some (.ref 376), some (yI x1), some (yI x2)] kn163 rfl ?_
  refine p_aload 1 c163_0 rfl rfl ?_
  refine p_aload 2 c163_1 rfl rfl ?_
  refine p_iload 3 c163_2 rfl rfl ?_
  refine p_cX 6 [.ref 376, yI x1] [.ref 376] c163_3 rfl rfl rfl (fun k' hk' d' => d160 gx1 hR) (fun hg5992 n5977 k5976 hk5976 => ?_)
  refine p_if 21 9 c163_6 rfl rfl (yz_eq hg5992) (fun hb5993 k5994 hk5994 => ?_) (fun hb5993 k5995 hk5995 => ?_)
  · have hX5996 := hX.trans (if_pos hb5993)
    exact tJ163_21 (f := f) (by omega) gx1 gx2 hR (fun r' m' e' => Hr r' m' (hX5996.trans e'))
  · have hX6029 := hX.trans (if_neg hb5993)
    refine p_aload 10 c163_9 rfl rfl ?_
    refine p_iload 11 c163_10 rfl rfl ?_
    refine p_cX 14 [.ref 376, yI x2] [.ref 376] c163_11 rfl rfl rfl (fun k' hk' d' => d161 gx2 hR) (fun hg6046 n6031 k6030 hk6030 => ?_)
    refine p_if 21 17 c163_14 rfl rfl (yz_eq hg6046) (fun hb6047 k6048 hk6048 => ?_) (fun hb6047 k6049 hk6049 => ?_)
    · have hX6050 := hX6029.trans (if_pos hb6047)
      exact tJ163_21 (f := f) (by omega) gx1 gx2 hR (fun r' m' e' => Hr r' m' (hX6050.trans e'))
    · have hX6051 := hX6029.trans (if_neg hb6047)
      refine p_iconst 18 c163_17 rfl ?_
      refine p_goto 22 c163_18 rfl ?_
      exact tJ163_22 (f := f) (by omega) gx1 gx2 (rgD rfl) hR (fun r' m' e' => Hr r' m' (hX6051.trans e'))
def J164_30 (f : Nat) (m : yM) : Option ((Int ⊕ Nat) × yM) := (some (.inr 11, m))
set_option maxRecDepth 100000 in
theorem tJ164_30 {L : Nat} {xs : Nat → Int32} {Q : xO → yM → Nat → Prop} {k d n : Nat} {c : yS3} {f : Nat} {m : yM} {j0 j1 j2 j3 : Option Value} (hk : k ≤ f) (hR : RM c m) (Hr : ∀ r m', J164_30 f m = some (.inl r, m') → rg r → RM c m' → ∀ n', Q (.inl (some (yI r))) m' n') (Ht : ∀ e m', J164_30 f m = some (.inr e, m') → (fun e => e = 11) e → RM c m' → ∀ x n', Q (.inr (e, x)) m' n') : PW (gZ L xs) k 164 d 30 [j0, j1, j2, j3] [] m n Q := by
  have hX : J164_30 f m = J164_30 f m := rfl
  exact p_throw c164_30 (fun x n' => Ht _ _ hX rfl hR x n')
def F164 (f : Nat) (x1 : Int) (x2 : Int) (x3 : Int) (m : yM) : Option ((Int ⊕ Nat) × yM) := (if F157 x1 m = 0 then (J164_30 f m) else (if F155 x2 (m (pA (m 0 4)) 11) = 0 then (J164_30 f m) else (if F157 x3 m = 0 then (J164_30 f m) else (if 73 ≤ (F83 x1 x2) ∧ (F83 x1 x2) < 169 then (some (.inl (m (F83 x1 x2) x3.toNat), m)) else none))))
set_option maxRecDepth 100000 in
theorem d164 {L : Nat} {xs : Nat → Int32} {k d n : Nat} {c : yS3} {f : Nat} {x1 : Int} {x2 : Int} {x3 : Int} {m : yM} (hk : k ≤ f) (gx1 : rg x1) (gx2 : rg x2) (gx3 : rg x3) (hR : RM c m) : PC (gZ L xs) k d 164 [.ref 0, yI x1, yI x2, yI x3] m n (qEI (fun e => e = 11) c (F164 f x1 x2 x3 m)) := by
  have hX : F164 f x1 x2 x3 m = F164 f x1 x2 x3 m := rfl
  have Hr : ∀ r m', F164 f x1 x2 x3 m = some (.inl r, m') → rg r → RM c m' → ∀ n' : Nat, (qEI (fun e => e = 11) c (F164 f x1 x2 x3 m)) (.inl (some (yI r))) m' n' := fun r m' e h1 h2 n' => Or.inl ⟨r, rfl, h1, h2, e⟩
  have Ht : ∀ e m', F164 f x1 x2 x3 m = some (.inr e, m') → (fun e => e = 11) e → RM c m' → ∀ x n' : Nat, (qEI (fun e => e = 11) c (F164 f x1 x2 x3 m)) (.inr (e, x)) m' n' := fun e m' e1 h1 h2 x n' => Or.inr ⟨e, x, rfl, h1, h2, e1⟩
  refine PC.mk [some (.ref 0), some (yI x1), some (yI x2), some (yI x3)] kn164 rfl ?_
  refine p_aload 1 c164_0 rfl rfl ?_
  refine p_iload 2 c164_1 rfl rfl ?_
  refine p_cX 5 [.ref 0, yI x1] [] c164_2 rfl rfl rfl (fun k' hk' d' => d157 gx1 hR) (fun hg6070 n6069 k6068 hk6068 => ?_)
  refine p_if 30 8 c164_5 rfl rfl (yz_eq hg6070) (fun hb6071 k6072 hk6072 => ?_) (fun hb6071 k6073 hk6073 => ?_)
  · have hX6074 := hX.trans (if_pos hb6071)
    exact tJ164_30 (f := f) (by omega) hR (fun r' m' e' => Hr r' m' (hX6074.trans e')) (fun r' m' e' => Ht r' m' (hX6074.trans e'))
  · have hX6075 := hX.trans (if_neg hb6071)
    refine p_iload 9 c164_8 rfl rfl ?_
    refine p_aload 10 c164_9 rfl rfl ?_
    refine p_getV 13 (.ref (pA (m 0 4))) c164_10 rfl kf0_4 (pA_sv2 hR.2.1 rfl) ?_
    refine p_getX 16 (m (pA (m 0 4)) 11) c164_13 rfl (kP_11 (pA_is _)) rfl ?_
    refine p_cX 19 [yI x2, yI (m (pA (m 0 4)) 11)] [] c164_16 rfl rfl rfl (fun k' hk' d' => d155 gx2 (hR.rg _ _) hR) (fun hg6078 n6077 k6076 hk6076 => ?_)
    refine p_if 30 22 c164_19 rfl rfl (yz_eq hg6078) (fun hb6079 k6080 hk6080 => ?_) (fun hb6079 k6081 hk6081 => ?_)
    · have hX6082 := hX6075.trans (if_pos hb6079)
      exact tJ164_30 (f := f) (by omega) hR (fun r' m' e' => Hr r' m' (hX6082.trans e')) (fun r' m' e' => Ht r' m' (hX6082.trans e'))
    · have hX6083 := hX6075.trans (if_neg hb6079)
      refine p_aload 23 c164_22 rfl rfl ?_
      refine p_iload 24 c164_23 rfl rfl ?_
      refine p_cX 27 [.ref 0, yI x3] [] c164_24 rfl rfl rfl (fun k' hk' d' => d157 gx3 hR) (fun hg6086 n6085 k6084 hk6084 => ?_)
      refine p_if 38 30 c164_27 rfl rfl (yz_ne hg6086) (fun hb6087 k6088 hk6088 => ?_) (fun hb6087 k6089 hk6089 => ?_)
      · have hX6090 := hX6083.trans (if_neg hb6087)
        refine p_aload 39 c164_38 rfl rfl ?_
        refine p_getR 42 c164_39 rfl kf0_2 ?_
        refine p_iload 43 c164_42 rfl rfl ?_
        refine p_iload 44 c164_43 rfl rfl ?_
        refine p_cXR 47 [.ref 8, yI x1, yI x2] [] c164_44 rfl rfl rfl (fun k' hk' d' => d83 gx1 gx2 hR) (fun hg6093 n6092 k6091 hk6091 => ?_)
        have := hg6093.2
        have hX6094 := hX6090.trans (if_pos hg6093.2)
        refine p_iload 48 c164_47 rfl rfl ?_
        refine p_iaX 49 (m (F83 x1 x2) x3.toNat) c164_48 rfl hg6093.1 gx3 rfl (fun hx6095 => ?_)
        exact p_ireturn c164_49 (Hr _ _ hX6094 (hR.rg _ _) hR _)
      · have hX6096 := hX6083.trans (if_pos (Classical.not_not.mp hb6087))
        exact tJ164_30 (f := f) (by omega) hR (fun r' m' e' => Hr r' m' (hX6096.trans e')) (fun r' m' e' => Ht r' m' (hX6096.trans e'))
def F165 (f : Nat) (x1 : Int) (x2 : Int) (x3 : Int) (m : yM) : Option (Int × yM) := (bT (F164 f x1 x2 x3 m) (fun r6099 m6101 => (some (0, yup m6101 413 0 ((i2l r6099).toInt)))) (fun e' m6101 => (if e' = 11 then (some (1, m6101)) else none)))
set_option maxRecDepth 100000 in
theorem d165 {L : Nat} {xs : Nat → Int32} {k d n : Nat} {c : yS3} {f : Nat} {x1 : Int} {x2 : Int} {x3 : Int} {m : yM} (hk : k ≤ f) (gx1 : rg x1) (gx2 : rg x2) (gx3 : rg x3) (hR : RM c m) : PC (gZ L xs) k d 165 [.ref 0, yI x1, yI x2, yI x3, .ref 413] m n (qS c (F165 f x1 x2 x3 m)) := by
  have hX : F165 f x1 x2 x3 m = F165 f x1 x2 x3 m := rfl
  have Hr : ∀ r m', F165 f x1 x2 x3 m = some (r, m') → rg r → RM c m' → ∀ n' : Nat, (qS c (F165 f x1 x2 x3 m)) (.inl (some (yI r))) m' n' := fun r m' e h1 h2 n' => ⟨r, rfl, h1, h2, e⟩
  refine PC.mk [some (.ref 0), some (yI x1), some (yI x2), some (yI x3), some (.ref 413), none] kn165 rfl ?_
  refine p_aload 2 c165_0 rfl rfl ?_
  refine p_iconst 3 c165_2 rfl ?_
  refine p_aload 4 c165_3 rfl rfl ?_
  refine p_iload 5 c165_4 rfl rfl ?_
  refine p_iload 6 c165_5 rfl rfl ?_
  refine p_iload 7 c165_6 rfl rfl ?_
  refine p_cTI 10 [.ref 0, yI x1, yI x2, yI x3] [yI 0, .ref 413] c165_7 rfl rfl rfl (fun k' hk' d' => d164 (f := f) (by omega) gx1 gx2 gx3 hR) (fun r6099 m6101 hF6097 hg6098 hR6102 n6067 k6066 hk6066 => ?_) (fun e' q6106 m6101 n' hF6097 hE6104 hR6105 => ?_)
  · have hX6100 := hX.trans (bT_l hF6097)
    refine p_i2l 11 c165_10 rfl ?_
    refine p_laS 12 c165_11 rfl kl413 (rgD rfl) (fun hx6107 => ?_)
    have hR6108 := hR6102.up 413 0 (v := (i2l r6099).toInt) (nselD rfl) (rg_i2l _)
    refine p_goto 19 c165_12 rfl ?_
    refine p_iconst 20 c165_19 rfl ?_
    exact p_ireturn c165_20 (Hr _ _ hX6100 (rgD rfl) hR6108 _)
  · have hXe := hX.trans (bT_r hF6097)
    cases (show e' = 11 from hE6104)
    have hX6109 := hXe.trans (if_pos rfl)
    refine ⟨fun pq hpq k6110 hk6110 => ?_, fun hno => absurd (r_kh165_7_11.symm.trans hno) (by simp)⟩
    have hpp : pq = 15 := by have := r_kh165_7_11.symm.trans hpq; simpa using this.symm
    subst hpp
    refine p_astore 17 c165_15 rfl rfl ?_
    refine p_iconst 18 c165_17 rfl ?_
    exact p_ireturn c165_18 (Hr _ _ hX6109 (rgD rfl) hR6105 _)
def J166_41 (f : Nat) (x1 : Int) (x2 : Int) (x3 : Int) (xs1 : Int) (m : yM) : Option (Int × yM) := (bI (F162 f xs1 m) (fun r6133 m6135 => (if r6133 = 0 then (some (0, m6135)) else (some (m6135 405 (wr ((wr ((wr (96 * x1)) + (wr (12 * x2)))) + x3)).toNat, m6135)))))
set_option maxRecDepth 100000 in
theorem tJ166_41 {L : Nat} {xs : Nat → Int32} {Q : xO → yM → Nat → Prop} {k d n : Nat} {c : yS3} {f : Nat} {x1 : Int} {x2 : Int} {x3 : Int} {xs1 : Int} {m : yM} (hk : k ≤ f) (gx1 : rg x1) (gx2 : rg x2) (gx3 : rg x3) (gxs1 : rg xs1) (hR : RM c m) (Hr : ∀ r m', J166_41 f x1 x2 x3 xs1 m = some (r, m') → rg r → RM c m' → ∀ n', Q (.inl (some (yI r))) m' n') : PW (gZ L xs) k 166 d 41 [some (.ref 376), some (yI x1), some (yI x2), some (yI x3)] [yI xs1, .ref 376] m n Q := by
  have hX : J166_41 f x1 x2 x3 xs1 m = J166_41 f x1 x2 x3 xs1 m := rfl
  refine p_cS 44 [.ref 376, yI xs1] [] c166_41 rfl rfl rfl (fun k' hk' d' => d162 (f := f) (by omega) gxs1 hR) (fun r6133 m6135 hF6131 hg6132 hR6136 n6130 k6129 hk6129 => ?_)
  have hX6134 := hX.trans (bI_s hF6131)
  refine p_if 66 47 c166_44 rfl rfl (yz_eq hg6132) (fun hb6137 k6138 hk6138 => ?_) (fun hb6137 k6139 hk6139 => ?_)
  · have hX6140 := hX6134.trans (if_pos hb6137)
    refine p_iconst 67 c166_66 rfl ?_
    exact p_ireturn c166_67 (Hr _ _ hX6140 (rgD rfl) hR6136 _)
  · have hX6141 := hX6134.trans (if_neg hb6137)
    refine p_aload 48 c166_47 rfl rfl ?_
    refine p_getR 51 c166_48 rfl kf376_42 ?_
    refine p_iconst 53 c166_51 rfl ?_
    refine p_iload 54 c166_53 rfl rfl ?_
    refine p_imul 55 c166_54 rfl ?_
    refine p_iconst 57 c166_55 rfl ?_
    refine p_iload 58 c166_57 rfl rfl ?_
    refine p_imul 59 c166_58 rfl ?_
    refine p_iadd 60 c166_59 rfl ?_
    refine p_iload 61 c166_60 rfl rfl ?_
    refine p_iadd 62 c166_61 rfl ?_
    refine p_iaX 63 (m6135 405 (wr ((wr ((wr (96 * x1)) + (wr (12 * x2)))) + x3)).toNat) c166_62 rfl ka405 (rg_wr _) rfl (fun hx6142 => ?_)
    refine p_goto 67 c166_63 rfl ?_
    exact p_ireturn c166_67 (Hr _ _ hX6141 (hR6136.rg _ _) hR6136 _)
def J166_40 (f : Nat) (x1 : Int) (x2 : Int) (x3 : Int) (m : yM) : Option (Int × yM) := (J166_41 f x1 x2 x3 0 m)
set_option maxRecDepth 100000 in
theorem tJ166_40 {L : Nat} {xs : Nat → Int32} {Q : xO → yM → Nat → Prop} {k d n : Nat} {c : yS3} {f : Nat} {x1 : Int} {x2 : Int} {x3 : Int} {m : yM} (hk : k ≤ f) (gx1 : rg x1) (gx2 : rg x2) (gx3 : rg x3) (hR : RM c m) (Hr : ∀ r m', J166_40 f x1 x2 x3 m = some (r, m') → rg r → RM c m' → ∀ n', Q (.inl (some (yI r))) m' n') : PW (gZ L xs) k 166 d 40 [some (.ref 376), some (yI x1), some (yI x2), some (yI x3)] [.ref 376] m n Q := by
  have hX : J166_40 f x1 x2 x3 m = J166_40 f x1 x2 x3 m := rfl
  refine p_iconst 41 c166_40 rfl ?_
  exact tJ166_41 (f := f) (by omega) gx1 gx2 gx3 (rgD rfl) hR (fun r' m' e' => Hr r' m' (hX.trans e'))
def F166 (f : Nat) (x1 : Int) (x2 : Int) (x3 : Int) (m : yM) : Option (Int × yM) := (if F161 x1 m = 0 then (J166_40 f x1 x2 x3 m) else (if F161 x3 m = 0 then (J166_40 f x1 x2 x3 m) else (if F22 x2 0 (wr ((m 385 (m 376 18).toNat) - 1)) = 0 then (J166_40 f x1 x2 x3 m) else (J166_41 f x1 x2 x3 1 m))))
set_option maxRecDepth 100000 in
theorem d166 {L : Nat} {xs : Nat → Int32} {k d n : Nat} {c : yS3} {f : Nat} {x1 : Int} {x2 : Int} {x3 : Int} {m : yM} (hk : k ≤ f) (gx1 : rg x1) (gx2 : rg x2) (gx3 : rg x3) (hR : RM c m) : PC (gZ L xs) k d 166 [.ref 376, yI x1, yI x2, yI x3] m n (qS c (F166 f x1 x2 x3 m)) := by
  have hX : F166 f x1 x2 x3 m = F166 f x1 x2 x3 m := rfl
  have Hr : ∀ r m', F166 f x1 x2 x3 m = some (r, m') → rg r → RM c m' → ∀ n' : Nat, (qS c (F166 f x1 x2 x3 m)) (.inl (some (yI r))) m' n' := fun r m' e h1 h2 n' => ⟨r, rfl, h1, h2, e⟩
  refine PC.mk [some (.ref 376), some (yI x1), some (yI x2), some (yI x3)] kn166 rfl ?_
  refine p_aload 1 c166_0 rfl rfl ?_
  refine p_aload 2 c166_1 rfl rfl ?_
  refine p_iload 3 c166_2 rfl rfl ?_
  refine p_cX 6 [.ref 376, yI x1] [.ref 376] c166_3 rfl rfl rfl (fun k' hk' d' => d161 gx1 hR) (fun hg6124 n6123 k6122 hk6122 => ?_)
  refine p_if 40 9 c166_6 rfl rfl (yz_eq hg6124) (fun hb6125 k6126 hk6126 => ?_) (fun hb6125 k6127 hk6127 => ?_)
  · have hX6128 := hX.trans (if_pos hb6125)
    exact tJ166_40 (f := f) (by omega) gx1 gx2 gx3 hR (fun r' m' e' => Hr r' m' (hX6128.trans e'))
  · have hX6143 := hX.trans (if_neg hb6125)
    refine p_aload 10 c166_9 rfl rfl ?_
    refine p_iload 11 c166_10 rfl rfl ?_
    refine p_cX 14 [.ref 376, yI x3] [.ref 376] c166_11 rfl rfl rfl (fun k' hk' d' => d161 gx3 hR) (fun hg6146 n6145 k6144 hk6144 => ?_)
    refine p_if 40 17 c166_14 rfl rfl (yz_eq hg6146) (fun hb6147 k6148 hk6148 => ?_) (fun hb6147 k6149 hk6149 => ?_)
    · have hX6150 := hX6143.trans (if_pos hb6147)
      exact tJ166_40 (f := f) (by omega) gx1 gx2 gx3 hR (fun r' m' e' => Hr r' m' (hX6150.trans e'))
    · have hX6151 := hX6143.trans (if_neg hb6147)
      refine p_iload 18 c166_17 rfl rfl ?_
      refine p_iconst 19 c166_18 rfl ?_
      refine p_aload 20 c166_19 rfl rfl ?_
      refine p_getR 23 c166_20 rfl kf376_22 ?_
      refine p_aload 24 c166_23 rfl rfl ?_
      refine p_getX 27 (m 376 18) c166_24 rfl kf376_18 rfl ?_
      refine p_iaX 28 (m 385 (m 376 18).toNat) c166_27 rfl ka385 (hR.rg _ _) rfl (fun hx6152 => ?_)
      refine p_iconst 29 c166_28 rfl ?_
      refine p_isub 30 c166_29 rfl ?_
      refine p_cX 33 [yI x2, yI 0, yI (wr ((m 385 (m 376 18).toNat) - 1))] [.ref 376] c166_30 rfl rfl rfl (fun k' hk' d' => d22 gx2 (rgD rfl) (rg_wr _) hR) (fun hg6155 n6154 k6153 hk6153 => ?_)
      refine p_if 40 36 c166_33 rfl rfl (yz_eq hg6155) (fun hb6156 k6157 hk6157 => ?_) (fun hb6156 k6158 hk6158 => ?_)
      · have hX6159 := hX6151.trans (if_pos hb6156)
        exact tJ166_40 (f := f) (by omega) gx1 gx2 gx3 hR (fun r' m' e' => Hr r' m' (hX6159.trans e'))
      · have hX6160 := hX6151.trans (if_neg hb6156)
        refine p_iconst 37 c166_36 rfl ?_
        refine p_goto 41 c166_37 rfl ?_
        exact tJ166_41 (f := f) (by omega) gx1 gx2 gx3 (rgD rfl) hR (fun r' m' e' => Hr r' m' (hX6160.trans e'))
def F167 (x1 : Int) (m : yM) : Int := (F155 x1 (m (pA (m 0 4)) 10))
set_option maxRecDepth 100000 in
theorem d167 {L : Nat} {xs : Nat → Int32} {k d n : Nat} {c : yS3} {x1 : Int} {m : yM} (gx1 : rg x1) (hR : RM c m) : PC (gZ L xs) k d 167 [.ref 0, yI x1] m n (qX m (F167 x1 m)) := by
  have hX : F167 x1 m = F167 x1 m := rfl
  have Hr : ∀ r, F167 x1 m = r → rg r → ∀ n' : Nat, (qX m (F167 x1 m)) (.inl (some (yI r))) m n' := fun r e h n' => by subst e; exact ⟨rfl, h, rfl⟩
  refine PC.mk [some (.ref 0), some (yI x1)] kn167 rfl ?_
  refine p_iload 1 c167_0 rfl rfl ?_
  refine p_aload 2 c167_1 rfl rfl ?_
  refine p_getV 5 (.ref (pA (m 0 4))) c167_2 rfl kf0_4 (pA_sv2 hR.2.1 rfl) ?_
  refine p_getX 8 (m (pA (m 0 4)) 10) c167_5 rfl (kP_10 (pA_is _)) rfl ?_
  refine p_cX 11 [yI x1, yI (m (pA (m 0 4)) 10)] [] c167_8 rfl rfl rfl (fun k' hk' d' => d155 gx1 (hR.rg _ _) hR) (fun hg6188 n6187 k6186 hk6186 => ?_)
  exact p_ireturn c167_11 (Hr _ hX hg6188 _)
def J168_22 (f : Nat) (m : yM) : Option ((Int ⊕ Nat) × yM) := (some (.inr 11, m))
set_option maxRecDepth 100000 in
theorem tJ168_22 {L : Nat} {xs : Nat → Int32} {Q : xO → yM → Nat → Prop} {k d n : Nat} {c : yS3} {f : Nat} {m : yM} {j0 j1 j2 : Option Value} (hk : k ≤ f) (hR : RM c m) (Hr : ∀ r m', J168_22 f m = some (.inl r, m') → rg r → RM c m' → ∀ n', Q (.inl (some (yI r))) m' n') (Ht : ∀ e m', J168_22 f m = some (.inr e, m') → (fun e => e = 11) e → RM c m' → ∀ x n', Q (.inr (e, x)) m' n') : PW (gZ L xs) k 168 d 22 [j0, j1, j2] [] m n Q := by
  have hX : J168_22 f m = J168_22 f m := rfl
  exact p_throw c168_22 (fun x n' => Ht _ _ hX rfl hR x n')
def F168 (f : Nat) (x1 : Int) (x2 : Int) (m : yM) : Option ((Int ⊕ Nat) × yM) := (if F155 x1 (m (pA (m 0 4)) 12) = 0 then (J168_22 f m) else (if F167 x2 m = 0 then (J168_22 f m) else (if 0 ≤ x1 ∧ x1 < ((12 : Nat) : Int) then (some (.inl (m (59 + (x1).toNat) x2.toNat), m)) else none)))
set_option maxRecDepth 100000 in
theorem d168 {L : Nat} {xs : Nat → Int32} {k d n : Nat} {c : yS3} {f : Nat} {x1 : Int} {x2 : Int} {m : yM} (hk : k ≤ f) (gx1 : rg x1) (gx2 : rg x2) (hR : RM c m) : PC (gZ L xs) k d 168 [.ref 0, yI x1, yI x2] m n (qEI (fun e => e = 11) c (F168 f x1 x2 m)) := by
  have hX : F168 f x1 x2 m = F168 f x1 x2 m := rfl
  have Hr : ∀ r m', F168 f x1 x2 m = some (.inl r, m') → rg r → RM c m' → ∀ n' : Nat, (qEI (fun e => e = 11) c (F168 f x1 x2 m)) (.inl (some (yI r))) m' n' := fun r m' e h1 h2 n' => Or.inl ⟨r, rfl, h1, h2, e⟩
  have Ht : ∀ e m', F168 f x1 x2 m = some (.inr e, m') → (fun e => e = 11) e → RM c m' → ∀ x n' : Nat, (qEI (fun e => e = 11) c (F168 f x1 x2 m)) (.inr (e, x)) m' n' := fun e m' e1 h1 h2 x n' => Or.inr ⟨e, x, rfl, h1, h2, e1⟩
  refine PC.mk [some (.ref 0), some (yI x1), some (yI x2)] kn168 rfl ?_
  refine p_iload 1 c168_0 rfl rfl ?_
  refine p_aload 2 c168_1 rfl rfl ?_
  refine p_getV 5 (.ref (pA (m 0 4))) c168_2 rfl kf0_4 (pA_sv2 hR.2.1 rfl) ?_
  refine p_getX 8 (m (pA (m 0 4)) 12) c168_5 rfl (kP_12 (pA_is _)) rfl ?_
  refine p_cX 11 [yI x1, yI (m (pA (m 0 4)) 12)] [] c168_8 rfl rfl rfl (fun k' hk' d' => d155 gx1 (hR.rg _ _) hR) (fun hg6178 n6177 k6176 hk6176 => ?_)
  refine p_if 22 14 c168_11 rfl rfl (yz_eq hg6178) (fun hb6179 k6180 hk6180 => ?_) (fun hb6179 k6181 hk6181 => ?_)
  · have hX6182 := hX.trans (if_pos hb6179)
    exact tJ168_22 (f := f) (by omega) hR (fun r' m' e' => Hr r' m' (hX6182.trans e')) (fun r' m' e' => Ht r' m' (hX6182.trans e'))
  · have hX6183 := hX.trans (if_neg hb6179)
    refine p_aload 15 c168_14 rfl rfl ?_
    refine p_iload 16 c168_15 rfl rfl ?_
    refine p_cX 19 [.ref 0, yI x2] [] c168_16 rfl rfl rfl (fun k' hk' d' => d167 gx2 hR) (fun hg6189 n6185 k6184 hk6184 => ?_)
    refine p_if 30 22 c168_19 rfl rfl (yz_ne hg6189) (fun hb6190 k6191 hk6191 => ?_) (fun hb6190 k6192 hk6192 => ?_)
    · have hX6193 := hX6183.trans (if_neg hb6190)
      refine p_aload 31 c168_30 rfl rfl ?_
      refine p_getR 34 c168_31 rfl kf0_2 ?_
      refine p_getR 37 c168_34 rfl kf8_1 ?_
      refine p_iload 38 c168_37 rfl rfl ?_
      refine p_aaX 39 c168_38 rfl kr58 gx1 (fun hx6194 => ?_)
      have hX6195 := hX6193.trans (if_pos hx6194)
      refine p_iload 40 c168_39 rfl rfl ?_
      refine p_iaX 41 (m (59 + (x1).toNat) x2.toNat) c168_40 rfl (kR58 hx6194) gx2 rfl (fun hx6196 => ?_)
      exact p_ireturn c168_41 (Hr _ _ hX6195 (hR.rg _ _) hR _)
    · have hX6197 := hX6183.trans (if_pos (Classical.not_not.mp hb6190))
      exact tJ168_22 (f := f) (by omega) hR (fun r' m' e' => Hr r' m' (hX6197.trans e')) (fun r' m' e' => Ht r' m' (hX6197.trans e'))
def F169 (f : Nat) (x1 : Int) (x2 : Int) (m : yM) : Option (Int × yM) := (bT (F168 f x1 x2 m) (fun r6200 m6202 => (some (0, yup m6202 413 0 ((i2l r6200).toInt)))) (fun e' m6202 => (if e' = 11 then (some (1, m6202)) else none)))
set_option maxRecDepth 100000 in
theorem d169 {L : Nat} {xs : Nat → Int32} {k d n : Nat} {c : yS3} {f : Nat} {x1 : Int} {x2 : Int} {m : yM} (hk : k ≤ f) (gx1 : rg x1) (gx2 : rg x2) (hR : RM c m) : PC (gZ L xs) k d 169 [.ref 0, yI x1, yI x2, .ref 413] m n (qS c (F169 f x1 x2 m)) := by
  have hX : F169 f x1 x2 m = F169 f x1 x2 m := rfl
  have Hr : ∀ r m', F169 f x1 x2 m = some (r, m') → rg r → RM c m' → ∀ n' : Nat, (qS c (F169 f x1 x2 m)) (.inl (some (yI r))) m' n' := fun r m' e h1 h2 n' => ⟨r, rfl, h1, h2, e⟩
  refine PC.mk [some (.ref 0), some (yI x1), some (yI x2), some (.ref 413), none] kn169 rfl ?_
  refine p_aload 1 c169_0 rfl rfl ?_
  refine p_iconst 2 c169_1 rfl ?_
  refine p_aload 3 c169_2 rfl rfl ?_
  refine p_iload 4 c169_3 rfl rfl ?_
  refine p_iload 5 c169_4 rfl rfl ?_
  refine p_cTI 8 [.ref 0, yI x1, yI x2] [yI 0, .ref 413] c169_5 rfl rfl rfl (fun k' hk' d' => d168 (f := f) (by omega) gx1 gx2 hR) (fun r6200 m6202 hF6198 hg6199 hR6203 n6175 k6174 hk6174 => ?_) (fun e' q6207 m6202 n' hF6198 hE6205 hR6206 => ?_)
  · have hX6201 := hX.trans (bT_l hF6198)
    refine p_i2l 9 c169_8 rfl ?_
    refine p_laS 10 c169_9 rfl kl413 (rgD rfl) (fun hx6208 => ?_)
    have hR6209 := hR6203.up 413 0 (v := (i2l r6200).toInt) (nselD rfl) (rg_i2l _)
    refine p_goto 17 c169_10 rfl ?_
    refine p_iconst 18 c169_17 rfl ?_
    exact p_ireturn c169_18 (Hr _ _ hX6201 (rgD rfl) hR6209 _)
  · have hXe := hX.trans (bT_r hF6198)
    cases (show e' = 11 from hE6205)
    have hX6210 := hXe.trans (if_pos rfl)
    refine ⟨fun pq hpq k6211 hk6211 => ?_, fun hno => absurd (r_kh169_5_11.symm.trans hno) (by simp)⟩
    have hpp : pq = 13 := by have := r_kh169_5_11.symm.trans hpq; simpa using this.symm
    subst hpp
    refine p_astore 15 c169_13 rfl rfl ?_
    refine p_iconst 16 c169_15 rfl ?_
    exact p_ireturn c169_16 (Hr _ _ hX6210 (rgD rfl) hR6206 _)
def F170 (x1 : Int) (m : yM) : Int := (if m 376 19 = 0 then 0 else (if F22 x1 0 (wr ((m 384 (m 376 18).toNat) - 1)) = 0 then 0 else 1))
set_option maxRecDepth 100000 in
theorem d170 {L : Nat} {xs : Nat → Int32} {k d n : Nat} {c : yS3} {x1 : Int} {m : yM} (gx1 : rg x1) (hR : RM c m) : PC (gZ L xs) k d 170 [.ref 376, yI x1] m n (qX m (F170 x1 m)) := by
  have hX : F170 x1 m = F170 x1 m := rfl
  have Hr : ∀ r, F170 x1 m = r → rg r → ∀ n' : Nat, (qX m (F170 x1 m)) (.inl (some (yI r))) m n' := fun r e h n' => by subst e; exact ⟨rfl, h, rfl⟩
  refine PC.mk [some (.ref 376), some (yI x1)] kn170 rfl ?_
  refine p_aload 1 c170_0 rfl rfl ?_
  refine p_getX 4 (m 376 19) c170_1 rfl kf376_19 rfl ?_
  refine p_if 30 7 c170_4 rfl rfl (yz_eq (hR.rg _ _)) (fun hb6224 k6225 hk6225 => ?_) (fun hb6224 k6226 hk6226 => ?_)
  · have hX6227 := hX.trans (if_pos hb6224)
    refine p_iconst 31 c170_30 rfl ?_
    exact p_ireturn c170_31 (Hr _ hX6227 (rgD rfl) _)
  · have hX6228 := hX.trans (if_neg hb6224)
    refine p_iload 8 c170_7 rfl rfl ?_
    refine p_iconst 9 c170_8 rfl ?_
    refine p_aload 10 c170_9 rfl rfl ?_
    refine p_getR 13 c170_10 rfl kf376_21 ?_
    refine p_aload 14 c170_13 rfl rfl ?_
    refine p_getX 17 (m 376 18) c170_14 rfl kf376_18 rfl ?_
    refine p_iaX 18 (m 384 (m 376 18).toNat) c170_17 rfl ka384 (hR.rg _ _) rfl (fun hx6229 => ?_)
    refine p_iconst 19 c170_18 rfl ?_
    refine p_isub 20 c170_19 rfl ?_
    refine p_cX 23 [yI x1, yI 0, yI (wr ((m 384 (m 376 18).toNat) - 1))] [] c170_20 rfl rfl rfl (fun k' hk' d' => d22 gx1 (rgD rfl) (rg_wr _) hR) (fun hg6232 n6231 k6230 hk6230 => ?_)
    refine p_if 30 26 c170_23 rfl rfl (yz_eq hg6232) (fun hb6233 k6234 hk6234 => ?_) (fun hb6233 k6235 hk6235 => ?_)
    · have hX6236 := hX6228.trans (if_pos hb6233)
      refine p_iconst 31 c170_30 rfl ?_
      exact p_ireturn c170_31 (Hr _ hX6236 (rgD rfl) _)
    · have hX6237 := hX6228.trans (if_neg hb6233)
      refine p_iconst 27 c170_26 rfl ?_
      refine p_goto 31 c170_27 rfl ?_
      exact p_ireturn c170_31 (Hr _ hX6237 (rgD rfl) _)
def J171_33 (f : Nat) (x1 : Int) (x2 : Int) (xs1 : Int) (m : yM) : Option (Int × yM) := (bI (F162 f xs1 m) (fun r6247 m6249 => (if r6247 = 0 then (some (0, m6249)) else (some (m6249 406 (wr ((wr (10 * x1)) + x2)).toNat, m6249)))))
set_option maxRecDepth 100000 in
theorem tJ171_33 {L : Nat} {xs : Nat → Int32} {Q : xO → yM → Nat → Prop} {k d n : Nat} {c : yS3} {f : Nat} {x1 : Int} {x2 : Int} {xs1 : Int} {m : yM} (hk : k ≤ f) (gx1 : rg x1) (gx2 : rg x2) (gxs1 : rg xs1) (hR : RM c m) (Hr : ∀ r m', J171_33 f x1 x2 xs1 m = some (r, m') → rg r → RM c m' → ∀ n', Q (.inl (some (yI r))) m' n') : PW (gZ L xs) k 171 d 33 [some (.ref 376), some (yI x1), some (yI x2)] [yI xs1, .ref 376] m n Q := by
  have hX : J171_33 f x1 x2 xs1 m = J171_33 f x1 x2 xs1 m := rfl
  refine p_cS 36 [.ref 376, yI xs1] [] c171_33 rfl rfl rfl (fun k' hk' d' => d162 (f := f) (by omega) gxs1 hR) (fun r6247 m6249 hF6245 hg6246 hR6250 n6244 k6243 hk6243 => ?_)
  have hX6248 := hX.trans (bI_s hF6245)
  refine p_if 53 39 c171_36 rfl rfl (yz_eq hg6246) (fun hb6251 k6252 hk6252 => ?_) (fun hb6251 k6253 hk6253 => ?_)
  · have hX6254 := hX6248.trans (if_pos hb6251)
    refine p_iconst 54 c171_53 rfl ?_
    exact p_ireturn c171_54 (Hr _ _ hX6254 (rgD rfl) hR6250 _)
  · have hX6255 := hX6248.trans (if_neg hb6251)
    refine p_aload 40 c171_39 rfl rfl ?_
    refine p_getR 43 c171_40 rfl kf376_43 ?_
    refine p_iconst 45 c171_43 rfl ?_
    refine p_iload 46 c171_45 rfl rfl ?_
    refine p_imul 47 c171_46 rfl ?_
    refine p_iload 48 c171_47 rfl rfl ?_
    refine p_iadd 49 c171_48 rfl ?_
    refine p_iaX 50 (m6249 406 (wr ((wr (10 * x1)) + x2)).toNat) c171_49 rfl ka406 (rg_wr _) rfl (fun hx6256 => ?_)
    refine p_goto 54 c171_50 rfl ?_
    exact p_ireturn c171_54 (Hr _ _ hX6255 (hR6250.rg _ _) hR6250 _)
def J171_32 (f : Nat) (x1 : Int) (x2 : Int) (m : yM) : Option (Int × yM) := (J171_33 f x1 x2 0 m)
set_option maxRecDepth 100000 in
theorem tJ171_32 {L : Nat} {xs : Nat → Int32} {Q : xO → yM → Nat → Prop} {k d n : Nat} {c : yS3} {f : Nat} {x1 : Int} {x2 : Int} {m : yM} (hk : k ≤ f) (gx1 : rg x1) (gx2 : rg x2) (hR : RM c m) (Hr : ∀ r m', J171_32 f x1 x2 m = some (r, m') → rg r → RM c m' → ∀ n', Q (.inl (some (yI r))) m' n') : PW (gZ L xs) k 171 d 32 [some (.ref 376), some (yI x1), some (yI x2)] [.ref 376] m n Q := by
  have hX : J171_32 f x1 x2 m = J171_32 f x1 x2 m := rfl
  refine p_iconst 33 c171_32 rfl ?_
  exact tJ171_33 (f := f) (by omega) gx1 gx2 (rgD rfl) hR (fun r' m' e' => Hr r' m' (hX.trans e'))
def F171 (f : Nat) (x1 : Int) (x2 : Int) (m : yM) : Option (Int × yM) := (if F170 x2 m = 0 then (J171_32 f x1 x2 m) else (if F22 x1 0 (wr ((m 386 (m 376 18).toNat) - 1)) = 0 then (J171_32 f x1 x2 m) else (J171_33 f x1 x2 1 m)))
set_option maxRecDepth 100000 in
theorem d171 {L : Nat} {xs : Nat → Int32} {k d n : Nat} {c : yS3} {f : Nat} {x1 : Int} {x2 : Int} {m : yM} (hk : k ≤ f) (gx1 : rg x1) (gx2 : rg x2) (hR : RM c m) : PC (gZ L xs) k d 171 [.ref 376, yI x1, yI x2] m n (qS c (F171 f x1 x2 m)) := by
  have hX : F171 f x1 x2 m = F171 f x1 x2 m := rfl
  have Hr : ∀ r m', F171 f x1 x2 m = some (r, m') → rg r → RM c m' → ∀ n' : Nat, (qS c (F171 f x1 x2 m)) (.inl (some (yI r))) m' n' := fun r m' e h1 h2 n' => ⟨r, rfl, h1, h2, e⟩
  refine PC.mk [some (.ref 376), some (yI x1), some (yI x2)] kn171 rfl ?_
  refine p_aload 1 c171_0 rfl rfl ?_
  refine p_aload 2 c171_1 rfl rfl ?_
  refine p_iload 3 c171_2 rfl rfl ?_
  refine p_cX 6 [.ref 376, yI x2] [.ref 376] c171_3 rfl rfl rfl (fun k' hk' d' => d170 gx2 hR) (fun hg6238 n6223 k6222 hk6222 => ?_)
  refine p_if 32 9 c171_6 rfl rfl (yz_eq hg6238) (fun hb6239 k6240 hk6240 => ?_) (fun hb6239 k6241 hk6241 => ?_)
  · have hX6242 := hX.trans (if_pos hb6239)
    exact tJ171_32 (f := f) (by omega) gx1 gx2 hR (fun r' m' e' => Hr r' m' (hX6242.trans e'))
  · have hX6257 := hX.trans (if_neg hb6239)
    refine p_iload 10 c171_9 rfl rfl ?_
    refine p_iconst 11 c171_10 rfl ?_
    refine p_aload 12 c171_11 rfl rfl ?_
    refine p_getR 15 c171_12 rfl kf376_23 ?_
    refine p_aload 16 c171_15 rfl rfl ?_
    refine p_getX 19 (m 376 18) c171_16 rfl kf376_18 rfl ?_
    refine p_iaX 20 (m 386 (m 376 18).toNat) c171_19 rfl ka386 (hR.rg _ _) rfl (fun hx6258 => ?_)
    refine p_iconst 21 c171_20 rfl ?_
    refine p_isub 22 c171_21 rfl ?_
    refine p_cX 25 [yI x1, yI 0, yI (wr ((m 386 (m 376 18).toNat) - 1))] [.ref 376] c171_22 rfl rfl rfl (fun k' hk' d' => d22 gx1 (rgD rfl) (rg_wr _) hR) (fun hg6261 n6260 k6259 hk6259 => ?_)
    refine p_if 32 28 c171_25 rfl rfl (yz_eq hg6261) (fun hb6262 k6263 hk6263 => ?_) (fun hb6262 k6264 hk6264 => ?_)
    · have hX6265 := hX6257.trans (if_pos hb6262)
      exact tJ171_32 (f := f) (by omega) gx1 gx2 hR (fun r' m' e' => Hr r' m' (hX6265.trans e'))
    · have hX6266 := hX6257.trans (if_neg hb6262)
      refine p_iconst 29 c171_28 rfl ?_
      refine p_goto 33 c171_29 rfl ?_
      exact tJ171_33 (f := f) (by omega) gx1 gx2 (rgD rfl) hR (fun r' m' e' => Hr r' m' (hX6266.trans e'))
def F172 (f : Nat) (x1 : Int) (m : yM) : Option ((Int ⊕ Nat) × yM) := (if F167 x1 m = 0 then (some (.inr 11, m)) else (some (.inl (m 71 x1.toNat), m)))
set_option maxRecDepth 100000 in
theorem d172 {L : Nat} {xs : Nat → Int32} {k d n : Nat} {c : yS3} {f : Nat} {x1 : Int} {m : yM} (hk : k ≤ f) (gx1 : rg x1) (hR : RM c m) : PC (gZ L xs) k d 172 [.ref 0, yI x1] m n (qEI (fun e => e = 11) c (F172 f x1 m)) := by
  have hX : F172 f x1 m = F172 f x1 m := rfl
  have Hr : ∀ r m', F172 f x1 m = some (.inl r, m') → rg r → RM c m' → ∀ n' : Nat, (qEI (fun e => e = 11) c (F172 f x1 m)) (.inl (some (yI r))) m' n' := fun r m' e h1 h2 n' => Or.inl ⟨r, rfl, h1, h2, e⟩
  have Ht : ∀ e m', F172 f x1 m = some (.inr e, m') → (fun e => e = 11) e → RM c m' → ∀ x n' : Nat, (qEI (fun e => e = 11) c (F172 f x1 m)) (.inr (e, x)) m' n' := fun e m' e1 h1 h2 x n' => Or.inr ⟨e, x, rfl, h1, h2, e1⟩
  refine PC.mk [some (.ref 0), some (yI x1)] kn172 rfl ?_
  refine p_aload 1 c172_0 rfl rfl ?_
  refine p_iload 2 c172_1 rfl rfl ?_
  refine p_cX 5 [.ref 0, yI x1] [] c172_2 rfl rfl rfl (fun k' hk' d' => d167 gx1 hR) (fun hg6283 n6282 k6281 hk6281 => ?_)
  refine p_if 16 8 c172_5 rfl rfl (yz_ne hg6283) (fun hb6284 k6285 hk6285 => ?_) (fun hb6284 k6286 hk6286 => ?_)
  · have hX6287 := hX.trans (if_neg hb6284)
    refine p_aload 17 c172_16 rfl rfl ?_
    refine p_getR 20 c172_17 rfl kf0_2 ?_
    refine p_getR 23 c172_20 rfl kf8_2 ?_
    refine p_iload 24 c172_23 rfl rfl ?_
    refine p_iaX 25 (m 71 x1.toNat) c172_24 rfl ka71 gx1 rfl (fun hx6288 => ?_)
    exact p_ireturn c172_25 (Hr _ _ hX6287 (hR.rg _ _) hR _)
  · have hX6289 := hX.trans (if_pos (Classical.not_not.mp hb6284))
    exact p_throw c172_8 (fun x n' => Ht _ _ hX6289 rfl hR x n')
def F173 (f : Nat) (x1 : Int) (m : yM) : Option (Int × yM) := (bT (F172 f x1 m) (fun r6292 m6294 => (some (0, yup m6294 413 0 ((i2l r6292).toInt)))) (fun e' m6294 => (if e' = 11 then (some (1, m6294)) else none)))
set_option maxRecDepth 100000 in
theorem d173 {L : Nat} {xs : Nat → Int32} {k d n : Nat} {c : yS3} {f : Nat} {x1 : Int} {m : yM} (hk : k ≤ f) (gx1 : rg x1) (hR : RM c m) : PC (gZ L xs) k d 173 [.ref 0, yI x1, .ref 413] m n (qS c (F173 f x1 m)) := by
  have hX : F173 f x1 m = F173 f x1 m := rfl
  have Hr : ∀ r m', F173 f x1 m = some (r, m') → rg r → RM c m' → ∀ n' : Nat, (qS c (F173 f x1 m)) (.inl (some (yI r))) m' n' := fun r m' e h1 h2 n' => ⟨r, rfl, h1, h2, e⟩
  refine PC.mk [some (.ref 0), some (yI x1), some (.ref 413), none] kn173 rfl ?_
  refine p_aload 1 c173_0 rfl rfl ?_
  refine p_iconst 2 c173_1 rfl ?_
  refine p_aload 3 c173_2 rfl rfl ?_
  refine p_iload 4 c173_3 rfl rfl ?_
  refine p_cTI 7 [.ref 0, yI x1] [yI 0, .ref 413] c173_4 rfl rfl rfl (fun k' hk' d' => d172 (f := f) (by omega) gx1 hR) (fun r6292 m6294 hF6290 hg6291 hR6295 n6280 k6279 hk6279 => ?_) (fun e' q6299 m6294 n' hF6290 hE6297 hR6298 => ?_)
  · have hX6293 := hX.trans (bT_l hF6290)
    refine p_i2l 8 c173_7 rfl ?_
    refine p_laS 9 c173_8 rfl kl413 (rgD rfl) (fun hx6300 => ?_)
    have hR6301 := hR6295.up 413 0 (v := (i2l r6292).toInt) (nselD rfl) (rg_i2l _)
    refine p_goto 15 c173_9 rfl ?_
    refine p_iconst 16 c173_15 rfl ?_
    exact p_ireturn c173_16 (Hr _ _ hX6293 (rgD rfl) hR6301 _)
  · have hXe := hX.trans (bT_r hF6290)
    cases (show e' = 11 from hE6297)
    have hX6302 := hXe.trans (if_pos rfl)
    refine ⟨fun pq hpq k6303 hk6303 => ?_, fun hno => absurd (r_kh173_4_11.symm.trans hno) (by simp)⟩
    have hpp : pq = 12 := by have := r_kh173_4_11.symm.trans hpq; simpa using this.symm
    subst hpp
    refine p_astore 13 c173_12 rfl rfl ?_
    refine p_iconst 14 c173_13 rfl ?_
    exact p_ireturn c173_14 (Hr _ _ hX6302 (rgD rfl) hR6298 _)
def F174 (f : Nat) (x1 : Int) (m : yM) : Option (Int × yM) := (bI (F162 f (F170 x1 m) m) (fun r6320 m6322 => (if r6320 = 0 then (some (0, m6322)) else (some (m6322 407 x1.toNat, m6322)))))
set_option maxRecDepth 100000 in
theorem d174 {L : Nat} {xs : Nat → Int32} {k d n : Nat} {c : yS3} {f : Nat} {x1 : Int} {m : yM} (hk : k ≤ f) (gx1 : rg x1) (hR : RM c m) : PC (gZ L xs) k d 174 [.ref 376, yI x1] m n (qS c (F174 f x1 m)) := by
  have hX : F174 f x1 m = F174 f x1 m := rfl
  have Hr : ∀ r m', F174 f x1 m = some (r, m') → rg r → RM c m' → ∀ n' : Nat, (qS c (F174 f x1 m)) (.inl (some (yI r))) m' n' := fun r m' e h1 h2 n' => ⟨r, rfl, h1, h2, e⟩
  refine PC.mk [some (.ref 376), some (yI x1)] kn174 rfl ?_
  refine p_aload 1 c174_0 rfl rfl ?_
  refine p_aload 2 c174_1 rfl rfl ?_
  refine p_iload 3 c174_2 rfl rfl ?_
  refine p_cX 6 [.ref 376, yI x1] [.ref 376] c174_3 rfl rfl rfl (fun k' hk' d' => d170 gx1 hR) (fun hg6315 n6314 k6313 hk6313 => ?_)
  refine p_cS 9 [.ref 376, yI (F170 x1 m)] [] c174_6 rfl rfl rfl (fun k' hk' d' => d162 (f := f) (by omega) hg6315 hR) (fun r6320 m6322 hF6318 hg6319 hR6323 n6317 k6316 hk6316 => ?_)
  have hX6321 := hX.trans (bI_s hF6318)
  refine p_if 21 12 c174_9 rfl rfl (yz_eq hg6319) (fun hb6324 k6325 hk6325 => ?_) (fun hb6324 k6326 hk6326 => ?_)
  · have hX6327 := hX6321.trans (if_pos hb6324)
    refine p_iconst 22 c174_21 rfl ?_
    exact p_ireturn c174_22 (Hr _ _ hX6327 (rgD rfl) hR6323 _)
  · have hX6328 := hX6321.trans (if_neg hb6324)
    refine p_aload 13 c174_12 rfl rfl ?_
    refine p_getR 16 c174_13 rfl kf376_44 ?_
    refine p_iload 17 c174_16 rfl rfl ?_
    refine p_iaX 18 (m6322 407 x1.toNat) c174_17 rfl ka407 gx1 rfl (fun hx6329 => ?_)
    refine p_goto 22 c174_18 rfl ?_
    exact p_ireturn c174_22 (Hr _ _ hX6328 (hR6323.rg _ _) hR6323 _)
def J175_53 (f : Nat) (A : Nat) (a1 : Nat) (x2 : Int) : Option (Int ⊕ (Int ⊕ Int)) := (some (.inl (wr (x2 + 1))))
set_option maxRecDepth 100000 in
theorem tJ175_53 {L : Nat} {xs : Nat → Int32} {Q : xO → yM → Nat → Prop} {k d n : Nat} {c : yS3} {f : Nat} {A : Nat} {a1 : Nat} {x2 : Int} {m : yM} (hk : k ≤ f) (hc : c.2.1 = pX A) (hA : (A = 256 ∨ A = 316)) (hs1 : (276 ≤ a1 ∧ a1 < 316) ∨ (336 ≤ a1 ∧ a1 < 376)) (gx2 : rg x2) (hR : RM c m) (Hn : ∀ (y0 : Int) (n' : Nat), J175_53 f A a1 x2 = some (.inl y0) → rg y0 → ∀ k', k' < k → PW (gZ L xs) k' 175 d 2 [some (.ref 8), some (.ref a1), some (yI y0)] [] m n' Q) (He : ∀ (y0 : Int) (n' : Nat), J175_53 f A a1 x2 = some (.inr (.inl y0)) → rg y0 → ∀ k', k' ≤ k → PW (gZ L xs) k' 175 d 59 [some (.ref 8), some (.ref a1), some (yI y0)] [] m n' Q) (Hr : ∀ r, J175_53 f A a1 x2 = some (.inr (.inr r)) → rg r → ∀ n', Q (.inl (some (yI r))) m n') : PW (gZ L xs) k 175 d 53 [some (.ref 8), some (.ref a1), some (yI x2)] [] m n Q := by
  have hX : J175_53 f A a1 x2 = J175_53 f A a1 x2 := rfl
  refine p_iinc 56 c175_53 rfl rfl rfl ?_
  refine p_gotoD 2 c175_56 rfl (fun k6368 hk6368 => ?_)
  exact Hn _ _ hX (rg_wr _) _ (by omega)
def B175_2 (f : Nat) (A : Nat) (a1 : Nat) (x2 : Int) (m : yM) : Option (Int ⊕ (Int ⊕ Int)) := (if x2 < m A 14 then (if 0 ≤ (m a1 3) ∧ (m a1 3) < ((48 : Nat) : Int) then (if m (10 + (m a1 3).toNat) x2.toNat = (-1) then (J175_53 f A a1 x2) else (bP (F81 f A (m (A + 8) x2.toNat) (m a1 7) m) (fun r6375 => (if r6375 = 0 then (some (.inr (.inr 0))) else (J175_53 f A a1 x2))))) else none) else (some (.inr (.inl x2))))
set_option maxRecDepth 100000 in
theorem tB175_2 {L : Nat} {xs : Nat → Int32} {Q : xO → yM → Nat → Prop} {k d n : Nat} {c : yS3} {f : Nat} {A : Nat} {a1 : Nat} {x2 : Int} {m : yM} (hk : k ≤ f) (hc : c.2.1 = pX A) (hA : (A = 256 ∨ A = 316)) (hs1 : (276 ≤ a1 ∧ a1 < 316) ∨ (336 ≤ a1 ∧ a1 < 376)) (gx2 : rg x2) (hR : RM c m) (Hn : ∀ (y0 : Int) (n' : Nat), B175_2 f A a1 x2 m = some (.inl y0) → rg y0 → ∀ k', k' < k → PW (gZ L xs) k' 175 d 2 [some (.ref 8), some (.ref a1), some (yI y0)] [] m n' Q) (He : ∀ (y0 : Int) (n' : Nat), B175_2 f A a1 x2 m = some (.inr (.inl y0)) → rg y0 → ∀ k', k' ≤ k → PW (gZ L xs) k' 175 d 59 [some (.ref 8), some (.ref a1), some (yI y0)] [] m n' Q) (Hr : ∀ r, B175_2 f A a1 x2 m = some (.inr (.inr r)) → rg r → ∀ n', Q (.inl (some (yI r))) m n') : PW (gZ L xs) k 175 d 2 [some (.ref 8), some (.ref a1), some (yI x2)] [] m n Q := by
  have hX : B175_2 f A a1 x2 m = B175_2 f A a1 x2 m := rfl
  refine p_iload 3 c175_2 rfl rfl ?_
  refine p_aload 4 c175_3 rfl rfl ?_
  refine p_getV 7 (.ref A) c175_4 rfl kf8_4 (pX_of hA hR.2.2.2.2.1 hc) ?_
  refine p_getX 10 (m A 14) c175_7 rfl (kP_14 hA) rfl ?_
  refine p_icmp 59 13 c175_10 rfl rfl ((yc_ge gx2 (hR.rg _ _)).trans Int.not_lt.symm) (fun hb6356 k6357 hk6357 => ?_) (fun hb6356 k6358 hk6358 => ?_)
  · have hX6359 := hX.trans (if_neg hb6356)
    exact He _ _ hX6359 gx2 _ (by omega)
  · have hX6360 := hX.trans (if_pos (Classical.not_not.mp hb6356))
    refine p_aload 14 c175_13 rfl rfl ?_
    refine p_getR 17 c175_14 rfl kf8_0 ?_
    refine p_aload 18 c175_17 rfl rfl ?_
    refine p_getX 21 (m a1 3) c175_18 rfl (kS_3 hs1) rfl ?_
    refine p_aaX 22 c175_21 rfl kr9 (hR.rg _ _) (fun hx6361 => ?_)
    have hX6362 := hX6360.trans (if_pos hx6361)
    refine p_iload 23 c175_22 rfl rfl ?_
    refine p_iaX 24 (m (10 + (m a1 3).toNat) x2.toNat) c175_23 rfl (kR9 hx6361) gx2 rfl (fun hx6363 => ?_)
    refine p_iconst 25 c175_24 rfl ?_
    refine p_icmp 53 28 c175_25 rfl rfl (yc_eq (hR.rg _ _) (rgD rfl)) (fun hb6364 k6365 hk6365 => ?_) (fun hb6364 k6366 hk6366 => ?_)
    · have hX6367 := hX6362.trans (if_pos hb6364)
      exact tJ175_53 (f := f) (by omega) hc hA hs1 gx2 hR (fun y0 n' e' h0 k' hk' => Hn y0 n' (hX6367.trans e') h0 k' (by omega)) (fun y0 n' e' h0 k' hk' => He y0 n' (hX6367.trans e') h0 k' (by omega)) (fun r' e' => Hr r' (hX6367.trans e'))
    · have hX6369 := hX6362.trans (if_neg hb6364)
      refine p_aload 29 c175_28 rfl rfl ?_
      refine p_getV 32 (.ref A) c175_29 rfl kf8_4 (pX_of hA hR.2.2.2.2.1 hc) ?_
      refine p_aload 33 c175_32 rfl rfl ?_
      refine p_getV 36 (.ref A) c175_33 rfl kf8_4 (pX_of hA hR.2.2.2.2.1 hc) ?_
      refine p_getR 39 c175_36 rfl (kP_7 hA) ?_
      refine p_iload 40 c175_39 rfl rfl ?_
      refine p_iaX 41 (m (A + 8) x2.toNat) c175_40 rfl (kPa_8 hA) gx2 rfl (fun hx6370 => ?_)
      refine p_aload 42 c175_41 rfl rfl ?_
      refine p_getX 45 (m a1 7) c175_42 rfl (kS_7 hs1) rfl ?_
      refine p_cO 48 [.ref A, yI (m (A + 8) x2.toNat), yI (m a1 7)] [] c175_45 rfl rfl rfl (fun k' hk' d' => d81 (f := f) (by omega) hA (hR.rg _ _) (hR.rg _ _) hR) (fun r6375 hF6373 hg6374 n6372 k6371 hk6371 => ?_)
      have hX6376 := hX6369.trans (bP_s hF6373)
      refine p_if 53 51 c175_48 rfl rfl (yz_ne hg6374) (fun hb6377 k6378 hk6378 => ?_) (fun hb6377 k6379 hk6379 => ?_)
      · have hX6380 := hX6376.trans (if_neg hb6377)
        exact tJ175_53 (f := f) (by omega) hc hA hs1 gx2 hR (fun y0 n' e' h0 k' hk' => Hn y0 n' (hX6380.trans e') h0 k' (by omega)) (fun y0 n' e' h0 k' hk' => He y0 n' (hX6380.trans e') h0 k' (by omega)) (fun r' e' => Hr r' (hX6380.trans e'))
      · have hX6381 := hX6376.trans (if_pos (Classical.not_not.mp hb6377))
        refine p_iconst 52 c175_51 rfl ?_
        exact p_ireturn c175_52 (Hr _ hX6381 (rgD rfl) _)
def F175 (f : Nat) (A : Nat) (a1 : Nat) (m : yM) : Option Int := (bQ (ploop (fun (l : Int) => B175_2 f A a1 l m) f 0) (fun l6382 => (some 1)) (fun r => some r))
set_option maxRecDepth 100000 in
theorem d175 {L : Nat} {xs : Nat → Int32} {k d n : Nat} {c : yS3} {f : Nat} {A : Nat} {a1 : Nat} {m : yM} (hk : k ≤ f) (hc : c.2.1 = pX A) (hA : (A = 256 ∨ A = 316)) (hs1 : (276 ≤ a1 ∧ a1 < 316) ∨ (336 ≤ a1 ∧ a1 < 376)) (hR : RM c m) : PC (gZ L xs) k d 175 [.ref 8, .ref a1] m n (qO m (F175 f A a1 m)) := by
  have hX : F175 f A a1 m = F175 f A a1 m := rfl
  have Hr : ∀ r, F175 f A a1 m = some r → rg r → ∀ n' : Nat, (qO m (F175 f A a1 m)) (.inl (some (yI r))) m n' := fun r e h n' => ⟨r, rfl, h, rfl, e⟩
  refine PC.mk [some (.ref 8), some (.ref a1), none] kn175 rfl ?_
  refine p_iconst 1 c175_0 rfl ?_
  refine p_istore 2 c175_1 rfl rfl ?_
  refine PW.ploop (K := k) (pce := 59) (fun (l : Int) => B175_2 f A a1 l m) (fun (l : Int) j => [some (.ref 8), some (.ref a1), some (yI l)]) (fun (l : Int) => rg l) (fun r' => rg r' → ∀ n' : Nat, (qO m (F175 f A a1 m)) (.inl (some (yI r'))) m n') (fun k' hk' l j n' hl Hn' He' Hr' => tB175_2 (f := f) (by omega) hc hA hs1 hl hR (fun y0 n2 e h0 => Hn' y0 (fun q => ([none, none, none] : List (Option Value)).getD q none) n2 e h0) (fun y0 n2 e h0 => He' y0 (fun q => ([none, none, none] : List (Option Value)).getD q none) n2 e h0) Hr') f k (by omega) (Nat.le_refl _) 0 (fun q => ([some (.ref 8), some (.ref a1), some (yI 0)] : xL).getD q none) _ (rgD rfl) (fun l6382 j6385 n6387 e6384 hl6383 k6386 hk6386 => ?_) (fun r' e' => ?_)
  · have hX6388 := hX.trans (bQ_l e6384)
    refine p_iconst 60 c175_59 rfl ?_
    exact p_ireturn c175_60 (Hr _ hX6388 (rgD rfl) _)
  · exact Hr r' (hX.trans (bQ_r e'))
def F176 (f : Nat) (x1 : Int) (m : yM) : Option ((Int ⊕ Nat) × yM) := (if F155 x1 (m (pA (m 0 4)) 13) = 0 then (some (.inr 11, m)) else (if 0 ≤ (m ((pA (m 0 4)) + 9) x1.toNat) ∧ (m ((pA (m 0 4)) + 9) x1.toNat) < ((40 : Nat) : Int) then (bP (F175 f (pA (m 8 4)) ((pA (m 0 4)) + 20 + (m ((pA (m 0 4)) + 9) x1.toNat).toNat) m) (fun r6391 => (if r6391 = 0 then (some (.inl 0, m)) else (some (.inl 1, m))))) else none))
set_option maxRecDepth 100000 in
theorem d176 {L : Nat} {xs : Nat → Int32} {k d n : Nat} {c : yS3} {f : Nat} {x1 : Int} {m : yM} (hk : k ≤ f) (gx1 : rg x1) (hR : RM c m) : PC (gZ L xs) k d 176 [.ref 0, yI x1] m n (qEI (fun e => e = 11) c (F176 f x1 m)) := by
  have hX : F176 f x1 m = F176 f x1 m := rfl
  have Hr : ∀ r m', F176 f x1 m = some (.inl r, m') → rg r → RM c m' → ∀ n' : Nat, (qEI (fun e => e = 11) c (F176 f x1 m)) (.inl (some (yI r))) m' n' := fun r m' e h1 h2 n' => Or.inl ⟨r, rfl, h1, h2, e⟩
  have Ht : ∀ e m', F176 f x1 m = some (.inr e, m') → (fun e => e = 11) e → RM c m' → ∀ x n' : Nat, (qEI (fun e => e = 11) c (F176 f x1 m)) (.inr (e, x)) m' n' := fun e m' e1 h1 h2 x n' => Or.inr ⟨e, x, rfl, h1, h2, e1⟩
  refine PC.mk [some (.ref 0), some (yI x1)] kn176 rfl ?_
  refine p_iload 1 c176_0 rfl rfl ?_
  refine p_aload 2 c176_1 rfl rfl ?_
  refine p_getV 5 (.ref (pA (m 0 4))) c176_2 rfl kf0_4 (pA_sv2 hR.2.1 rfl) ?_
  refine p_getX 8 (m (pA (m 0 4)) 13) c176_5 rfl (kP_13 (pA_is _)) rfl ?_
  refine p_cX 11 [yI x1, yI (m (pA (m 0 4)) 13)] [] c176_8 rfl rfl rfl (fun k' hk' d' => d155 gx1 (hR.rg _ _) hR) (fun hg6346 n6345 k6344 hk6344 => ?_)
  refine p_if 22 14 c176_11 rfl rfl (yz_ne hg6346) (fun hb6347 k6348 hk6348 => ?_) (fun hb6347 k6349 hk6349 => ?_)
  · have hX6350 := hX.trans (if_neg hb6347)
    refine p_aload 23 c176_22 rfl rfl ?_
    refine p_getR 26 c176_23 rfl kf0_2 ?_
    refine p_aload 27 c176_26 rfl rfl ?_
    refine p_getV 30 (.ref (pA (m 0 4))) c176_27 rfl kf0_4 (pA_sv2 hR.2.1 rfl) ?_
    refine p_getR 33 c176_30 rfl (kP_6 (pA_is _)) ?_
    refine p_aload 34 c176_33 rfl rfl ?_
    refine p_getV 37 (.ref (pA (m 0 4))) c176_34 rfl kf0_4 (pA_sv2 hR.2.1 rfl) ?_
    refine p_getR 40 c176_37 rfl (kP_8 (pA_is _)) ?_
    refine p_iload 41 c176_40 rfl rfl ?_
    refine p_iaX 42 (m ((pA (m 0 4)) + 9) x1.toNat) c176_41 rfl (kPa_9 (pA_is _)) gx1 rfl (fun hx6351 => ?_)
    refine p_aaX 43 c176_42 rfl (kPr_7 (pA_is _)) (hR.rg _ _) (fun hx6352 => ?_)
    have hX6353 := hX6350.trans (if_pos hx6352)
    by_cases hs8 : s01 (m 8 4)
    case neg => exact p_call 46 [.ref 8, .ref ((pA (m 0 4)) + 20 + (m ((pA (m 0 4)) + 9) x1.toNat).toNat)] [] c176_43 rfl rfl rfl (fun k' _ d' => d175n hs8) (fun _ _ _ q => q.elim) (fun _ _ _ _ q => q.elim)
    have h8 := h8_of hR rfl hs8
    refine p_cO 46 [.ref 8, .ref ((pA (m 0 4)) + 20 + (m ((pA (m 0 4)) + 9) x1.toNat).toNat)] [] c176_43 rfl rfl rfl (fun k' hk' d' => d175 (f := f) (by omega) h8 (pA_is _) (kSr (pA_is _) hx6352) hR) (fun r6391 hF6389 hg6390 n6355 k6354 hk6354 => ?_)
    have hX6392 := hX6353.trans (bP_s hF6389)
    refine p_if 53 49 c176_46 rfl rfl (yz_eq hg6390) (fun hb6393 k6394 hk6394 => ?_) (fun hb6393 k6395 hk6395 => ?_)
    · have hX6396 := hX6392.trans (if_pos hb6393)
      refine p_iconst 54 c176_53 rfl ?_
      exact p_ireturn c176_54 (Hr _ _ hX6396 (rgD rfl) hR _)
    · have hX6397 := hX6392.trans (if_neg hb6393)
      refine p_iconst 50 c176_49 rfl ?_
      refine p_goto 54 c176_50 rfl ?_
      exact p_ireturn c176_54 (Hr _ _ hX6397 (rgD rfl) hR _)
  · have hX6398 := hX.trans (if_pos (Classical.not_not.mp hb6347))
    exact p_throw c176_14 (fun x n' => Ht _ _ hX6398 rfl hR x n')
def F177 (f : Nat) (x1 : Int) (m : yM) : Option (Int × yM) := (bT (F176 f x1 m) (fun r6401 m6403 => (some (0, yup m6403 413 0 ((i2l r6401).toInt)))) (fun e' m6403 => (if e' = 11 then (some (1, m6403)) else none)))
set_option maxRecDepth 100000 in
theorem d177 {L : Nat} {xs : Nat → Int32} {k d n : Nat} {c : yS3} {f : Nat} {x1 : Int} {m : yM} (hk : k ≤ f) (gx1 : rg x1) (hR : RM c m) : PC (gZ L xs) k d 177 [.ref 0, yI x1, .ref 413] m n (qS c (F177 f x1 m)) := by
  have hX : F177 f x1 m = F177 f x1 m := rfl
  have Hr : ∀ r m', F177 f x1 m = some (r, m') → rg r → RM c m' → ∀ n' : Nat, (qS c (F177 f x1 m)) (.inl (some (yI r))) m' n' := fun r m' e h1 h2 n' => ⟨r, rfl, h1, h2, e⟩
  refine PC.mk [some (.ref 0), some (yI x1), some (.ref 413), none] kn177 rfl ?_
  refine p_aload 1 c177_0 rfl rfl ?_
  refine p_iconst 2 c177_1 rfl ?_
  refine p_aload 3 c177_2 rfl rfl ?_
  refine p_iload 4 c177_3 rfl rfl ?_
  refine p_cTI 7 [.ref 0, yI x1] [yI 0, .ref 413] c177_4 rfl rfl rfl (fun k' hk' d' => d176 (f := f) (by omega) gx1 hR) (fun r6401 m6403 hF6399 hg6400 hR6404 n6343 k6342 hk6342 => ?_) (fun e' q6408 m6403 n' hF6399 hE6406 hR6407 => ?_)
  · have hX6402 := hX.trans (bT_l hF6399)
    refine p_i2l 8 c177_7 rfl ?_
    refine p_laS 9 c177_8 rfl kl413 (rgD rfl) (fun hx6409 => ?_)
    have hR6410 := hR6404.up 413 0 (v := (i2l r6401).toInt) (nselD rfl) (rg_i2l _)
    refine p_goto 15 c177_9 rfl ?_
    refine p_iconst 16 c177_15 rfl ?_
    exact p_ireturn c177_16 (Hr _ _ hX6402 (rgD rfl) hR6410 _)
  · have hXe := hX.trans (bT_r hF6399)
    cases (show e' = 11 from hE6406)
    have hX6411 := hXe.trans (if_pos rfl)
    refine ⟨fun pq hpq k6412 hk6412 => ?_, fun hno => absurd (r_kh177_4_11.symm.trans hno) (by simp)⟩
    have hpp : pq = 12 := by have := r_kh177_4_11.symm.trans hpq; simpa using this.symm
    subst hpp
    refine p_astore 13 c177_12 rfl rfl ?_
    refine p_iconst 14 c177_13 rfl ?_
    exact p_ireturn c177_14 (Hr _ _ hX6411 (rgD rfl) hR6407 _)
def J178_110 (f : Nat) (x1 : Int) (x2 : Int) (x3 : Int) (m : yM) : Option ((Int × yM) ⊕ ((Int × yM) ⊕ (Int × yM))) := (some (.inl ((wr (x3 + 1)), m)))
set_option maxRecDepth 100000 in
theorem tJ178_110 {L : Nat} {xs : Nat → Int32} {Q : xO → yM → Nat → Prop} {k d n : Nat} {c : yS3} {f : Nat} {x1 : Int} {x2 : Int} {x3 : Int} {m : yM} (hk : k ≤ f) (gx1 : rg x1) (gx2 : rg x2) (gx3 : rg x3) (hR : RM c m) (Hn : ∀ (y0 : Int) (m' : yM) (n' : Nat), J178_110 f x1 x2 x3 m = some (.inl (y0, m')) → rg y0 → RM c m' → ∀ k', k' < k → PW (gZ L xs) k' 178 d 42 [some (.ref 376), some (yI x1), some (yI x2), some (yI y0)] [] m' n' Q) (He : ∀ (y0 : Int) (m' : yM) (n' : Nat), J178_110 f x1 x2 x3 m = some (.inr (.inl (y0, m'))) → rg y0 → RM c m' → ∀ k', k' ≤ k → PW (gZ L xs) k' 178 d 116 [some (.ref 376), some (yI x1), some (yI x2), some (yI y0)] [] m' n' Q) (Hr : ∀ r m', J178_110 f x1 x2 x3 m = some (.inr (.inr (r, m'))) → rg r → RM c m' → ∀ n', Q (.inl (some (yI r))) m' n') : PW (gZ L xs) k 178 d 110 [some (.ref 376), some (yI x1), some (yI x2), some (yI x3)] [] m n Q := by
  have hX : J178_110 f x1 x2 x3 m = J178_110 f x1 x2 x3 m := rfl
  refine p_iinc 113 c178_110 rfl rfl rfl ?_
  refine p_gotoD 42 c178_113 rfl (fun k6450 hk6450 => ?_)
  exact Hn _ _ _ hX (rg_wr _) hR _ (by omega)
def B178_42 (f : Nat) (x1 : Int) (x2 : Int) (x3 : Int) (m : yM) : Option ((Int × yM) ⊕ ((Int × yM) ⊕ (Int × yM))) := (if x3 < m 388 (m 376 18).toNat then (if m 404 (wr ((wr (12 * x2)) + x3)).toNat < 0 then (J178_110 f x1 x2 x3 m) else (bP (F149 f (m 376 18) (m 400 (wr ((wr (12 * (m 376 18))) + x3)).toNat) (m 402 (wr ((wr (8 * (m 376 18))) + x1)).toNat) m) (fun r6458 => (if r6458 = 0 then (some (.inr (.inr (0, m)))) else (J178_110 f x1 x2 x3 m))))) else (some (.inr (.inl (x3, m)))))
set_option maxRecDepth 100000 in
theorem tB178_42 {L : Nat} {xs : Nat → Int32} {Q : xO → yM → Nat → Prop} {k d n : Nat} {c : yS3} {f : Nat} {x1 : Int} {x2 : Int} {x3 : Int} {m : yM} (hk : k ≤ f) (gx1 : rg x1) (gx2 : rg x2) (gx3 : rg x3) (hR : RM c m) (Hn : ∀ (y0 : Int) (m' : yM) (n' : Nat), B178_42 f x1 x2 x3 m = some (.inl (y0, m')) → rg y0 → RM c m' → ∀ k', k' < k → PW (gZ L xs) k' 178 d 42 [some (.ref 376), some (yI x1), some (yI x2), some (yI y0)] [] m' n' Q) (He : ∀ (y0 : Int) (m' : yM) (n' : Nat), B178_42 f x1 x2 x3 m = some (.inr (.inl (y0, m'))) → rg y0 → RM c m' → ∀ k', k' ≤ k → PW (gZ L xs) k' 178 d 116 [some (.ref 376), some (yI x1), some (yI x2), some (yI y0)] [] m' n' Q) (Hr : ∀ r m', B178_42 f x1 x2 x3 m = some (.inr (.inr (r, m'))) → rg r → RM c m' → ∀ n', Q (.inl (some (yI r))) m' n') : PW (gZ L xs) k 178 d 42 [some (.ref 376), some (yI x1), some (yI x2), some (yI x3)] [] m n Q := by
  have hX : B178_42 f x1 x2 x3 m = B178_42 f x1 x2 x3 m := rfl
  refine p_iload 43 c178_42 rfl rfl ?_
  refine p_aload 44 c178_43 rfl rfl ?_
  refine p_getR 47 c178_44 rfl kf376_25 ?_
  refine p_aload 48 c178_47 rfl rfl ?_
  refine p_getX 51 (m 376 18) c178_48 rfl kf376_18 rfl ?_
  refine p_iaX 52 (m 388 (m 376 18).toNat) c178_51 rfl ka388 (hR.rg _ _) rfl (fun hx6439 => ?_)
  refine p_icmp 116 55 c178_52 rfl rfl ((yc_ge gx3 (hR.rg _ _)).trans Int.not_lt.symm) (fun hb6440 k6441 hk6441 => ?_) (fun hb6440 k6442 hk6442 => ?_)
  · have hX6443 := hX.trans (if_neg hb6440)
    exact He _ _ _ hX6443 gx3 hR _ (by omega)
  · have hX6444 := hX.trans (if_pos (Classical.not_not.mp hb6440))
    refine p_aload 56 c178_55 rfl rfl ?_
    refine p_getR 59 c178_56 rfl kf376_41 ?_
    refine p_iconst 61 c178_59 rfl ?_
    refine p_iload 62 c178_61 rfl rfl ?_
    refine p_imul 63 c178_62 rfl ?_
    refine p_iload 64 c178_63 rfl rfl ?_
    refine p_iadd 65 c178_64 rfl ?_
    refine p_iaX 66 (m 404 (wr ((wr (12 * x2)) + x3)).toNat) c178_65 rfl ka404 (rg_wr _) rfl (fun hx6445 => ?_)
    refine p_if 110 69 c178_66 rfl rfl (yz_lt (hR.rg _ _)) (fun hb6446 k6447 hk6447 => ?_) (fun hb6446 k6448 hk6448 => ?_)
    · have hX6449 := hX6444.trans (if_pos hb6446)
      exact tJ178_110 (f := f) (by omega) gx1 gx2 gx3 hR (fun y0 m' n' e' h0 hR' k' hk' => Hn y0 m' n' (hX6449.trans e') h0 hR' k' (by omega)) (fun y0 m' n' e' h0 hR' k' hk' => He y0 m' n' (hX6449.trans e') h0 hR' k' (by omega)) (fun r' m' e' => Hr r' m' (hX6449.trans e'))
    · have hX6451 := hX6444.trans (if_neg hb6446)
      refine p_aload 70 c178_69 rfl rfl ?_
      refine p_aload 71 c178_70 rfl rfl ?_
      refine p_getX 74 (m 376 18) c178_71 rfl kf376_18 rfl ?_
      refine p_aload 75 c178_74 rfl rfl ?_
      refine p_getR 78 c178_75 rfl kf376_37 ?_
      refine p_iconst 80 c178_78 rfl ?_
      refine p_aload 81 c178_80 rfl rfl ?_
      refine p_getX 84 (m 376 18) c178_81 rfl kf376_18 rfl ?_
      refine p_imul 85 c178_84 rfl ?_
      refine p_iload 86 c178_85 rfl rfl ?_
      refine p_iadd 87 c178_86 rfl ?_
      refine p_iaX 88 (m 400 (wr ((wr (12 * (m 376 18))) + x3)).toNat) c178_87 rfl ka400 (rg_wr _) rfl (fun hx6452 => ?_)
      refine p_aload 89 c178_88 rfl rfl ?_
      refine p_getR 92 c178_89 rfl kf376_39 ?_
      refine p_iconst 94 c178_92 rfl ?_
      refine p_aload 95 c178_94 rfl rfl ?_
      refine p_getX 98 (m 376 18) c178_95 rfl kf376_18 rfl ?_
      refine p_imul 99 c178_98 rfl ?_
      refine p_iload 100 c178_99 rfl rfl ?_
      refine p_iadd 101 c178_100 rfl ?_
      refine p_iaX 102 (m 402 (wr ((wr (8 * (m 376 18))) + x1)).toNat) c178_101 rfl ka402 (rg_wr _) rfl (fun hx6453 => ?_)
      refine p_cO 105 [.ref 376, yI (m 376 18), yI (m 400 (wr ((wr (12 * (m 376 18))) + x3)).toNat), yI (m 402 (wr ((wr (8 * (m 376 18))) + x1)).toNat)] [] c178_102 rfl rfl rfl (fun k' hk' d' => d149 (f := f) (by omega) (hR.rg _ _) (hR.rg _ _) (hR.rg _ _) hR) (fun r6458 hF6456 hg6457 n6455 k6454 hk6454 => ?_)
      have hX6459 := hX6451.trans (bP_s hF6456)
      refine p_if 110 108 c178_105 rfl rfl (yz_ne hg6457) (fun hb6460 k6461 hk6461 => ?_) (fun hb6460 k6462 hk6462 => ?_)
      · have hX6463 := hX6459.trans (if_neg hb6460)
        exact tJ178_110 (f := f) (by omega) gx1 gx2 gx3 hR (fun y0 m' n' e' h0 hR' k' hk' => Hn y0 m' n' (hX6463.trans e') h0 hR' k' (by omega)) (fun y0 m' n' e' h0 hR' k' hk' => He y0 m' n' (hX6463.trans e') h0 hR' k' (by omega)) (fun r' m' e' => Hr r' m' (hX6463.trans e'))
      · have hX6464 := hX6459.trans (if_pos (Classical.not_not.mp hb6460))
        refine p_iconst 109 c178_108 rfl ?_
        exact p_ireturn c178_109 (Hr _ _ hX6464 (rgD rfl) hR _)
def F178 (f : Nat) (x1 : Int) (m : yM) : Option (Int × yM) := (bI (F162 f (F22 x1 0 (wr ((m 387 (m 376 18).toNat) - 1))) m) (fun r6430 m6432 => (if r6430 = 0 then (some (0, m6432)) else (bL (yloop (fun (l : Int) ml => B178_42 f x1 (m6432 401 (wr ((wr (8 * (m6432 376 18))) + x1)).toNat) l ml) f 0 m6432) (fun l6465 m6471 => (some (1, m6471))) (fun r mr => some (r, mr))))))
set_option maxRecDepth 100000 in
theorem d178 {L : Nat} {xs : Nat → Int32} {k d n : Nat} {c : yS3} {f : Nat} {x1 : Int} {m : yM} (hk : k ≤ f) (gx1 : rg x1) (hR : RM c m) : PC (gZ L xs) k d 178 [.ref 376, yI x1] m n (qS c (F178 f x1 m)) := by
  have hX : F178 f x1 m = F178 f x1 m := rfl
  have Hr : ∀ r m', F178 f x1 m = some (r, m') → rg r → RM c m' → ∀ n' : Nat, (qS c (F178 f x1 m)) (.inl (some (yI r))) m' n' := fun r m' e h1 h2 n' => ⟨r, rfl, h1, h2, e⟩
  refine PC.mk [some (.ref 376), some (yI x1), none, none] kn178 rfl ?_
  refine p_aload 1 c178_0 rfl rfl ?_
  refine p_iload 2 c178_1 rfl rfl ?_
  refine p_iconst 3 c178_2 rfl ?_
  refine p_aload 4 c178_3 rfl rfl ?_
  refine p_getR 7 c178_4 rfl kf376_24 ?_
  refine p_aload 8 c178_7 rfl rfl ?_
  refine p_getX 11 (m 376 18) c178_8 rfl kf376_18 rfl ?_
  refine p_iaX 12 (m 387 (m 376 18).toNat) c178_11 rfl ka387 (hR.rg _ _) rfl (fun hx6422 => ?_)
  refine p_iconst 13 c178_12 rfl ?_
  refine p_isub 14 c178_13 rfl ?_
  refine p_cX 17 [yI x1, yI 0, yI (wr ((m 387 (m 376 18).toNat) - 1))] [.ref 376] c178_14 rfl rfl rfl (fun k' hk' d' => d22 gx1 (rgD rfl) (rg_wr _) hR) (fun hg6425 n6424 k6423 hk6423 => ?_)
  refine p_cS 20 [.ref 376, yI (F22 x1 0 (wr ((m 387 (m 376 18).toNat) - 1)))] [] c178_17 rfl rfl rfl (fun k' hk' d' => d162 (f := f) (by omega) hg6425 hR) (fun r6430 m6432 hF6428 hg6429 hR6433 n6427 k6426 hk6426 => ?_)
  have hX6431 := hX.trans (bI_s hF6428)
  refine p_if 25 23 c178_20 rfl rfl (yz_ne hg6429) (fun hb6434 k6435 hk6435 => ?_) (fun hb6434 k6436 hk6436 => ?_)
  · have hX6437 := hX6431.trans (if_neg hb6434)
    refine p_aload 26 c178_25 rfl rfl ?_
    refine p_getR 29 c178_26 rfl kf376_38 ?_
    refine p_iconst 31 c178_29 rfl ?_
    refine p_aload 32 c178_31 rfl rfl ?_
    refine p_getX 35 (m6432 376 18) c178_32 rfl kf376_18 rfl ?_
    refine p_imul 36 c178_35 rfl ?_
    refine p_iload 37 c178_36 rfl rfl ?_
    refine p_iadd 38 c178_37 rfl ?_
    refine p_iaX 39 (m6432 401 (wr ((wr (8 * (m6432 376 18))) + x1)).toNat) c178_38 rfl ka401 (rg_wr _) rfl (fun hx6438 => ?_)
    refine p_istore 40 c178_39 rfl rfl ?_
    refine p_iconst 41 c178_40 rfl ?_
    refine p_istore 42 c178_41 rfl rfl ?_
    refine PW.loop (K := k6435) (pce := 116) (fun (l : Int) ml => B178_42 f x1 (m6432 401 (wr ((wr (8 * (m6432 376 18))) + x1)).toNat) l ml) (fun (l : Int) j => [some (.ref 376), some (yI x1), some (yI (m6432 401 (wr ((wr (8 * (m6432 376 18))) + x1)).toNat)), some (yI l)]) (fun (l : Int) => rg l) (RM c) (fun r' m' => rg r' → RM c m' → ∀ n' : Nat, (qS c (F178 f x1 m)) (.inl (some (yI r'))) m' n') (fun k' hk' l j m' n' hl hI Hn' He' Hr' => tB178_42 (f := f) (by omega) gx1 (hR6433.rg _ _) hl hI (fun y0 m2 n2 e h0 hR2 => Hn' y0 (fun q => ([none, none, none, none] : List (Option Value)).getD q none) m2 n2 e h0 hR2) (fun y0 m2 n2 e h0 hR2 => He' y0 (fun q => ([none, none, none, none] : List (Option Value)).getD q none) m2 n2 e h0 hR2) Hr') f k6435 (by omega) (Nat.le_refl _) 0 (fun q => ([some (.ref 376), some (yI x1), some (yI (m6432 401 (wr ((wr (8 * (m6432 376 18))) + x1)).toNat)), some (yI 0)] : xL).getD q none) _ _ (rgD rfl) hR6433 (fun l6465 j6468 m6471 n6470 e6467 hl6466 hR6472 k6469 hk6469 => ?_) (fun r' m' e' => ?_)
    · have hX6473 := hX6437.trans (bL_l e6467)
      refine p_iconst 117 c178_116 rfl ?_
      exact p_ireturn c178_117 (Hr _ _ hX6473 (rgD rfl) hR6472 _)
    · exact Hr r' m' (hX6437.trans (bL_r e'))
  · have hX6474 := hX6431.trans (if_pos (Classical.not_not.mp hb6434))
    refine p_iconst 24 c178_23 rfl ?_
    exact p_ireturn c178_24 (Hr _ _ hX6474 (rgD rfl) hR6433 _)
def J179_39 (f : Nat) (A : Nat) (x1 : Int) (x2 : Int) (x3 : Int) : Option (Int ⊕ (Int ⊕ Int)) := (some (.inl (wr (x3 + 1))))
set_option maxRecDepth 100000 in
theorem tJ179_39 {L : Nat} {xs : Nat → Int32} {Q : xO → yM → Nat → Prop} {k d n : Nat} {c : yS3} {f : Nat} {A : Nat} {x1 : Int} {x2 : Int} {x3 : Int} {m : yM} (hk : k ≤ f) (hc : c.2.1 = pX A) (hA : (A = 256 ∨ A = 316)) (gx1 : rg x1) (gx2 : rg x2) (gx3 : rg x3) (hR : RM c m) (Hn : ∀ (y0 : Int) (n' : Nat), J179_39 f A x1 x2 x3 = some (.inl y0) → rg y0 → ∀ k', k' < k → PW (gZ L xs) k' 179 d 2 [some (.ref 8), some (yI x1), some (yI x2), some (yI y0)] [] m n' Q) (He : ∀ (y0 : Int) (n' : Nat), J179_39 f A x1 x2 x3 = some (.inr (.inl y0)) → rg y0 → ∀ k', k' ≤ k → PW (gZ L xs) k' 179 d 45 [some (.ref 8), some (yI x1), some (yI x2), some (yI y0)] [] m n' Q) (Hr : ∀ r, J179_39 f A x1 x2 x3 = some (.inr (.inr r)) → rg r → ∀ n', Q (.inl (some (yI r))) m n') : PW (gZ L xs) k 179 d 39 [some (.ref 8), some (yI x1), some (yI x2), some (yI x3)] [] m n Q := by
  have hX : J179_39 f A x1 x2 x3 = J179_39 f A x1 x2 x3 := rfl
  refine p_iinc 42 c179_39 rfl rfl rfl ?_
  refine p_gotoD 2 c179_42 rfl (fun k6519 hk6519 => ?_)
  exact Hn _ _ hX (rg_wr _) _ (by omega)
def B179_2 (f : Nat) (A : Nat) (x1 : Int) (x2 : Int) (x3 : Int) (m : yM) : Option (Int ⊕ (Int ⊕ Int)) := (if x3 < m A 14 then (if 0 ≤ x1 ∧ x1 < ((48 : Nat) : Int) then (if m (10 + (x1).toNat) x3.toNat = (-1) then (J179_39 f A x1 x2 x3) else (if 0 ≤ x2 ∧ x2 < ((48 : Nat) : Int) then (if m (10 + (x2).toNat) x3.toNat = (-1) then (J179_39 f A x1 x2 x3) else (some (.inr (.inr 1)))) else none)) else none) else (some (.inr (.inl x3))))
set_option maxRecDepth 100000 in
theorem tB179_2 {L : Nat} {xs : Nat → Int32} {Q : xO → yM → Nat → Prop} {k d n : Nat} {c : yS3} {f : Nat} {A : Nat} {x1 : Int} {x2 : Int} {x3 : Int} {m : yM} (hk : k ≤ f) (hc : c.2.1 = pX A) (hA : (A = 256 ∨ A = 316)) (gx1 : rg x1) (gx2 : rg x2) (gx3 : rg x3) (hR : RM c m) (Hn : ∀ (y0 : Int) (n' : Nat), B179_2 f A x1 x2 x3 m = some (.inl y0) → rg y0 → ∀ k', k' < k → PW (gZ L xs) k' 179 d 2 [some (.ref 8), some (yI x1), some (yI x2), some (yI y0)] [] m n' Q) (He : ∀ (y0 : Int) (n' : Nat), B179_2 f A x1 x2 x3 m = some (.inr (.inl y0)) → rg y0 → ∀ k', k' ≤ k → PW (gZ L xs) k' 179 d 45 [some (.ref 8), some (yI x1), some (yI x2), some (yI y0)] [] m n' Q) (Hr : ∀ r, B179_2 f A x1 x2 x3 m = some (.inr (.inr r)) → rg r → ∀ n', Q (.inl (some (yI r))) m n') : PW (gZ L xs) k 179 d 2 [some (.ref 8), some (yI x1), some (yI x2), some (yI x3)] [] m n Q := by
  have hX : B179_2 f A x1 x2 x3 m = B179_2 f A x1 x2 x3 m := rfl
  refine p_iload 3 c179_2 rfl rfl ?_
  refine p_aload 4 c179_3 rfl rfl ?_
  refine p_getV 7 (.ref A) c179_4 rfl kf8_4 (pX_of hA hR.2.2.2.2.1 hc) ?_
  refine p_getX 10 (m A 14) c179_7 rfl (kP_14 hA) rfl ?_
  refine p_icmp 45 13 c179_10 rfl rfl ((yc_ge gx3 (hR.rg _ _)).trans Int.not_lt.symm) (fun hb6507 k6508 hk6508 => ?_) (fun hb6507 k6509 hk6509 => ?_)
  · have hX6510 := hX.trans (if_neg hb6507)
    exact He _ _ hX6510 gx3 _ (by omega)
  · have hX6511 := hX.trans (if_pos (Classical.not_not.mp hb6507))
    refine p_aload 14 c179_13 rfl rfl ?_
    refine p_getR 17 c179_14 rfl kf8_0 ?_
    refine p_iload 18 c179_17 rfl rfl ?_
    refine p_aaX 19 c179_18 rfl kr9 gx1 (fun hx6512 => ?_)
    have hX6513 := hX6511.trans (if_pos hx6512)
    refine p_iload 20 c179_19 rfl rfl ?_
    refine p_iaX 21 (m (10 + (x1).toNat) x3.toNat) c179_20 rfl (kR9 hx6512) gx3 rfl (fun hx6514 => ?_)
    refine p_iconst 22 c179_21 rfl ?_
    refine p_icmp 39 25 c179_22 rfl rfl (yc_eq (hR.rg _ _) (rgD rfl)) (fun hb6515 k6516 hk6516 => ?_) (fun hb6515 k6517 hk6517 => ?_)
    · have hX6518 := hX6513.trans (if_pos hb6515)
      exact tJ179_39 (f := f) (by omega) hc hA gx1 gx2 gx3 hR (fun y0 n' e' h0 k' hk' => Hn y0 n' (hX6518.trans e') h0 k' (by omega)) (fun y0 n' e' h0 k' hk' => He y0 n' (hX6518.trans e') h0 k' (by omega)) (fun r' e' => Hr r' (hX6518.trans e'))
    · have hX6520 := hX6513.trans (if_neg hb6515)
      refine p_aload 26 c179_25 rfl rfl ?_
      refine p_getR 29 c179_26 rfl kf8_0 ?_
      refine p_iload 30 c179_29 rfl rfl ?_
      refine p_aaX 31 c179_30 rfl kr9 gx2 (fun hx6521 => ?_)
      have hX6522 := hX6520.trans (if_pos hx6521)
      refine p_iload 32 c179_31 rfl rfl ?_
      refine p_iaX 33 (m (10 + (x2).toNat) x3.toNat) c179_32 rfl (kR9 hx6521) gx3 rfl (fun hx6523 => ?_)
      refine p_iconst 34 c179_33 rfl ?_
      refine p_icmp 39 37 c179_34 rfl rfl (yc_eq (hR.rg _ _) (rgD rfl)) (fun hb6524 k6525 hk6525 => ?_) (fun hb6524 k6526 hk6526 => ?_)
      · have hX6527 := hX6522.trans (if_pos hb6524)
        exact tJ179_39 (f := f) (by omega) hc hA gx1 gx2 gx3 hR (fun y0 n' e' h0 k' hk' => Hn y0 n' (hX6527.trans e') h0 k' (by omega)) (fun y0 n' e' h0 k' hk' => He y0 n' (hX6527.trans e') h0 k' (by omega)) (fun r' e' => Hr r' (hX6527.trans e'))
      · have hX6528 := hX6522.trans (if_neg hb6524)
        refine p_iconst 38 c179_37 rfl ?_
        exact p_ireturn c179_38 (Hr _ hX6528 (rgD rfl) _)
def F179 (f : Nat) (A : Nat) (x1 : Int) (x2 : Int) (m : yM) : Option Int := (bQ (ploop (fun (l : Int) => B179_2 f A x1 x2 l m) f 0) (fun l6529 => (some 0)) (fun r => some r))
set_option maxRecDepth 100000 in
theorem d179 {L : Nat} {xs : Nat → Int32} {k d n : Nat} {c : yS3} {f : Nat} {A : Nat} {x1 : Int} {x2 : Int} {m : yM} (hk : k ≤ f) (hc : c.2.1 = pX A) (hA : (A = 256 ∨ A = 316)) (gx1 : rg x1) (gx2 : rg x2) (hR : RM c m) : PC (gZ L xs) k d 179 [.ref 8, yI x1, yI x2] m n (qO m (F179 f A x1 x2 m)) := by
  have hX : F179 f A x1 x2 m = F179 f A x1 x2 m := rfl
  have Hr : ∀ r, F179 f A x1 x2 m = some r → rg r → ∀ n' : Nat, (qO m (F179 f A x1 x2 m)) (.inl (some (yI r))) m n' := fun r e h n' => ⟨r, rfl, h, rfl, e⟩
  refine PC.mk [some (.ref 8), some (yI x1), some (yI x2), none] kn179 rfl ?_
  refine p_iconst 1 c179_0 rfl ?_
  refine p_istore 2 c179_1 rfl rfl ?_
  refine PW.ploop (K := k) (pce := 45) (fun (l : Int) => B179_2 f A x1 x2 l m) (fun (l : Int) j => [some (.ref 8), some (yI x1), some (yI x2), some (yI l)]) (fun (l : Int) => rg l) (fun r' => rg r' → ∀ n' : Nat, (qO m (F179 f A x1 x2 m)) (.inl (some (yI r'))) m n') (fun k' hk' l j n' hl Hn' He' Hr' => tB179_2 (f := f) (by omega) hc hA gx1 gx2 hl hR (fun y0 n2 e h0 => Hn' y0 (fun q => ([none, none, none, none] : List (Option Value)).getD q none) n2 e h0) (fun y0 n2 e h0 => He' y0 (fun q => ([none, none, none, none] : List (Option Value)).getD q none) n2 e h0) Hr') f k (by omega) (Nat.le_refl _) 0 (fun q => ([some (.ref 8), some (yI x1), some (yI x2), some (yI 0)] : xL).getD q none) _ (rgD rfl) (fun l6529 j6532 n6534 e6531 hl6530 k6533 hk6533 => ?_) (fun r' e' => ?_)
  · have hX6535 := hX.trans (bQ_l e6531)
    refine p_iconst 46 c179_45 rfl ?_
    exact p_ireturn c179_46 (Hr _ hX6535 (rgD rfl) _)
  · exact Hr r' (hX.trans (bQ_r e'))
def J180_16 (f : Nat) (m : yM) : Option ((Int ⊕ Nat) × yM) := (some (.inr 11, m))
set_option maxRecDepth 100000 in
theorem tJ180_16 {L : Nat} {xs : Nat → Int32} {Q : xO → yM → Nat → Prop} {k d n : Nat} {c : yS3} {f : Nat} {m : yM} {j0 j1 j2 : Option Value} (hk : k ≤ f) (hR : RM c m) (Hr : ∀ r m', J180_16 f m = some (.inl r, m') → rg r → RM c m' → ∀ n', Q (.inl (some (yI r))) m' n') (Ht : ∀ e m', J180_16 f m = some (.inr e, m') → (fun e => e = 11) e → RM c m' → ∀ x n', Q (.inr (e, x)) m' n') : PW (gZ L xs) k 180 d 16 [j0, j1, j2] [] m n Q := by
  have hX : J180_16 f m = J180_16 f m := rfl
  exact p_throw c180_16 (fun x n' => Ht _ _ hX rfl hR x n')
def F180 (f : Nat) (x1 : Int) (x2 : Int) (m : yM) : Option ((Int ⊕ Nat) × yM) := (if F156 x1 m = 0 then (J180_16 f m) else (if F156 x2 m = 0 then (J180_16 f m) else (bP (F179 f (pA (m 8 4)) x1 x2 m) (fun r6538 => (if r6538 = 0 then (some (.inl 0, m)) else (some (.inl 1, m)))))))
set_option maxRecDepth 100000 in
theorem d180 {L : Nat} {xs : Nat → Int32} {k d n : Nat} {c : yS3} {f : Nat} {x1 : Int} {x2 : Int} {m : yM} (hk : k ≤ f) (gx1 : rg x1) (gx2 : rg x2) (hR : RM c m) : PC (gZ L xs) k d 180 [.ref 0, yI x1, yI x2] m n (qEI (fun e => e = 11) c (F180 f x1 x2 m)) := by
  have hX : F180 f x1 x2 m = F180 f x1 x2 m := rfl
  have Hr : ∀ r m', F180 f x1 x2 m = some (.inl r, m') → rg r → RM c m' → ∀ n' : Nat, (qEI (fun e => e = 11) c (F180 f x1 x2 m)) (.inl (some (yI r))) m' n' := fun r m' e h1 h2 n' => Or.inl ⟨r, rfl, h1, h2, e⟩
  have Ht : ∀ e m', F180 f x1 x2 m = some (.inr e, m') → (fun e => e = 11) e → RM c m' → ∀ x n' : Nat, (qEI (fun e => e = 11) c (F180 f x1 x2 m)) (.inr (e, x)) m' n' := fun e m' e1 h1 h2 x n' => Or.inr ⟨e, x, rfl, h1, h2, e1⟩
  refine PC.mk [some (.ref 0), some (yI x1), some (yI x2)] kn180 rfl ?_
  refine p_aload 1 c180_0 rfl rfl ?_
  refine p_iload 2 c180_1 rfl rfl ?_
  refine p_cX 5 [.ref 0, yI x1] [] c180_2 rfl rfl rfl (fun k' hk' d' => d156 gx1 hR) (fun hg6492 n6491 k6490 hk6490 => ?_)
  refine p_if 16 8 c180_5 rfl rfl (yz_eq hg6492) (fun hb6493 k6494 hk6494 => ?_) (fun hb6493 k6495 hk6495 => ?_)
  · have hX6496 := hX.trans (if_pos hb6493)
    exact tJ180_16 (f := f) (by omega) hR (fun r' m' e' => Hr r' m' (hX6496.trans e')) (fun r' m' e' => Ht r' m' (hX6496.trans e'))
  · have hX6497 := hX.trans (if_neg hb6493)
    refine p_aload 9 c180_8 rfl rfl ?_
    refine p_iload 10 c180_9 rfl rfl ?_
    refine p_cX 13 [.ref 0, yI x2] [] c180_10 rfl rfl rfl (fun k' hk' d' => d156 gx2 hR) (fun hg6500 n6499 k6498 hk6498 => ?_)
    refine p_if 24 16 c180_13 rfl rfl (yz_ne hg6500) (fun hb6501 k6502 hk6502 => ?_) (fun hb6501 k6503 hk6503 => ?_)
    · have hX6504 := hX6497.trans (if_neg hb6501)
      refine p_aload 25 c180_24 rfl rfl ?_
      refine p_getR 28 c180_25 rfl kf0_2 ?_
      refine p_iload 29 c180_28 rfl rfl ?_
      refine p_iload 30 c180_29 rfl rfl ?_
      by_cases hs8 : s01 (m 8 4)
      case neg => exact p_call 33 [.ref 8, yI x1, yI x2] [] c180_30 rfl rfl rfl (fun k' _ d' => d179n hs8) (fun _ _ _ q => q.elim) (fun _ _ _ _ q => q.elim)
      have h8 := h8_of hR rfl hs8
      refine p_cO 33 [.ref 8, yI x1, yI x2] [] c180_30 rfl rfl rfl (fun k' hk' d' => d179 (f := f) (by omega) h8 (pA_is _) gx1 gx2 hR) (fun r6538 hF6536 hg6537 n6506 k6505 hk6505 => ?_)
      have hX6539 := hX6504.trans (bP_s hF6536)
      refine p_if 40 36 c180_33 rfl rfl (yz_eq hg6537) (fun hb6540 k6541 hk6541 => ?_) (fun hb6540 k6542 hk6542 => ?_)
      · have hX6543 := hX6539.trans (if_pos hb6540)
        refine p_iconst 41 c180_40 rfl ?_
        exact p_ireturn c180_41 (Hr _ _ hX6543 (rgD rfl) hR _)
      · have hX6544 := hX6539.trans (if_neg hb6540)
        refine p_iconst 37 c180_36 rfl ?_
        refine p_goto 41 c180_37 rfl ?_
        exact p_ireturn c180_41 (Hr _ _ hX6544 (rgD rfl) hR _)
    · have hX6545 := hX6497.trans (if_pos (Classical.not_not.mp hb6501))
      exact tJ180_16 (f := f) (by omega) hR (fun r' m' e' => Hr r' m' (hX6545.trans e')) (fun r' m' e' => Ht r' m' (hX6545.trans e'))
def F181 (f : Nat) (x1 : Int) (x2 : Int) (m : yM) : Option (Int × yM) := (bT (F180 f x1 x2 m) (fun r6548 m6550 => (some (0, yup m6550 413 0 ((i2l r6548).toInt)))) (fun e' m6550 => (if e' = 11 then (some (1, m6550)) else none)))
set_option maxRecDepth 100000 in
theorem d181 {L : Nat} {xs : Nat → Int32} {k d n : Nat} {c : yS3} {f : Nat} {x1 : Int} {x2 : Int} {m : yM} (hk : k ≤ f) (gx1 : rg x1) (gx2 : rg x2) (hR : RM c m) : PC (gZ L xs) k d 181 [.ref 0, yI x1, yI x2, .ref 413] m n (qS c (F181 f x1 x2 m)) := by
  have hX : F181 f x1 x2 m = F181 f x1 x2 m := rfl
  have Hr : ∀ r m', F181 f x1 x2 m = some (r, m') → rg r → RM c m' → ∀ n' : Nat, (qS c (F181 f x1 x2 m)) (.inl (some (yI r))) m' n' := fun r m' e h1 h2 n' => ⟨r, rfl, h1, h2, e⟩
  refine PC.mk [some (.ref 0), some (yI x1), some (yI x2), some (.ref 413), none] kn181 rfl ?_
  refine p_aload 1 c181_0 rfl rfl ?_
  refine p_iconst 2 c181_1 rfl ?_
  refine p_aload 3 c181_2 rfl rfl ?_
  refine p_iload 4 c181_3 rfl rfl ?_
  refine p_iload 5 c181_4 rfl rfl ?_
  refine p_cTI 8 [.ref 0, yI x1, yI x2] [yI 0, .ref 413] c181_5 rfl rfl rfl (fun k' hk' d' => d180 (f := f) (by omega) gx1 gx2 hR) (fun r6548 m6550 hF6546 hg6547 hR6551 n6489 k6488 hk6488 => ?_) (fun e' q6555 m6550 n' hF6546 hE6553 hR6554 => ?_)
  · have hX6549 := hX.trans (bT_l hF6546)
    refine p_i2l 9 c181_8 rfl ?_
    refine p_laS 10 c181_9 rfl kl413 (rgD rfl) (fun hx6556 => ?_)
    have hR6557 := hR6551.up 413 0 (v := (i2l r6548).toInt) (nselD rfl) (rg_i2l _)
    refine p_goto 17 c181_10 rfl ?_
    refine p_iconst 18 c181_17 rfl ?_
    exact p_ireturn c181_18 (Hr _ _ hX6549 (rgD rfl) hR6557 _)
  · have hXe := hX.trans (bT_r hF6546)
    cases (show e' = 11 from hE6553)
    have hX6558 := hXe.trans (if_pos rfl)
    refine ⟨fun pq hpq k6559 hk6559 => ?_, fun hno => absurd (r_kh181_5_11.symm.trans hno) (by simp)⟩
    have hpp : pq = 13 := by have := r_kh181_5_11.symm.trans hpq; simpa using this.symm
    subst hpp
    refine p_astore 15 c181_13 rfl rfl ?_
    refine p_iconst 16 c181_15 rfl ?_
    exact p_ireturn c181_16 (Hr _ _ hX6558 (rgD rfl) hR6554 _)
def J182_75 (f : Nat) (x1 : Int) (x2 : Int) (x3 : Int) (m : yM) : Option ((Int × yM) ⊕ ((Int × yM) ⊕ (Int × yM))) := (some (.inl ((wr (x3 + 1)), m)))
set_option maxRecDepth 100000 in
theorem tJ182_75 {L : Nat} {xs : Nat → Int32} {Q : xO → yM → Nat → Prop} {k d n : Nat} {c : yS3} {f : Nat} {x1 : Int} {x2 : Int} {x3 : Int} {m : yM} (hk : k ≤ f) (gx1 : rg x1) (gx2 : rg x2) (gx3 : rg x3) (hR : RM c m) (Hn : ∀ (y0 : Int) (m' : yM) (n' : Nat), J182_75 f x1 x2 x3 m = some (.inl (y0, m')) → rg y0 → RM c m' → ∀ k', k' < k → PW (gZ L xs) k' 182 d 32 [some (.ref 376), some (yI x1), some (yI x2), some (yI y0)] [] m' n' Q) (He : ∀ (y0 : Int) (m' : yM) (n' : Nat), J182_75 f x1 x2 x3 m = some (.inr (.inl (y0, m'))) → rg y0 → RM c m' → ∀ k', k' ≤ k → PW (gZ L xs) k' 182 d 81 [some (.ref 376), some (yI x1), some (yI x2), some (yI y0)] [] m' n' Q) (Hr : ∀ r m', J182_75 f x1 x2 x3 m = some (.inr (.inr (r, m'))) → rg r → RM c m' → ∀ n', Q (.inl (some (yI r))) m' n') : PW (gZ L xs) k 182 d 75 [some (.ref 376), some (yI x1), some (yI x2), some (yI x3)] [] m n Q := by
  have hX : J182_75 f x1 x2 x3 m = J182_75 f x1 x2 x3 m := rfl
  refine p_iinc 78 c182_75 rfl rfl rfl ?_
  refine p_gotoD 32 c182_78 rfl (fun k6600 hk6600 => ?_)
  exact Hn _ _ _ hX (rg_wr _) hR _ (by omega)
def B182_32 (f : Nat) (x1 : Int) (x2 : Int) (x3 : Int) (m : yM) : Option ((Int × yM) ⊕ ((Int × yM) ⊕ (Int × yM))) := (if x3 < m 388 (m 376 18).toNat then (if m 404 (wr ((wr (12 * x1)) + x3)).toNat < 0 then (J182_75 f x1 x2 x3 m) else (if m 404 (wr ((wr (12 * x2)) + x3)).toNat < 0 then (J182_75 f x1 x2 x3 m) else (some (.inr (.inr (1, m)))))) else (some (.inr (.inl (x3, m)))))
set_option maxRecDepth 100000 in
theorem tB182_32 {L : Nat} {xs : Nat → Int32} {Q : xO → yM → Nat → Prop} {k d n : Nat} {c : yS3} {f : Nat} {x1 : Int} {x2 : Int} {x3 : Int} {m : yM} (hk : k ≤ f) (gx1 : rg x1) (gx2 : rg x2) (gx3 : rg x3) (hR : RM c m) (Hn : ∀ (y0 : Int) (m' : yM) (n' : Nat), B182_32 f x1 x2 x3 m = some (.inl (y0, m')) → rg y0 → RM c m' → ∀ k', k' < k → PW (gZ L xs) k' 182 d 32 [some (.ref 376), some (yI x1), some (yI x2), some (yI y0)] [] m' n' Q) (He : ∀ (y0 : Int) (m' : yM) (n' : Nat), B182_32 f x1 x2 x3 m = some (.inr (.inl (y0, m'))) → rg y0 → RM c m' → ∀ k', k' ≤ k → PW (gZ L xs) k' 182 d 81 [some (.ref 376), some (yI x1), some (yI x2), some (yI y0)] [] m' n' Q) (Hr : ∀ r m', B182_32 f x1 x2 x3 m = some (.inr (.inr (r, m'))) → rg r → RM c m' → ∀ n', Q (.inl (some (yI r))) m' n') : PW (gZ L xs) k 182 d 32 [some (.ref 376), some (yI x1), some (yI x2), some (yI x3)] [] m n Q := by
  have hX : B182_32 f x1 x2 x3 m = B182_32 f x1 x2 x3 m := rfl
  refine p_iload 33 c182_32 rfl rfl ?_
  refine p_aload 34 c182_33 rfl rfl ?_
  refine p_getR 37 c182_34 rfl kf376_25 ?_
  refine p_aload 38 c182_37 rfl rfl ?_
  refine p_getX 41 (m 376 18) c182_38 rfl kf376_18 rfl ?_
  refine p_iaX 42 (m 388 (m 376 18).toNat) c182_41 rfl ka388 (hR.rg _ _) rfl (fun hx6589 => ?_)
  refine p_icmp 81 45 c182_42 rfl rfl ((yc_ge gx3 (hR.rg _ _)).trans Int.not_lt.symm) (fun hb6590 k6591 hk6591 => ?_) (fun hb6590 k6592 hk6592 => ?_)
  · have hX6593 := hX.trans (if_neg hb6590)
    exact He _ _ _ hX6593 gx3 hR _ (by omega)
  · have hX6594 := hX.trans (if_pos (Classical.not_not.mp hb6590))
    refine p_aload 46 c182_45 rfl rfl ?_
    refine p_getR 49 c182_46 rfl kf376_41 ?_
    refine p_iconst 51 c182_49 rfl ?_
    refine p_iload 52 c182_51 rfl rfl ?_
    refine p_imul 53 c182_52 rfl ?_
    refine p_iload 54 c182_53 rfl rfl ?_
    refine p_iadd 55 c182_54 rfl ?_
    refine p_iaX 56 (m 404 (wr ((wr (12 * x1)) + x3)).toNat) c182_55 rfl ka404 (rg_wr _) rfl (fun hx6595 => ?_)
    refine p_if 75 59 c182_56 rfl rfl (yz_lt (hR.rg _ _)) (fun hb6596 k6597 hk6597 => ?_) (fun hb6596 k6598 hk6598 => ?_)
    · have hX6599 := hX6594.trans (if_pos hb6596)
      exact tJ182_75 (f := f) (by omega) gx1 gx2 gx3 hR (fun y0 m' n' e' h0 hR' k' hk' => Hn y0 m' n' (hX6599.trans e') h0 hR' k' (by omega)) (fun y0 m' n' e' h0 hR' k' hk' => He y0 m' n' (hX6599.trans e') h0 hR' k' (by omega)) (fun r' m' e' => Hr r' m' (hX6599.trans e'))
    · have hX6601 := hX6594.trans (if_neg hb6596)
      refine p_aload 60 c182_59 rfl rfl ?_
      refine p_getR 63 c182_60 rfl kf376_41 ?_
      refine p_iconst 65 c182_63 rfl ?_
      refine p_iload 66 c182_65 rfl rfl ?_
      refine p_imul 67 c182_66 rfl ?_
      refine p_iload 68 c182_67 rfl rfl ?_
      refine p_iadd 69 c182_68 rfl ?_
      refine p_iaX 70 (m 404 (wr ((wr (12 * x2)) + x3)).toNat) c182_69 rfl ka404 (rg_wr _) rfl (fun hx6602 => ?_)
      refine p_if 75 73 c182_70 rfl rfl (yz_lt (hR.rg _ _)) (fun hb6603 k6604 hk6604 => ?_) (fun hb6603 k6605 hk6605 => ?_)
      · have hX6606 := hX6601.trans (if_pos hb6603)
        exact tJ182_75 (f := f) (by omega) gx1 gx2 gx3 hR (fun y0 m' n' e' h0 hR' k' hk' => Hn y0 m' n' (hX6606.trans e') h0 hR' k' (by omega)) (fun y0 m' n' e' h0 hR' k' hk' => He y0 m' n' (hX6606.trans e') h0 hR' k' (by omega)) (fun r' m' e' => Hr r' m' (hX6606.trans e'))
      · have hX6607 := hX6601.trans (if_neg hb6603)
        refine p_iconst 74 c182_73 rfl ?_
        exact p_ireturn c182_74 (Hr _ _ hX6607 (rgD rfl) hR _)
def J182_22 (f : Nat) (x1 : Int) (x2 : Int) (xs1 : Int) (m : yM) : Option (Int × yM) := (bI (F162 f xs1 m) (fun r6581 m6583 => (if r6581 = 0 then (some (0, m6583)) else (bL (yloop (fun (l : Int) ml => B182_32 f x1 x2 l ml) f 0 m6583) (fun l6608 m6614 => (some (0, m6614))) (fun r mr => some (r, mr))))))
set_option maxRecDepth 100000 in
theorem tJ182_22 {L : Nat} {xs : Nat → Int32} {Q : xO → yM → Nat → Prop} {k d n : Nat} {c : yS3} {f : Nat} {x1 : Int} {x2 : Int} {xs1 : Int} {m : yM} {j3 : Option Value} (hk : k ≤ f) (gx1 : rg x1) (gx2 : rg x2) (gxs1 : rg xs1) (hR : RM c m) (Hr : ∀ r m', J182_22 f x1 x2 xs1 m = some (r, m') → rg r → RM c m' → ∀ n', Q (.inl (some (yI r))) m' n') : PW (gZ L xs) k 182 d 22 [some (.ref 376), some (yI x1), some (yI x2), j3] [yI xs1, .ref 376] m n Q := by
  have hX : J182_22 f x1 x2 xs1 m = J182_22 f x1 x2 xs1 m := rfl
  refine p_cS 25 [.ref 376, yI xs1] [] c182_22 rfl rfl rfl (fun k' hk' d' => d162 (f := f) (by omega) gxs1 hR) (fun r6581 m6583 hF6579 hg6580 hR6584 n6578 k6577 hk6577 => ?_)
  have hX6582 := hX.trans (bI_s hF6579)
  refine p_if 30 28 c182_25 rfl rfl (yz_ne hg6580) (fun hb6585 k6586 hk6586 => ?_) (fun hb6585 k6587 hk6587 => ?_)
  · have hX6588 := hX6582.trans (if_neg hb6585)
    refine p_iconst 31 c182_30 rfl ?_
    refine p_istore 32 c182_31 rfl rfl ?_
    refine PW.loop (K := k6586) (pce := 81) (fun (l : Int) ml => B182_32 f x1 x2 l ml) (fun (l : Int) j => [some (.ref 376), some (yI x1), some (yI x2), some (yI l)]) (fun (l : Int) => rg l) (RM c) (fun r' m' => rg r' → RM c m' → ∀ n' : Nat, Q (.inl (some (yI r'))) m' n') (fun k' hk' l j m' n' hl hI Hn' He' Hr' => tB182_32 (f := f) (by omega) gx1 gx2 hl hI (fun y0 m2 n2 e h0 hR2 => Hn' y0 (fun q => ([none, none, none, none] : List (Option Value)).getD q none) m2 n2 e h0 hR2) (fun y0 m2 n2 e h0 hR2 => He' y0 (fun q => ([none, none, none, none] : List (Option Value)).getD q none) m2 n2 e h0 hR2) Hr') f k6586 (by omega) (Nat.le_refl _) 0 (fun q => ([some (.ref 376), some (yI x1), some (yI x2), some (yI 0)] : xL).getD q none) _ _ (rgD rfl) hR6584 (fun l6608 j6611 m6614 n6613 e6610 hl6609 hR6615 k6612 hk6612 => ?_) (fun r' m' e' => ?_)
    · have hX6616 := hX6588.trans (bL_l e6610)
      refine p_iconst 82 c182_81 rfl ?_
      exact p_ireturn c182_82 (Hr _ _ hX6616 (rgD rfl) hR6615 _)
    · exact Hr r' m' (hX6588.trans (bL_r e'))
  · have hX6617 := hX6582.trans (if_pos (Classical.not_not.mp hb6585))
    refine p_iconst 29 c182_28 rfl ?_
    exact p_ireturn c182_29 (Hr _ _ hX6617 (rgD rfl) hR6584 _)
def J182_21 (f : Nat) (x1 : Int) (x2 : Int) (m : yM) : Option (Int × yM) := (J182_22 f x1 x2 0 m)
set_option maxRecDepth 100000 in
theorem tJ182_21 {L : Nat} {xs : Nat → Int32} {Q : xO → yM → Nat → Prop} {k d n : Nat} {c : yS3} {f : Nat} {x1 : Int} {x2 : Int} {m : yM} {j3 : Option Value} (hk : k ≤ f) (gx1 : rg x1) (gx2 : rg x2) (hR : RM c m) (Hr : ∀ r m', J182_21 f x1 x2 m = some (r, m') → rg r → RM c m' → ∀ n', Q (.inl (some (yI r))) m' n') : PW (gZ L xs) k 182 d 21 [some (.ref 376), some (yI x1), some (yI x2), j3] [.ref 376] m n Q := by
  have hX : J182_21 f x1 x2 m = J182_21 f x1 x2 m := rfl
  refine p_iconst 22 c182_21 rfl ?_
  exact tJ182_22 (f := f) (by omega) gx1 gx2 (rgD rfl) hR (fun r' m' e' => Hr r' m' (hX.trans e'))
def F182 (f : Nat) (x1 : Int) (x2 : Int) (m : yM) : Option (Int × yM) := (if F160 x1 m = 0 then (J182_21 f x1 x2 m) else (if F160 x2 m = 0 then (J182_21 f x1 x2 m) else (J182_22 f x1 x2 1 m)))
set_option maxRecDepth 100000 in
theorem d182 {L : Nat} {xs : Nat → Int32} {k d n : Nat} {c : yS3} {f : Nat} {x1 : Int} {x2 : Int} {m : yM} (hk : k ≤ f) (gx1 : rg x1) (gx2 : rg x2) (hR : RM c m) : PC (gZ L xs) k d 182 [.ref 376, yI x1, yI x2] m n (qS c (F182 f x1 x2 m)) := by
  have hX : F182 f x1 x2 m = F182 f x1 x2 m := rfl
  have Hr : ∀ r m', F182 f x1 x2 m = some (r, m') → rg r → RM c m' → ∀ n' : Nat, (qS c (F182 f x1 x2 m)) (.inl (some (yI r))) m' n' := fun r m' e h1 h2 n' => ⟨r, rfl, h1, h2, e⟩
  refine PC.mk [some (.ref 376), some (yI x1), some (yI x2), none] kn182 rfl ?_
  refine p_aload 1 c182_0 rfl rfl ?_
  refine p_aload 2 c182_1 rfl rfl ?_
  refine p_iload 3 c182_2 rfl rfl ?_
  refine p_cX 6 [.ref 376, yI x1] [.ref 376] c182_3 rfl rfl rfl (fun k' hk' d' => d160 gx1 hR) (fun hg6572 n6571 k6570 hk6570 => ?_)
  refine p_if 21 9 c182_6 rfl rfl (yz_eq hg6572) (fun hb6573 k6574 hk6574 => ?_) (fun hb6573 k6575 hk6575 => ?_)
  · have hX6576 := hX.trans (if_pos hb6573)
    exact tJ182_21 (f := f) (by omega) gx1 gx2 hR (fun r' m' e' => Hr r' m' (hX6576.trans e'))
  · have hX6618 := hX.trans (if_neg hb6573)
    refine p_aload 10 c182_9 rfl rfl ?_
    refine p_iload 11 c182_10 rfl rfl ?_
    refine p_cX 14 [.ref 376, yI x2] [.ref 376] c182_11 rfl rfl rfl (fun k' hk' d' => d160 gx2 hR) (fun hg6621 n6620 k6619 hk6619 => ?_)
    refine p_if 21 17 c182_14 rfl rfl (yz_eq hg6621) (fun hb6622 k6623 hk6623 => ?_) (fun hb6622 k6624 hk6624 => ?_)
    · have hX6625 := hX6618.trans (if_pos hb6622)
      exact tJ182_21 (f := f) (by omega) gx1 gx2 hR (fun r' m' e' => Hr r' m' (hX6625.trans e'))
    · have hX6626 := hX6618.trans (if_neg hb6622)
      refine p_iconst 18 c182_17 rfl ?_
      refine p_goto 22 c182_18 rfl ?_
      exact tJ182_22 (f := f) (by omega) gx1 gx2 (rgD rfl) hR (fun r' m' e' => Hr r' m' (hX6626.trans e'))
