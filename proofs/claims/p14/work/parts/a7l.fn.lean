section
/-! FUNCTIONS OF THE METHODS: printed by wip/fn/dc.py -/
def F198 (f : Nat) (A : Nat) (m : yM) : Option ((Unit ⊕ Nat) × yM) := (bU (F92 f (yup m 169 4 (pX A))) (fun m6768 => (bT (F186 f 0 (yup (yup m6768 169 5 0) 169 6 0)) (fun r6811 m6813 => (if 0 ≤ (m6813 A 17) ∧ (m6813 A 17) < ((10 : Nat) : Int) then (bT (F187 f 0 m6813) (fun r6859 m6861 => (if 252 ≤ r6859 ∧ r6859 < 256 then (bU (F188_48 f r6859 (F57 (A + 10 + (m6813 A 17).toNat) m6861) r6811 m6861) (fun m6889 => (bT (F197 f A f (m6889 (A + 10 + (m6813 A 17).toNat) 4) (m6889 (A + 10 + (m6813 A 17).toNat) 5) 0 m6889) (fun r7350 m7352 => (some (.inl (), m7352))) (fun e' m7352 => (some (.inr e', m7352)))))) else none)) (fun e' m6861 => (some (.inr e', m6861)))) else none)) (fun e' m6813 => (some (.inr e', m6813))))))
set_option maxRecDepth 100000 in
theorem d198 {L : Nat} {xs : Nat → Int32} {k d n : Nat} {c : yS3} {f : Nat} {A : Nat} {m : yM} (hk : k ≤ f) (hA : (A = 256 ∨ A = 316)) (hR : RM c m) : PC (gZ L xs) k d 198 [.ref 169, .ref A] m n (qEV (fun e => e = 10 ∨ e = 11 ∨ e = 12 ∨ e = 13) (c.1, c.2.1, pX A) (F198 f A m)) := by
  have hX : F198 f A m = F198 f A m := rfl
  have Hr : ∀ m', F198 f A m = some (.inl (), m') → RM (c.1, c.2.1, pX A) m' → ∀ n' : Nat, (qEV (fun e => e = 10 ∨ e = 11 ∨ e = 12 ∨ e = 13) (c.1, c.2.1, pX A) (F198 f A m)) (.inl none) m' n' := fun m' e h n' => Or.inl ⟨rfl, h, e⟩
  have Ht : ∀ e m', F198 f A m = some (.inr e, m') → (fun e => e = 10 ∨ e = 11 ∨ e = 12 ∨ e = 13) e → RM (c.1, c.2.1, pX A) m' → ∀ x n' : Nat, (qEV (fun e => e = 10 ∨ e = 11 ∨ e = 12 ∨ e = 13) (c.1, c.2.1, pX A) (F198 f A m)) (.inr (e, x)) m' n' := fun e m' e1 h1 h2 x n' => Or.inr ⟨e, x, rfl, h1, h2, e1⟩
  refine PC.mk [some (.ref 169), some (.ref A), none, none] kn198 rfl ?_
  refine p_aload 1 c198_0 rfl rfl ?_
  refine p_aload 2 c198_1 rfl rfl ?_
  refine p_put 5 (x := pX A) c198_2 rfl kf169_4 (pX_sv hA) ?_
  have hR6761 := RM.s169 hR (pX_01 A)
  refine p_aload 6 c198_5 rfl rfl ?_
  refine p_cV 9 [.ref 169] [] c198_6 rfl rfl rfl (fun k' hk' d' => d92 (f := f) (by omega) hR6761) (fun m6768 hF6764 hR6769 n6763 k6762 hk6762 => ?_)
  have hX6767 := hX.trans (bU_s hF6764)
  refine p_aload 10 c198_9 rfl rfl ?_
  refine p_iconst 11 c198_10 rfl ?_
  refine p_putI 14 c198_11 rfl kf169_5 ?_
  have hR6770 := hR6769.up 169 5 (v := 0) (nselD rfl) (rgD rfl)
  refine p_aload 15 c198_14 rfl rfl ?_
  refine p_iconst 16 c198_15 rfl ?_
  refine p_putI 19 c198_16 rfl kf169_6 ?_
  have hR6771 := hR6770.up 169 6 (v := 0) (nselD rfl) (rgD rfl)
  refine p_aload 20 c198_19 rfl rfl ?_
  refine p_iconst 21 c198_20 rfl ?_
  refine p_cTI 24 [.ref 169, yI 0] [] c198_21 rfl rfl rfl (fun k' hk' d' => d186 (f := f) (by omega) (rgD rfl) hR6771) (fun r6811 m6813 hF6809 hg6810 hR6814 n6773 k6772 hk6772 => ?_) (fun e' q6818 m6813 n' hF6809 hE6816 hR6817 => ?_)
  · have hX6812 := hX6767.trans (bT_l hF6809)
    refine p_istore 25 c198_24 rfl rfl ?_
    refine p_aload 26 c198_25 rfl rfl ?_
    refine p_getV 29 (.ref A) c198_26 rfl kf169_4 (pX_of hA hR6814.2.2.2.2.2 (rfl : ((c.1, c.2.1, pX A) : yS3).2.2 = pX A)) ?_
    refine p_getR 32 c198_29 rfl (kP_5 hA) ?_
    refine p_aload 33 c198_32 rfl rfl ?_
    refine p_getV 36 (.ref A) c198_33 rfl kf169_4 (pX_of hA hR6814.2.2.2.2.2 (rfl : ((c.1, c.2.1, pX A) : yS3).2.2 = pX A)) ?_
    refine p_getX 39 (m6813 A 17) c198_36 rfl (kP_17 hA) rfl ?_
    refine p_aaX 40 c198_39 rfl (kPr_6 hA) (hR6814.rg _ _) (fun hx6819 => ?_)
    have hX6820 := hX6812.trans (if_pos hx6819)
    refine p_astore 41 c198_40 rfl rfl ?_
    refine p_aload 42 c198_41 rfl rfl ?_
    refine p_aload 43 c198_42 rfl rfl ?_
    refine p_iconst 44 c198_43 rfl ?_
    refine p_cTA 47 [.ref 169, yI 0] [.ref 169] c198_44 rfl rfl rfl (fun k' hk' d' => d187 (f := f) (by omega) (rgD rfl) hR6814) (fun r6859 m6861 hF6857 hg6858 hR6862 n6822 k6821 hk6821 => ?_) (fun e' q6866 m6861 n' hF6857 hE6864 hR6865 => ?_)
    · have hX6860 := hX6820.trans (bT_l hF6857)
      have := hg6858.2
      have hX6867 := hX6860.trans (if_pos hg6858.2)
      refine p_aload 48 c198_47 rfl rfl ?_
      refine p_cX 51 [.ref (A + 10 + (m6813 A 17).toNat)] [.ref r6859, .ref 169] c198_48 rfl rfl rfl (fun k' hk' d' => d57 (kMr hA hx6819) hR6862) (fun hg6870 n6869 k6868 hk6868 => ?_)
      refine p_iload 52 c198_51 rfl rfl ?_
      refine p_cV 55 [.ref 169, .ref r6859, yI (F57 (A + 10 + (m6813 A 17).toNat) m6861), yI r6811] [] c198_52 rfl rfl rfl (fun k' hk' d' => d188_48 (f := f) (by omega) hg6858.1 (by omega) hg6870 hg6810 hR6862) (fun m6889 hF6885 hR6890 n6872 k6871 hk6871 => ?_)
      have hX6888 := hX6867.trans (bU_s hF6885)
      refine p_aload 56 c198_55 rfl rfl ?_
      refine p_aload 57 c198_56 rfl rfl ?_
      refine p_getX 60 (m6889 (A + 10 + (m6813 A 17).toNat) 4) c198_57 rfl (kM_4 (kMr hA hx6819)) rfl ?_
      refine p_aload 61 c198_60 rfl rfl ?_
      refine p_getX 64 (m6889 (A + 10 + (m6813 A 17).toNat) 5) c198_61 rfl (kM_5 (kMr hA hx6819)) rfl ?_
      refine p_iconst 65 c198_64 rfl ?_
      refine p_cTI 68 [.ref 169, yI (m6889 (A + 10 + (m6813 A 17).toNat) 4), yI (m6889 (A + 10 + (m6813 A 17).toNat) 5), yI 0] [] c198_65 rfl rfl rfl (fun k' hk' d' => d197 (f := f) (rfl : ((c.1, c.2.1, pX A) : yS3).2.2 = pX A) hA f k' (by omega) (by omega) _ _ _ _ _ _ (hR6890.rg _ _) (hR6890.rg _ _) (rgD rfl) hR6890) (fun r7350 m7352 hF7348 hg7349 hR7353 n6892 k6891 hk6891 => ?_) (fun e' q7357 m7352 n' hF7348 hE7355 hR7356 => ?_)
      · have hX7351 := hX6888.trans (bT_l hF7348)
        refine p_pop 69 c198_68 rfl rfl ?_
        exact p_return c198_69 (Hr _ hX7351 hR7353 _)
      · exact ⟨fun pq hpq => absurd ((khm rfl).symm.trans hpq) (by simp), fun _ => Ht e' m7352 (hX6888.trans (bT_r hF7348)) hE7355 hR7356 q7357 n'⟩
    · exact ⟨fun pq hpq => absurd ((khm rfl).symm.trans hpq) (by simp), fun _ => Ht e' m6861 (hX6820.trans (bT_r hF6857)) (by have q := hE6864; simp only at q ⊢; omega) hR6865 q6866 n'⟩
  · exact ⟨fun pq hpq => absurd ((khm rfl).symm.trans hpq) (by simp), fun _ => Ht e' m6813 (hX6767.trans (bT_r hF6809)) (by have q := hE6816; simp only at q ⊢; omega) hR6817 q6818 n'⟩
def F199 (f : Nat) (m : yM) : Option ((Int ⊕ Nat) × yM) := (if m (pA (m 0 4)) 17 = (-1) then (some (.inr 11, m)) else (bT (F198 f (pA (m 0 4)) m) (fun _ m7362 => (some (.inl (m7362 169 6), m7362))) (fun e' m7362 => (some (.inr e', m7362)))))
set_option maxRecDepth 100000 in
theorem d199 {L : Nat} {xs : Nat → Int32} {k d n : Nat} {c : yS3} {f : Nat} {m : yM} (hk : k ≤ f) (hR : RM c m) : PC (gZ L xs) k d 199 [.ref 0] m n (qEIe (fun e => e = 10 ∨ e = 11 ∨ e = 12 ∨ e = 13) (F199 f m)) := by
  have hX : F199 f m = F199 f m := rfl
  have Hr : ∀ r m', F199 f m = some (.inl r, m') → rg r → (∃ c, RM c m') → ∀ n' : Nat, (qEIe (fun e => e = 10 ∨ e = 11 ∨ e = 12 ∨ e = 13) (F199 f m)) (.inl (some (yI r))) m' n' := fun r m' e h1 h2 n' => Or.inl ⟨r, rfl, h1, h2, e⟩
  have Ht : ∀ e m', F199 f m = some (.inr e, m') → (fun e => e = 10 ∨ e = 11 ∨ e = 12 ∨ e = 13) e → (∃ c, RM c m') → ∀ x n' : Nat, (qEIe (fun e => e = 10 ∨ e = 11 ∨ e = 12 ∨ e = 13) (F199 f m)) (.inr (e, x)) m' n' := fun e m' e1 h1 h2 x n' => Or.inr ⟨e, x, rfl, h1, h2, e1⟩
  refine PC.mk [some (.ref 0)] kn199 rfl ?_
  refine p_aload 1 c199_0 rfl rfl ?_
  refine p_getV 4 (.ref (pA (m 0 4))) c199_1 rfl kf0_4 (pA_sv2 hR.2.1 rfl) ?_
  refine p_getX 7 (m (pA (m 0 4)) 17) c199_4 rfl (kP_17 (pA_is _)) rfl ?_
  refine p_iconst 8 c199_7 rfl ?_
  refine p_icmp 19 11 c199_8 rfl rfl (yc_ne (hR.rg _ _) (rgD rfl)) (fun hb6755 k6756 hk6756 => ?_) (fun hb6755 k6757 hk6757 => ?_)
  · have hX6758 := hX.trans (if_neg hb6755)
    refine p_aload 20 c199_19 rfl rfl ?_
    refine p_getR 23 c199_20 rfl kf0_3 ?_
    refine p_aload 24 c199_23 rfl rfl ?_
    refine p_getV 27 (.ref (pA (m 0 4))) c199_24 rfl kf0_4 (pA_sv2 hR.2.1 rfl) ?_
    refine p_cTV 30 [.ref 169, .ref (pA (m 0 4))] [] c199_27 rfl rfl rfl (fun k' hk' d' => d198 (f := f) (by omega) (pA_is _) hR) (fun m7362 hF7358 hR7363 n6760 k6759 hk6759 => ?_) (fun e' q7367 m7362 n' hF7358 hE7365 hR7366 => ?_)
    · have hX7361 := hX6758.trans (bT_l hF7358)
      refine p_aload 31 c199_30 rfl rfl ?_
      refine p_getR 34 c199_31 rfl kf0_3 ?_
      refine p_getX 37 (m7362 169 6) c199_34 rfl kf169_6 rfl ?_
      exact p_ireturn c199_37 (Hr _ _ hX7361 (hR7363.rg _ _) ⟨_, hR7363⟩ _)
    · exact ⟨fun pq hpq => absurd ((khm rfl).symm.trans hpq) (by simp), fun _ => Ht e' m7362 (hX6758.trans (bT_r hF7358)) hE7365 ⟨_, hR7366⟩ q7367 n'⟩
  · have hX7368 := hX.trans (if_pos (Classical.not_not.mp hb6755))
    exact p_throw c199_11 (fun x n' => Ht _ _ hX7368 (Or.inr (Or.inl rfl)) ⟨_, hR⟩ x n')
def F200 (f : Nat) (m : yM) : Option (Int × yM) := (bT (F199 f m) (fun r7371 m7373 => (some (0, yup m7373 413 0 ((i2l r7371).toInt)))) (fun e' m7373 => (if e' = 10 then (some (4, m7373)) else (if e' = 11 then (some (1, m7373)) else (if e' = 12 then (some (2, m7373)) else (if e' = 13 then (some (3, m7373)) else none))))))
set_option maxRecDepth 100000 in
theorem d200 {L : Nat} {xs : Nat → Int32} {k d n : Nat} {c : yS3} {f : Nat} {m : yM} (hk : k ≤ f) (hR : RM c m) : PC (gZ L xs) k d 200 [.ref 0, .ref 413] m n (qSe (F200 f m)) := by
  have hX : F200 f m = F200 f m := rfl
  have Hr : ∀ r m', F200 f m = some (r, m') → rg r → (∃ c, RM c m') → ∀ n' : Nat, (qSe (F200 f m)) (.inl (some (yI r))) m' n' := fun r m' e h1 h2 n' => ⟨r, rfl, h1, h2, e⟩
  refine PC.mk [some (.ref 0), some (.ref 413), none] kn200 rfl ?_
  refine p_aload 1 c200_0 rfl rfl ?_
  refine p_iconst 2 c200_1 rfl ?_
  refine p_aload 3 c200_2 rfl rfl ?_
  refine p_cTIe 6 [.ref 0] [yI 0, .ref 413] c200_3 rfl rfl rfl (fun k' hk' d' => d199 (f := f) (by omega) hR) (fun r7371 m7373 c7379 hF7369 hg7370 hR7374 n6754 k6753 hk6753 => ?_) (fun e' q7378 m7373 n' c7379 hF7369 hE7376 hR7377 => ?_)
  · have hX7372 := hX.trans (bT_l hF7369)
    refine p_i2l 7 c200_6 rfl ?_
    refine p_laS 8 c200_7 rfl kl413 (rgD rfl) (fun hx7380 => ?_)
    have hR7381 := hR7374.up 413 0 (v := (i2l r7371).toInt) (nselD rfl) (rg_i2l _)
    refine p_goto 23 c200_8 rfl ?_
    refine p_iconst 24 c200_23 rfl ?_
    exact p_ireturn c200_24 (Hr _ _ hX7372 (rgD rfl) ⟨_, hR7381⟩ _)
  · have hXe := hX.trans (bT_r hF7369)
    rcases hE7376 with rfl | rfl | rfl | rfl
    · have hX7382 := hXe.trans (if_pos rfl)
      refine ⟨fun pq hpq k7383 hk7383 => ?_, fun hno => absurd (r_kh200_3_10.symm.trans hno) (by simp)⟩
      have hpp : pq = 20 := by have := r_kh200_3_10.symm.trans hpq; simpa using this.symm
      subst hpp
      refine p_astore 21 c200_20 rfl rfl ?_
      refine p_iconst 22 c200_21 rfl ?_
      exact p_ireturn c200_22 (Hr _ _ hX7382 (rgD rfl) ⟨_, hR7377⟩ _)
    · have hX7384 := (hXe.trans (if_neg (by decide))).trans (if_pos rfl)
      refine ⟨fun pq hpq k7385 hk7385 => ?_, fun hno => absurd (r_kh200_3_11.symm.trans hno) (by simp)⟩
      have hpp : pq = 11 := by have := r_kh200_3_11.symm.trans hpq; simpa using this.symm
      subst hpp
      refine p_astore 12 c200_11 rfl rfl ?_
      refine p_iconst 13 c200_12 rfl ?_
      exact p_ireturn c200_13 (Hr _ _ hX7384 (rgD rfl) ⟨_, hR7377⟩ _)
    · have hX7386 := ((hXe.trans (if_neg (by decide))).trans (if_neg (by decide))).trans (if_pos rfl)
      refine ⟨fun pq hpq k7387 hk7387 => ?_, fun hno => absurd (r_kh200_3_12.symm.trans hno) (by simp)⟩
      have hpp : pq = 14 := by have := r_kh200_3_12.symm.trans hpq; simpa using this.symm
      subst hpp
      refine p_astore 15 c200_14 rfl rfl ?_
      refine p_iconst 16 c200_15 rfl ?_
      exact p_ireturn c200_16 (Hr _ _ hX7386 (rgD rfl) ⟨_, hR7377⟩ _)
    · have hX7388 := (((hXe.trans (if_neg (by decide))).trans (if_neg (by decide))).trans (if_neg (by decide))).trans (if_pos rfl)
      refine ⟨fun pq hpq k7389 hk7389 => ?_, fun hno => absurd (r_kh200_3_13.symm.trans hno) (by simp)⟩
      have hpp : pq = 17 := by have := r_kh200_3_13.symm.trans hpq; simpa using this.symm
      subst hpp
      refine p_astore 18 c200_17 rfl rfl ?_
      refine p_iconst 19 c200_18 rfl ?_
      exact p_ireturn c200_19 (Hr _ _ hX7388 (rgD rfl) ⟨_, hR7377⟩ _)
def B201_28 (f : Nat) (x2 : Int) (m : yM) : Option ((Int × yM) ⊕ ((Int × yM) ⊕ (Int × yM))) := (if x2 < 8 then (some (.inl ((wr (x2 + 1)), yup m 410 (wr ((wr (8 * (m 376 51))) + x2)).toNat 0))) else (some (.inr (.inl (x2, m)))))
set_option maxRecDepth 100000 in
theorem tB201_28 {L : Nat} {xs : Nat → Int32} {Q : xO → yM → Nat → Prop} {k d n : Nat} {c : yS3} {f : Nat} {x2 : Int} {m : yM} {j1 : Option Value} (hk : k ≤ f) (gx2 : rg x2) (hR : RM c m) (Hn : ∀ (y0 : Int) (z0 : Option Value) (m' : yM) (n' : Nat), B201_28 f x2 m = some (.inl (y0, m')) → rg y0 → RM c m' → ∀ k', k' < k → PW (gZ L xs) k' 201 d 28 [some (.ref 376), z0, some (yI y0)] [] m' n' Q) (He : ∀ (y0 : Int) (z0 : Option Value) (m' : yM) (n' : Nat), B201_28 f x2 m = some (.inr (.inl (y0, m'))) → rg y0 → RM c m' → ∀ k', k' ≤ k → PW (gZ L xs) k' 201 d 55 [some (.ref 376), z0, some (yI y0)] [] m' n' Q) (Hr : ∀ r m', B201_28 f x2 m = some (.inr (.inr (r, m'))) → rg r → RM c m' → ∀ n', Q (.inl (some (yI r))) m' n') : PW (gZ L xs) k 201 d 28 [some (.ref 376), j1, some (yI x2)] [] m n Q := by
  have hX : B201_28 f x2 m = B201_28 f x2 m := rfl
  refine p_iload 29 c201_28 rfl rfl ?_
  refine p_iconst 31 c201_29 rfl ?_
  refine p_icmp 55 34 c201_31 rfl rfl ((yc_ge gx2 (rgD rfl)).trans Int.not_lt.symm) (fun hb7443 k7444 hk7444 => ?_) (fun hb7443 k7445 hk7445 => ?_)
  · have hX7446 := hX.trans (if_neg hb7443)
    exact He _ _ _ _ hX7446 gx2 hR _ (by omega)
  · have hX7447 := hX.trans (if_pos (Classical.not_not.mp hb7443))
    refine p_aload 35 c201_34 rfl rfl ?_
    refine p_getR 38 c201_35 rfl kf376_50 ?_
    refine p_iconst 40 c201_38 rfl ?_
    refine p_aload 41 c201_40 rfl rfl ?_
    refine p_getX 44 (m 376 51) c201_41 rfl kf376_51 rfl ?_
    refine p_imul 45 c201_44 rfl ?_
    refine p_iload 46 c201_45 rfl rfl ?_
    refine p_iadd 47 c201_46 rfl ?_
    refine p_iconst 48 c201_47 rfl ?_
    refine p_iaS 49 c201_48 rfl ka410 (rg_wr _) 0 (nar0 (rgD rfl)) (fun hx7448 => ?_)
    have hR7449 := hR.up 410 (wr ((wr (8 * (m 376 51))) + x2)).toNat (v := 0) (nselA (by decide)) (rgD rfl)
    refine p_iinc 52 c201_49 rfl rfl rfl ?_
    refine p_gotoD 28 c201_52 rfl (fun k7450 hk7450 => ?_)
    exact Hn _ _ _ _ hX7447 (rg_wr _) hR7449 _ (by omega)
def F201 (f : Nat) (x1 : Int) (m : yM) : Option (Int × yM) := (if m 376 51 = 30 then (some (0, yup m 376 57 4)) else (bL (yloop (fun (l : Int) ml => B201_28 f l ml) f 0 (yup m 409 (m 376 51).toNat x1)) (fun l7451 m7457 => (some (wr ((m7457 376 51) + 1), yup m7457 376 51 (wr ((m7457 376 51) + 1))))) (fun r mr => some (r, mr))))
set_option maxRecDepth 100000 in
theorem d201 {L : Nat} {xs : Nat → Int32} {k d n : Nat} {c : yS3} {f : Nat} {x1 : Int} {m : yM} (hk : k ≤ f) (gx1 : rg x1) (hR : RM c m) : PC (gZ L xs) k d 201 [.ref 376, yI x1] m n (qS c (F201 f x1 m)) := by
  have hX : F201 f x1 m = F201 f x1 m := rfl
  have Hr : ∀ r m', F201 f x1 m = some (r, m') → rg r → RM c m' → ∀ n' : Nat, (qS c (F201 f x1 m)) (.inl (some (yI r))) m' n' := fun r m' e h1 h2 n' => ⟨r, rfl, h1, h2, e⟩
  refine PC.mk [some (.ref 376), some (yI x1), none] kn201 rfl ?_
  refine p_aload 1 c201_0 rfl rfl ?_
  refine p_getX 4 (m 376 51) c201_1 rfl kf376_51 rfl ?_
  refine p_iconst 6 c201_4 rfl ?_
  refine p_icmp 16 9 c201_6 rfl rfl (yc_ne (hR.rg _ _) (rgD rfl)) (fun hb7437 k7438 hk7438 => ?_) (fun hb7437 k7439 hk7439 => ?_)
  · have hX7440 := hX.trans (if_neg hb7437)
    refine p_aload 17 c201_16 rfl rfl ?_
    refine p_getR 20 c201_17 rfl kf376_49 ?_
    refine p_aload 21 c201_20 rfl rfl ?_
    refine p_getX 24 (m 376 51) c201_21 rfl kf376_51 rfl ?_
    refine p_iload 25 c201_24 rfl rfl ?_
    refine p_iaS 26 c201_25 rfl ka409 (hR.rg _ _) x1 (nar0 gx1) (fun hx7441 => ?_)
    have hR7442 := hR.up 409 (m 376 51).toNat (v := x1) (nselA (by decide)) gx1
    refine p_iconst 27 c201_26 rfl ?_
    refine p_istore 28 c201_27 rfl rfl ?_
    refine PW.loop (K := k7438) (pce := 55) (fun (l : Int) ml => B201_28 f l ml) (fun (l : Int) j => [some (.ref 376), j 1, some (yI l)]) (fun (l : Int) => rg l) (RM c) (fun r' m' => rg r' → RM c m' → ∀ n' : Nat, (qS c (F201 f x1 m)) (.inl (some (yI r'))) m' n') (fun k' hk' l j m' n' hl hI Hn' He' Hr' => tB201_28 (f := f) (by omega) hl hI (fun y0 y1 m2 n2 e h0 hR2 => Hn' y0 (fun q => ([none, y1, none] : List (Option Value)).getD q none) m2 n2 e h0 hR2) (fun y0 y1 m2 n2 e h0 hR2 => He' y0 (fun q => ([none, y1, none] : List (Option Value)).getD q none) m2 n2 e h0 hR2) Hr') f k7438 (by omega) (Nat.le_refl _) 0 (fun q => ([some (.ref 376), some (yI x1), some (yI 0)] : xL).getD q none) _ _ (rgD rfl) hR7442 (fun l7451 j7454 m7457 n7456 e7453 hl7452 hR7458 k7455 hk7455 => ?_) (fun r' m' e' => ?_)
    · have hX7459 := hX7440.trans (bL_l e7453)
      refine p_aload 56 c201_55 rfl rfl ?_
      refine p_dup 57 c201_56 rfl rfl ?_
      refine p_getX 60 (m7457 376 51) c201_57 rfl kf376_51 rfl ?_
      refine p_iconst 61 c201_60 rfl ?_
      refine p_iadd 62 c201_61 rfl ?_
      refine p_putI 65 c201_62 rfl kf376_51 ?_
      have hR7460 := hR7458.up 376 51 (v := wr ((m7457 376 51) + 1)) (nselD rfl) (rg_wr _)
      refine p_aload 66 c201_65 rfl rfl ?_
      refine p_getX 69 (wr ((m7457 376 51) + 1)) c201_66 rfl kf376_51 (yup_eq _ _ _ _) ?_
      exact p_ireturn c201_69 (Hr _ _ hX7459 (rg_wr _) hR7460 _)
    · exact Hr r' m' (hX7440.trans (bL_r e'))
  · have hX7461 := hX.trans (if_pos (Classical.not_not.mp hb7437))
    refine p_aload 10 c201_9 rfl rfl ?_
    refine p_iconst 11 c201_10 rfl ?_
    refine p_putI 14 c201_11 rfl kf376_57 ?_
    have hR7462 := hR.up 376 57 (v := 4) (nselD rfl) (rgD rfl)
    refine p_iconst 15 c201_14 rfl ?_
    exact p_ireturn c201_15 (Hr _ _ hX7461 (rgD rfl) hR7462 _)
def F202 (f : Nat) (x1 : Int) (x2 : Int) (m : yM) : Option yM := (if 0 < x2 then (some (yup (yup m 411 (wr ((wr (48 * (wr ((m 376 54) - 1)))) + x1)).toNat x2) 408 (wr ((wr (12 * x1)) + (m 409 (wr (x2 - 1)).toNat))).toNat 1)) else (some (yup m 411 (wr ((wr (48 * (wr ((m 376 54) - 1)))) + x1)).toNat x2)))
set_option maxRecDepth 100000 in
theorem d202 {L : Nat} {xs : Nat → Int32} {k d n : Nat} {c : yS3} {f : Nat} {x1 : Int} {x2 : Int} {m : yM} (hk : k ≤ f) (gx1 : rg x1) (gx2 : rg x2) (hR : RM c m) : PC (gZ L xs) k d 202 [.ref 376, yI x1, yI x2] m n (qV c (F202 f x1 x2 m)) := by
  have hX : F202 f x1 x2 m = F202 f x1 x2 m := rfl
  have Hr : ∀ m', F202 f x1 x2 m = some m' → RM c m' → ∀ n' : Nat, (qV c (F202 f x1 x2 m)) (.inl none) m' n' := fun m' e h n' => ⟨rfl, h, e⟩
  refine PC.mk [some (.ref 376), some (yI x1), some (yI x2)] kn202 rfl ?_
  refine p_aload 1 c202_0 rfl rfl ?_
  refine p_getR 4 c202_1 rfl kf376_52 ?_
  refine p_iconst 6 c202_4 rfl ?_
  refine p_aload 7 c202_6 rfl rfl ?_
  refine p_getX 10 (m 376 54) c202_7 rfl kf376_54 rfl ?_
  refine p_iconst 11 c202_10 rfl ?_
  refine p_isub 12 c202_11 rfl ?_
  refine p_imul 13 c202_12 rfl ?_
  refine p_iload 14 c202_13 rfl rfl ?_
  refine p_iadd 15 c202_14 rfl ?_
  refine p_iload 16 c202_15 rfl rfl ?_
  refine p_iaS 17 c202_16 rfl ka411 (rg_wr _) x2 (nar0 gx2) (fun hx7504 => ?_)
  have hR7505 := hR.up 411 (wr ((wr (48 * (wr ((m 376 54) - 1)))) + x1)).toNat (v := x2) (nselA (by decide)) gx2
  refine p_iload 18 c202_17 rfl rfl ?_
  refine p_if 40 21 c202_18 rfl rfl ((yz_le gx2).trans Int.not_lt.symm) (fun hb7506 k7507 hk7507 => ?_) (fun hb7506 k7508 hk7508 => ?_)
  · have hX7509 := hX.trans (if_neg hb7506)
    exact p_return c202_40 (Hr _ hX7509 hR7505 _)
  · have hX7510 := hX.trans (if_pos (Classical.not_not.mp hb7506))
    refine p_aload 22 c202_21 rfl rfl ?_
    refine p_getR 25 c202_22 rfl kf376_48 ?_
    refine p_iconst 27 c202_25 rfl ?_
    refine p_iload 28 c202_27 rfl rfl ?_
    refine p_imul 29 c202_28 rfl ?_
    refine p_aload 30 c202_29 rfl rfl ?_
    refine p_getR 33 c202_30 rfl kf376_49 ?_
    refine p_iload 34 c202_33 rfl rfl ?_
    refine p_iconst 35 c202_34 rfl ?_
    refine p_isub 36 c202_35 rfl ?_
    refine p_iaX 37 (m 409 (wr (x2 - 1)).toNat) c202_36 rfl ka409 (rg_wr _) (yup_na (by decide)) (fun hx7511 => ?_)
    refine p_iadd 38 c202_37 rfl ?_
    refine p_iconst 39 c202_38 rfl ?_
    refine p_iaS 40 c202_39 rfl ka408 (rg_wr _) 1 rfl (fun hx7512 => ?_)
    have hR7513 := hR7505.up 408 (wr ((wr (12 * x1)) + (m 409 (wr (x2 - 1)).toNat))).toNat (v := 1) (nselA (by decide)) (rgD rfl)
    exact p_return c202_40 (Hr _ hX7510 hR7513 _)
def B203_38 (f : Nat) (x1 : Int) (x2 : Int) (x3 : Int) (x4 : Int) (x6 : Int) (m : yM) : Option ((Int × yM) ⊕ ((Int × yM) ⊕ (Unit × yM))) := (if x6 < 48 then (some (.inl ((wr (x6 + 1)), yup m 411 (wr ((wr (48 * (wr ((m 376 54) - 1)))) + x6)).toNat 0))) else (some (.inr (.inl (x6, m)))))
set_option maxRecDepth 100000 in
theorem tB203_38 {L : Nat} {xs : Nat → Int32} {Q : xO → yM → Nat → Prop} {k d n : Nat} {c : yS3} {f : Nat} {x1 : Int} {x2 : Int} {x3 : Int} {x4 : Int} {x6 : Int} {m : yM} {j5 : Option Value} (hk : k ≤ f) (gx1 : rg x1) (gx2 : rg x2) (gx3 : rg x3) (gx4 : rg x4) (gx6 : rg x6) (hR : RM c m) (Hn : ∀ (y0 : Int) (z0 : Option Value) (m' : yM) (n' : Nat), B203_38 f x1 x2 x3 x4 x6 m = some (.inl (y0, m')) → rg y0 → RM c m' → ∀ k', k' < k → PW (gZ L xs) k' 203 d 38 [some (.ref 376), some (yI x1), some (yI x2), some (yI x3), some (yI x4), z0, some (yI y0)] [] m' n' Q) (He : ∀ (y0 : Int) (z0 : Option Value) (m' : yM) (n' : Nat), B203_38 f x1 x2 x3 x4 x6 m = some (.inr (.inl (y0, m'))) → rg y0 → RM c m' → ∀ k', k' ≤ k → PW (gZ L xs) k' 203 d 69 [some (.ref 376), some (yI x1), some (yI x2), some (yI x3), some (yI x4), z0, some (yI y0)] [] m' n' Q) (Hr : ∀ m', B203_38 f x1 x2 x3 x4 x6 m = some (.inr (.inr ((), m'))) → RM c m' → ∀ n', Q (.inl none) m' n') : PW (gZ L xs) k 203 d 38 [some (.ref 376), some (yI x1), some (yI x2), some (yI x3), some (yI x4), j5, some (yI x6)] [] m n Q := by
  have hX : B203_38 f x1 x2 x3 x4 x6 m = B203_38 f x1 x2 x3 x4 x6 m := rfl
  refine p_iload 40 c203_38 rfl rfl ?_
  refine p_iconst 42 c203_40 rfl ?_
  refine p_icmp 69 45 c203_42 rfl rfl ((yc_ge gx6 (rgD rfl)).trans Int.not_lt.symm) (fun hb7484 k7485 hk7485 => ?_) (fun hb7484 k7486 hk7486 => ?_)
  · have hX7487 := hX.trans (if_neg hb7484)
    exact He _ _ _ _ hX7487 gx6 hR _ (by omega)
  · have hX7488 := hX.trans (if_pos (Classical.not_not.mp hb7484))
    refine p_aload 46 c203_45 rfl rfl ?_
    refine p_getR 49 c203_46 rfl kf376_52 ?_
    refine p_iconst 51 c203_49 rfl ?_
    refine p_aload 52 c203_51 rfl rfl ?_
    refine p_getX 55 (m 376 54) c203_52 rfl kf376_54 rfl ?_
    refine p_iconst 56 c203_55 rfl ?_
    refine p_isub 57 c203_56 rfl ?_
    refine p_imul 58 c203_57 rfl ?_
    refine p_iload 60 c203_58 rfl rfl ?_
    refine p_iadd 61 c203_60 rfl ?_
    refine p_iconst 62 c203_61 rfl ?_
    refine p_iaS 63 c203_62 rfl ka411 (rg_wr _) 0 (nar0 (rgD rfl)) (fun hx7489 => ?_)
    have hR7490 := hR.up 411 (wr ((wr (48 * (wr ((m 376 54) - 1)))) + x6)).toNat (v := 0) (nselA (by decide)) (rgD rfl)
    refine p_iinc 66 c203_63 rfl rfl rfl ?_
    refine p_gotoD 38 c203_66 rfl (fun k7491 hk7491 => ?_)
    exact Hn _ _ _ _ hX7488 (rg_wr _) hR7490 _ (by omega)
def J203_148 (f : Nat) (x1 : Int) (m : yM) : Option yM := (some (yup m 376 55 (m 399 (wr ((wr (10 * (m 376 18))) + x1)).toNat)))
set_option maxRecDepth 100000 in
theorem tJ203_148 {L : Nat} {xs : Nat → Int32} {Q : xO → yM → Nat → Prop} {k d n : Nat} {c : yS3} {f : Nat} {x1 : Int} {m : yM} {j2 j3 j4 j5 j6 : Option Value} (hk : k ≤ f) (gx1 : rg x1) (hR : RM c m) (Hr : ∀ m', J203_148 f x1 m = some m' → RM c m' → ∀ n', Q (.inl none) m' n') : PW (gZ L xs) k 203 d 148 [some (.ref 376), some (yI x1), j2, j3, j4, j5, j6] [] m n Q := by
  have hX : J203_148 f x1 m = J203_148 f x1 m := rfl
  refine p_aload 149 c203_148 rfl rfl ?_
  refine p_aload 150 c203_149 rfl rfl ?_
  refine p_getR 153 c203_150 rfl kf376_36 ?_
  refine p_iconst 155 c203_153 rfl ?_
  refine p_aload 156 c203_155 rfl rfl ?_
  refine p_getX 159 (m 376 18) c203_156 rfl kf376_18 rfl ?_
  refine p_imul 160 c203_159 rfl ?_
  refine p_iload 161 c203_160 rfl rfl ?_
  refine p_iadd 162 c203_161 rfl ?_
  refine p_iaX 163 (m 399 (wr ((wr (10 * (m 376 18))) + x1)).toNat) c203_162 rfl ka399 (rg_wr _) rfl (fun hx7530 => ?_)
  refine p_putI 166 c203_163 rfl kf376_55 ?_
  have hR7531 := hR.up 376 55 (v := m 399 (wr ((wr (10 * (m 376 18))) + x1)).toNat) (nselD rfl) (hR.rg _ _)
  exact p_return c203_166 (Hr _ hX hR7531 _)
def J203_120 (f : Nat) (x1 : Int) (x4 : Int) (x6 : Int) (m : yM) : Option yM := (if 1 < m 397 (wr ((wr (10 * (m 376 18))) + x1)).toNat then (bU (F202 f (wr (x6 + 3)) x4 m) (fun m7539 => (J203_148 f x1 m7539))) else (J203_148 f x1 m))
set_option maxRecDepth 100000 in
theorem tJ203_120 {L : Nat} {xs : Nat → Int32} {Q : xO → yM → Nat → Prop} {k d n : Nat} {c : yS3} {f : Nat} {x1 : Int} {x4 : Int} {x6 : Int} {m : yM} {j2 j3 j5 : Option Value} (hk : k ≤ f) (gx1 : rg x1) (gx4 : rg x4) (gx6 : rg x6) (hR : RM c m) (Hr : ∀ m', J203_120 f x1 x4 x6 m = some m' → RM c m' → ∀ n', Q (.inl none) m' n') : PW (gZ L xs) k 203 d 120 [some (.ref 376), some (yI x1), j2, j3, some (yI x4), j5, some (yI x6)] [] m n Q := by
  have hX : J203_120 f x1 x4 x6 m = J203_120 f x1 x4 x6 m := rfl
  refine p_aload 121 c203_120 rfl rfl ?_
  refine p_getR 124 c203_121 rfl kf376_34 ?_
  refine p_iconst 126 c203_124 rfl ?_
  refine p_aload 127 c203_126 rfl rfl ?_
  refine p_getX 130 (m 376 18) c203_127 rfl kf376_18 rfl ?_
  refine p_imul 131 c203_130 rfl ?_
  refine p_iload 132 c203_131 rfl rfl ?_
  refine p_iadd 133 c203_132 rfl ?_
  refine p_iaX 134 (m 397 (wr ((wr (10 * (m 376 18))) + x1)).toNat) c203_133 rfl ka397 (rg_wr _) rfl (fun hx7525 => ?_)
  refine p_iconst 135 c203_134 rfl ?_
  refine p_icmp 148 138 c203_135 rfl rfl ((yc_le (hR.rg _ _) (rgD rfl)).trans Int.not_lt.symm) (fun hb7526 k7527 hk7527 => ?_) (fun hb7526 k7528 hk7528 => ?_)
  · have hX7529 := hX.trans (if_neg hb7526)
    exact tJ203_148 (f := f) (by omega) gx1 hR (fun m' e' => Hr m' (hX7529.trans e'))
  · have hX7532 := hX.trans (if_pos (Classical.not_not.mp hb7526))
    refine p_aload 139 c203_138 rfl rfl ?_
    refine p_iload 141 c203_139 rfl rfl ?_
    refine p_iconst 142 c203_141 rfl ?_
    refine p_iadd 143 c203_142 rfl ?_
    refine p_iload 145 c203_143 rfl rfl ?_
    refine p_cV 148 [.ref 376, yI (wr (x6 + 3)), yI x4] [] c203_145 rfl rfl rfl (fun k' hk' d' => d202 (f := f) (by omega) (rg_wr _) gx4 hR) (fun m7539 hF7535 hR7540 n7534 k7533 hk7533 => ?_)
    have hX7538 := hX7532.trans (bU_s hF7535)
    exact tJ203_148 (f := f) (by omega) gx1 hR7540 (fun m' e' => Hr m' (hX7538.trans e'))
def F203 (f : Nat) (x1 : Int) (x2 : Int) (x3 : Int) (x4 : Int) (x5 : Int) (m : yM) : Option yM := (if m 376 54 = 4 then (some (yup m 376 57 4)) else (bL (yloop (fun (l : Int) ml => B203_38 f x1 x2 x3 x4 l ml) f 0 (yup (yup m 412 (m 376 54).toNat x5) 376 54 (wr ((m 376 54) + 1)))) (fun l7492 m7498 => (bU (F202 f (wr ((m7498 398 (wr ((wr (10 * (m7498 376 18))) + x1)).toNat) + 1)) x2 m7498) (fun m7518 => (if 0 < m7518 397 (wr ((wr (10 * (m7518 376 18))) + x1)).toNat then (bU (F202 f (wr ((m7498 398 (wr ((wr (10 * (m7498 376 18))) + x1)).toNat) + 2)) x3 m7518) (fun m7548 => (J203_120 f x1 x4 (m7498 398 (wr ((wr (10 * (m7498 376 18))) + x1)).toNat) m7548))) else (J203_120 f x1 x4 (m7498 398 (wr ((wr (10 * (m7498 376 18))) + x1)).toNat) m7518))))) (fun _ mr => some mr)))
set_option maxRecDepth 100000 in
theorem d203 {L : Nat} {xs : Nat → Int32} {k d n : Nat} {c : yS3} {f : Nat} {x1 : Int} {x2 : Int} {x3 : Int} {x4 : Int} {x5 : Int} {m : yM} (hk : k ≤ f) (gx1 : rg x1) (gx2 : rg x2) (gx3 : rg x3) (gx4 : rg x4) (gx5 : rg x5) (hR : RM c m) : PC (gZ L xs) k d 203 [.ref 376, yI x1, yI x2, yI x3, yI x4, yI x5] m n (qV c (F203 f x1 x2 x3 x4 x5 m)) := by
  have hX : F203 f x1 x2 x3 x4 x5 m = F203 f x1 x2 x3 x4 x5 m := rfl
  have Hr : ∀ m', F203 f x1 x2 x3 x4 x5 m = some m' → RM c m' → ∀ n' : Nat, (qV c (F203 f x1 x2 x3 x4 x5 m)) (.inl none) m' n' := fun m' e h n' => ⟨rfl, h, e⟩
  refine PC.mk [some (.ref 376), some (yI x1), some (yI x2), some (yI x3), some (yI x4), some (yI x5), none] kn203 rfl ?_
  refine p_aload 1 c203_0 rfl rfl ?_
  refine p_getX 4 (m 376 54) c203_1 rfl kf376_54 rfl ?_
  refine p_iconst 5 c203_4 rfl ?_
  refine p_icmp 14 8 c203_5 rfl rfl (yc_ne (hR.rg _ _) (rgD rfl)) (fun hb7477 k7478 hk7478 => ?_) (fun hb7477 k7479 hk7479 => ?_)
  · have hX7480 := hX.trans (if_neg hb7477)
    refine p_aload 15 c203_14 rfl rfl ?_
    refine p_getR 18 c203_15 rfl kf376_53 ?_
    refine p_aload 19 c203_18 rfl rfl ?_
    refine p_getX 22 (m 376 54) c203_19 rfl kf376_54 rfl ?_
    refine p_iload 24 c203_22 rfl rfl ?_
    refine p_iaS 25 c203_24 rfl ka412 (hR.rg _ _) x5 (nar0 gx5) (fun hx7481 => ?_)
    have hR7482 := hR.up 412 (m 376 54).toNat (v := x5) (nselA (by decide)) gx5
    refine p_aload 26 c203_25 rfl rfl ?_
    refine p_dup 27 c203_26 rfl rfl ?_
    refine p_getX 30 (m 376 54) c203_27 rfl kf376_54 (yup_na (by decide)) ?_
    refine p_iconst 31 c203_30 rfl ?_
    refine p_iadd 32 c203_31 rfl ?_
    refine p_putI 35 c203_32 rfl kf376_54 ?_
    have hR7483 := hR7482.up 376 54 (v := wr ((m 376 54) + 1)) (nselD rfl) (rg_wr _)
    refine p_iconst 36 c203_35 rfl ?_
    refine p_istore 38 c203_36 rfl rfl ?_
    refine PW.loop (K := k7478) (pce := 69) (fun (l : Int) ml => B203_38 f x1 x2 x3 x4 l ml) (fun (l : Int) j => [some (.ref 376), some (yI x1), some (yI x2), some (yI x3), some (yI x4), j 5, some (yI l)]) (fun (l : Int) => rg l) (RM c) (fun (r' : Unit) m' => RM c m' → ∀ n' : Nat, (qV c (F203 f x1 x2 x3 x4 x5 m)) (.inl none) m' n') (fun k' hk' l j m' n' hl hI Hn' He' Hr' => tB203_38 (f := f) (by omega) gx1 gx2 gx3 gx4 hl hI (fun y0 y1 m2 n2 e h0 hR2 => Hn' y0 (fun q => ([none, none, none, none, none, y1, none] : List (Option Value)).getD q none) m2 n2 e h0 hR2) (fun y0 y1 m2 n2 e h0 hR2 => He' y0 (fun q => ([none, none, none, none, none, y1, none] : List (Option Value)).getD q none) m2 n2 e h0 hR2) (fun m2 e => Hr' () m2 e)) f k7478 (by omega) (Nat.le_refl _) 0 (fun q => ([some (.ref 376), some (yI x1), some (yI x2), some (yI x3), some (yI x4), some (yI x5), some (yI 0)] : xL).getD q none) _ _ (rgD rfl) hR7483 (fun l7492 j7495 m7498 n7497 e7494 hl7493 hR7499 k7496 hk7496 => ?_) (fun r' m' e' => ?_)
    · have hX7500 := hX7480.trans (bL_l e7494)
      refine p_aload 70 c203_69 rfl rfl ?_
      refine p_getR 73 c203_70 rfl kf376_35 ?_
      refine p_iconst 75 c203_73 rfl ?_
      refine p_aload 76 c203_75 rfl rfl ?_
      refine p_getX 79 (m7498 376 18) c203_76 rfl kf376_18 rfl ?_
      refine p_imul 80 c203_79 rfl ?_
      refine p_iload 81 c203_80 rfl rfl ?_
      refine p_iadd 82 c203_81 rfl ?_
      refine p_iaX 83 (m7498 398 (wr ((wr (10 * (m7498 376 18))) + x1)).toNat) c203_82 rfl ka398 (rg_wr _) rfl (fun hx7501 => ?_)
      refine p_istore 85 c203_83 rfl rfl ?_
      refine p_aload 86 c203_85 rfl rfl ?_
      refine p_iload 88 c203_86 rfl rfl ?_
      refine p_iconst 89 c203_88 rfl ?_
      refine p_iadd 90 c203_89 rfl ?_
      refine p_iload 91 c203_90 rfl rfl ?_
      refine p_cV 94 [.ref 376, yI (wr ((m7498 398 (wr ((wr (10 * (m7498 376 18))) + x1)).toNat) + 1)), yI x2] [] c203_91 rfl rfl rfl (fun k' hk' d' => d202 (f := f) (by omega) (rg_wr _) gx2 hR7499) (fun m7518 hF7514 hR7519 n7503 k7502 hk7502 => ?_)
      have hX7517 := hX7500.trans (bU_s hF7514)
      refine p_aload 95 c203_94 rfl rfl ?_
      refine p_getR 98 c203_95 rfl kf376_34 ?_
      refine p_iconst 100 c203_98 rfl ?_
      refine p_aload 101 c203_100 rfl rfl ?_
      refine p_getX 104 (m7518 376 18) c203_101 rfl kf376_18 rfl ?_
      refine p_imul 105 c203_104 rfl ?_
      refine p_iload 106 c203_105 rfl rfl ?_
      refine p_iadd 107 c203_106 rfl ?_
      refine p_iaX 108 (m7518 397 (wr ((wr (10 * (m7518 376 18))) + x1)).toNat) c203_107 rfl ka397 (rg_wr _) rfl (fun hx7520 => ?_)
      refine p_if 120 111 c203_108 rfl rfl ((yz_le (hR7519.rg _ _)).trans Int.not_lt.symm) (fun hb7521 k7522 hk7522 => ?_) (fun hb7521 k7523 hk7523 => ?_)
      · have hX7524 := hX7517.trans (if_neg hb7521)
        exact tJ203_120 (f := f) (by omega) gx1 gx4 (hR7499.rg _ _) hR7519 (fun m' e' => Hr m' (hX7524.trans e'))
      · have hX7541 := hX7517.trans (if_pos (Classical.not_not.mp hb7521))
        refine p_aload 112 c203_111 rfl rfl ?_
        refine p_iload 114 c203_112 rfl rfl ?_
        refine p_iconst 115 c203_114 rfl ?_
        refine p_iadd 116 c203_115 rfl ?_
        refine p_iload 117 c203_116 rfl rfl ?_
        refine p_cV 120 [.ref 376, yI (wr ((m7498 398 (wr ((wr (10 * (m7498 376 18))) + x1)).toNat) + 2)), yI x3] [] c203_117 rfl rfl rfl (fun k' hk' d' => d202 (f := f) (by omega) (rg_wr _) gx3 hR7519) (fun m7548 hF7544 hR7549 n7543 k7542 hk7542 => ?_)
        have hX7547 := hX7541.trans (bU_s hF7544)
        exact tJ203_120 (f := f) (by omega) gx1 gx4 (hR7499.rg _ _) hR7549 (fun m' e' => Hr m' (hX7547.trans e'))
    · exact Hr m' (hX7480.trans (bL_r e'))
  · have hX7550 := hX.trans (if_pos (Classical.not_not.mp hb7477))
    refine p_aload 9 c203_8 rfl rfl ?_
    refine p_iconst 10 c203_9 rfl ?_
    refine p_putI 13 c203_10 rfl kf376_57 ?_
    have hR7551 := hR.up 376 57 (v := 4) (nselD rfl) (rgD rfl)
    exact p_return c203_13 (Hr _ hX7550 hR7551 _)
def F205 (x1 : Int) (m : yM) : Int := (m 411 (wr ((wr (48 * (wr ((m 376 54) - 1)))) + x1)).toNat)
set_option maxRecDepth 100000 in
theorem d205 {L : Nat} {xs : Nat → Int32} {k d n : Nat} {c : yS3} {x1 : Int} {m : yM} (gx1 : rg x1) (hR : RM c m) : PC (gZ L xs) k d 205 [.ref 376, yI x1] m n (qX m (F205 x1 m)) := by
  have hX : F205 x1 m = F205 x1 m := rfl
  have Hr : ∀ r, F205 x1 m = r → rg r → ∀ n' : Nat, (qX m (F205 x1 m)) (.inl (some (yI r))) m n' := fun r e h n' => by subst e; exact ⟨rfl, h, rfl⟩
  refine PC.mk [some (.ref 376), some (yI x1)] kn205 rfl ?_
  refine p_aload 1 c205_0 rfl rfl ?_
  refine p_getR 4 c205_1 rfl kf376_52 ?_
  refine p_iconst 6 c205_4 rfl ?_
  refine p_aload 7 c205_6 rfl rfl ?_
  refine p_getX 10 (m 376 54) c205_7 rfl kf376_54 rfl ?_
  refine p_iconst 11 c205_10 rfl ?_
  refine p_isub 12 c205_11 rfl ?_
  refine p_imul 13 c205_12 rfl ?_
  refine p_iload 14 c205_13 rfl rfl ?_
  refine p_iadd 15 c205_14 rfl ?_
  refine p_iaX 16 (m 411 (wr ((wr (48 * (wr ((m 376 54) - 1)))) + x1)).toNat) c205_15 rfl ka411 (rg_wr _) rfl (fun hx7598 => ?_)
  exact p_ireturn c205_16 (Hr _ hX (hR.rg _ _) _)
def F206 (x1 : Int) (m : yM) : Int := (m 400 (wr ((wr (12 * (m 376 18))) + (m 409 (wr (x1 - 1)).toNat))).toNat)
set_option maxRecDepth 100000 in
theorem d206 {L : Nat} {xs : Nat → Int32} {k d n : Nat} {c : yS3} {x1 : Int} {m : yM} (gx1 : rg x1) (hR : RM c m) : PC (gZ L xs) k d 206 [.ref 376, yI x1] m n (qX m (F206 x1 m)) := by
  have hX : F206 x1 m = F206 x1 m := rfl
  have Hr : ∀ r, F206 x1 m = r → rg r → ∀ n' : Nat, (qX m (F206 x1 m)) (.inl (some (yI r))) m n' := fun r e h n' => by subst e; exact ⟨rfl, h, rfl⟩
  refine PC.mk [some (.ref 376), some (yI x1)] kn206 rfl ?_
  refine p_aload 1 c206_0 rfl rfl ?_
  refine p_getR 4 c206_1 rfl kf376_37 ?_
  refine p_iconst 6 c206_4 rfl ?_
  refine p_aload 7 c206_6 rfl rfl ?_
  refine p_getX 10 (m 376 18) c206_7 rfl kf376_18 rfl ?_
  refine p_imul 11 c206_10 rfl ?_
  refine p_aload 12 c206_11 rfl rfl ?_
  refine p_getR 15 c206_12 rfl kf376_49 ?_
  refine p_iload 16 c206_15 rfl rfl ?_
  refine p_iconst 17 c206_16 rfl ?_
  refine p_isub 18 c206_17 rfl ?_
  refine p_iaX 19 (m 409 (wr (x1 - 1)).toNat) c206_18 rfl ka409 (rg_wr _) rfl (fun hx7666 => ?_)
  refine p_iadd 20 c206_19 rfl ?_
  refine p_iaX 21 (m 400 (wr ((wr (12 * (m 376 18))) + (m 409 (wr (x1 - 1)).toNat))).toNat) c206_20 rfl ka400 (rg_wr _) rfl (fun hx7667 => ?_)
  exact p_ireturn c206_21 (Hr _ hX (hR.rg _ _) _)
def J208_54 (f : Nat) (x1 : Int) (x2 : Int) (x3 : Int) (xs1 : Int) (m : yM) : Option yM := (bI (F23 f xs1 1 m) (fun r7655 m7657 => (if r7655 = 0 then (some m7657) else (bP (F121 f (m7657 376 18) (F206 x3 m7657) (m7657 403 (wr (x1 + 4)).toNat) m7657) (fun r7674 => (bI (F23 f r7674 3 m7657) (fun r7680 m7682 => (if r7680 = 0 then (some m7682) else (if x2 = 0 then (some (yup m7682 410 (wr ((wr (8 * (wr (x3 - 1)))) + (m7682 403 (wr (x1 + 4)).toNat))).toNat (F205 (m7682 403 (wr (x1 + 3)).toNat) m7682))) else (bU (F202 f (m7682 403 (wr (x1 + 2)).toNat) (m7682 410 (wr ((wr (8 * (wr (x3 - 1)))) + (m7682 403 (wr (x1 + 4)).toNat))).toNat) m7682) (fun m7708 => (some m7708))))))))))))
set_option maxRecDepth 100000 in
theorem tJ208_54 {L : Nat} {xs : Nat → Int32} {Q : xO → yM → Nat → Prop} {k d n : Nat} {c : yS3} {f : Nat} {x1 : Int} {x2 : Int} {x3 : Int} {xs1 : Int} {m : yM} {j4 : Option Value} (hk : k ≤ f) (gx1 : rg x1) (gx2 : rg x2) (gx3 : rg x3) (gxs1 : rg xs1) (hR : RM c m) (Hr : ∀ m', J208_54 f x1 x2 x3 xs1 m = some m' → RM c m' → ∀ n', Q (.inl none) m' n') : PW (gZ L xs) k 208 d 54 [some (.ref 376), some (yI x1), some (yI x2), some (yI x3), j4] [yI xs1, .ref 376] m n Q := by
  have hX : J208_54 f x1 x2 x3 xs1 m = J208_54 f x1 x2 x3 xs1 m := rfl
  refine p_iconst 55 c208_54 rfl ?_
  refine p_cS 58 [.ref 376, yI xs1, yI 1] [] c208_55 rfl rfl rfl (fun k' hk' d' => d23 (f := f) (by omega) gxs1 (rgD rfl) hR) (fun r7655 m7657 hF7653 hg7654 hR7658 n7652 k7651 hk7651 => ?_)
  have hX7656 := hX.trans (bI_s hF7653)
  refine p_if 90 61 c208_58 rfl rfl (yz_eq hg7654) (fun hb7659 k7660 hk7660 => ?_) (fun hb7659 k7661 hk7661 => ?_)
  · have hX7662 := hX7656.trans (if_pos hb7659)
    exact p_return c208_90 (Hr _ hX7662 hR7658 _)
  · have hX7663 := hX7656.trans (if_neg hb7659)
    refine p_aload 62 c208_61 rfl rfl ?_
    refine p_aload 63 c208_62 rfl rfl ?_
    refine p_aload 64 c208_63 rfl rfl ?_
    refine p_getX 67 (m7657 376 18) c208_64 rfl kf376_18 rfl ?_
    refine p_aload 68 c208_67 rfl rfl ?_
    refine p_iload 69 c208_68 rfl rfl ?_
    refine p_cX 72 [.ref 376, yI x3] [yI (m7657 376 18), .ref 376, .ref 376] c208_69 rfl rfl rfl (fun k' hk' d' => d206 gx3 hR7658) (fun hg7668 n7665 k7664 hk7664 => ?_)
    refine p_aload 73 c208_72 rfl rfl ?_
    refine p_getR 76 c208_73 rfl kf376_40 ?_
    refine p_iload 77 c208_76 rfl rfl ?_
    refine p_iconst 78 c208_77 rfl ?_
    refine p_iadd 79 c208_78 rfl ?_
    refine p_iaX 80 (m7657 403 (wr (x1 + 4)).toNat) c208_79 rfl ka403 (rg_wr _) rfl (fun hx7669 => ?_)
    refine p_cO 83 [.ref 376, yI (m7657 376 18), yI (F206 x3 m7657), yI (m7657 403 (wr (x1 + 4)).toNat)] [.ref 376] c208_80 rfl rfl rfl (fun k' hk' d' => d121 (f := f) (by omega) (hR7658.rg _ _) hg7668 (hR7658.rg _ _) hR7658) (fun r7674 hF7672 hg7673 n7671 k7670 hk7670 => ?_)
    have hX7675 := hX7663.trans (bP_s hF7672)
    refine p_iconst 84 c208_83 rfl ?_
    refine p_cS 87 [.ref 376, yI r7674, yI 3] [] c208_84 rfl rfl rfl (fun k' hk' d' => d23 (f := f) (by omega) hg7673 (rgD rfl) hR7658) (fun r7680 m7682 hF7678 hg7679 hR7683 n7677 k7676 hk7676 => ?_)
    have hX7681 := hX7675.trans (bI_s hF7678)
    refine p_if 91 90 c208_87 rfl rfl (yz_ne hg7679) (fun hb7684 k7685 hk7685 => ?_) (fun hb7684 k7686 hk7686 => ?_)
    · have hX7687 := hX7681.trans (if_neg hb7684)
      refine p_iconst 93 c208_91 rfl ?_
      refine p_iload 94 c208_93 rfl rfl ?_
      refine p_iconst 95 c208_94 rfl ?_
      refine p_isub 96 c208_95 rfl ?_
      refine p_imul 97 c208_96 rfl ?_
      refine p_aload 98 c208_97 rfl rfl ?_
      refine p_getR 101 c208_98 rfl kf376_40 ?_
      refine p_iload 102 c208_101 rfl rfl ?_
      refine p_iconst 103 c208_102 rfl ?_
      refine p_iadd 104 c208_103 rfl ?_
      refine p_iaX 105 (m7682 403 (wr (x1 + 4)).toNat) c208_104 rfl ka403 (rg_wr _) rfl (fun hx7688 => ?_)
      refine p_iadd 106 c208_105 rfl ?_
      refine p_istore 108 c208_106 rfl rfl ?_
      refine p_iload 109 c208_108 rfl rfl ?_
      refine p_if 134 112 c208_109 rfl rfl (yz_eq gx2) (fun hb7689 k7690 hk7690 => ?_) (fun hb7689 k7691 hk7691 => ?_)
      · have hX7692 := hX7687.trans (if_pos hb7689)
        refine p_aload 135 c208_134 rfl rfl ?_
        refine p_getR 138 c208_135 rfl kf376_50 ?_
        refine p_iload 140 c208_138 rfl rfl ?_
        refine p_aload 141 c208_140 rfl rfl ?_
        refine p_aload 142 c208_141 rfl rfl ?_
        refine p_getR 145 c208_142 rfl kf376_40 ?_
        refine p_iload 146 c208_145 rfl rfl ?_
        refine p_iconst 147 c208_146 rfl ?_
        refine p_iadd 148 c208_147 rfl ?_
        refine p_iaX 149 (m7682 403 (wr (x1 + 3)).toNat) c208_148 rfl ka403 (rg_wr _) rfl (fun hx7693 => ?_)
        refine p_cX 152 [.ref 376, yI (m7682 403 (wr (x1 + 3)).toNat)] [yI (wr ((wr (8 * (wr (x3 - 1)))) + (m7682 403 (wr (x1 + 4)).toNat))), .ref 410] c208_149 rfl rfl rfl (fun k' hk' d' => d205 (hR7683.rg _ _) hR7683) (fun hg7696 n7695 k7694 hk7694 => ?_)
        refine p_iaS 153 c208_152 rfl ka410 (rg_wr _) (F205 (m7682 403 (wr (x1 + 3)).toNat) m7682) (nar0 hg7696) (fun hx7697 => ?_)
        have hR7698 := hR7683.up 410 (wr ((wr (8 * (wr (x3 - 1)))) + (m7682 403 (wr (x1 + 4)).toNat))).toNat (v := F205 (m7682 403 (wr (x1 + 3)).toNat) m7682) (nselA (by decide)) hg7696
        exact p_return c208_153 (Hr _ hX7692 hR7698 _)
      · have hX7699 := hX7687.trans (if_neg hb7689)
        refine p_aload 113 c208_112 rfl rfl ?_
        refine p_aload 114 c208_113 rfl rfl ?_
        refine p_getR 117 c208_114 rfl kf376_40 ?_
        refine p_iload 118 c208_117 rfl rfl ?_
        refine p_iconst 119 c208_118 rfl ?_
        refine p_iadd 120 c208_119 rfl ?_
        refine p_iaX 121 (m7682 403 (wr (x1 + 2)).toNat) c208_120 rfl ka403 (rg_wr _) rfl (fun hx7700 => ?_)
        refine p_aload 122 c208_121 rfl rfl ?_
        refine p_getR 125 c208_122 rfl kf376_50 ?_
        refine p_iload 127 c208_125 rfl rfl ?_
        refine p_iaX 128 (m7682 410 (wr ((wr (8 * (wr (x3 - 1)))) + (m7682 403 (wr (x1 + 4)).toNat))).toNat) c208_127 rfl ka410 (rg_wr _) rfl (fun hx7701 => ?_)
        refine p_cV 131 [.ref 376, yI (m7682 403 (wr (x1 + 2)).toNat), yI (m7682 410 (wr ((wr (8 * (wr (x3 - 1)))) + (m7682 403 (wr (x1 + 4)).toNat))).toNat)] [] c208_128 rfl rfl rfl (fun k' hk' d' => d202 (f := f) (by omega) (hR7683.rg _ _) (hR7683.rg _ _) hR7683) (fun m7708 hF7704 hR7709 n7703 k7702 hk7702 => ?_)
        have hX7707 := hX7699.trans (bU_s hF7704)
        refine p_goto 153 c208_131 rfl ?_
        exact p_return c208_153 (Hr _ hX7707 hR7709 _)
    · have hX7710 := hX7681.trans (if_pos (Classical.not_not.mp hb7684))
      exact p_return c208_90 (Hr _ hX7710 hR7683 _)
def J208_40 (f : Nat) (x1 : Int) (x2 : Int) (xs1 : Int) (m : yM) : Option yM := (if 0 < F205 xs1 m then (J208_54 f x1 x2 (F205 xs1 m) 1 m) else (J208_54 f x1 x2 (F205 xs1 m) 0 m))
set_option maxRecDepth 100000 in
theorem tJ208_40 {L : Nat} {xs : Nat → Int32} {Q : xO → yM → Nat → Prop} {k d n : Nat} {c : yS3} {f : Nat} {x1 : Int} {x2 : Int} {xs1 : Int} {m : yM} {j3 j4 : Option Value} (hk : k ≤ f) (gx1 : rg x1) (gx2 : rg x2) (gxs1 : rg xs1) (hR : RM c m) (Hr : ∀ m', J208_40 f x1 x2 xs1 m = some m' → RM c m' → ∀ n', Q (.inl none) m' n') : PW (gZ L xs) k 208 d 40 [some (.ref 376), some (yI x1), some (yI x2), j3, j4] [yI xs1, .ref 376] m n Q := by
  have hX : J208_40 f x1 x2 xs1 m = J208_40 f x1 x2 xs1 m := rfl
  refine p_cX 43 [.ref 376, yI xs1] [] c208_40 rfl rfl rfl (fun k' hk' d' => d205 gxs1 hR) (fun hg7646 n7645 k7644 hk7644 => ?_)
  refine p_istore 44 c208_43 rfl rfl ?_
  refine p_aload 45 c208_44 rfl rfl ?_
  refine p_iload 46 c208_45 rfl rfl ?_
  refine p_if 53 49 c208_46 rfl rfl ((yz_le hg7646).trans Int.not_lt.symm) (fun hb7647 k7648 hk7648 => ?_) (fun hb7647 k7649 hk7649 => ?_)
  · have hX7650 := hX.trans (if_neg hb7647)
    refine p_iconst 54 c208_53 rfl ?_
    exact tJ208_54 (f := f) (by omega) gx1 gx2 hg7646 (rgD rfl) hR (fun m' e' => Hr m' (hX7650.trans e'))
  · have hX7711 := hX.trans (if_pos (Classical.not_not.mp hb7647))
    refine p_iconst 50 c208_49 rfl ?_
    refine p_goto 54 c208_50 rfl ?_
    exact tJ208_54 (f := f) (by omega) gx1 gx2 hg7646 (rgD rfl) hR (fun m' e' => Hr m' (hX7711.trans e'))
def J208_15 (f : Nat) (x1 : Int) (xs0 : Int) (m : yM) : Option yM := (if xs0 = 0 then (J208_40 f x1 xs0 (m 403 (wr (x1 + 2)).toNat) m) else (J208_40 f x1 xs0 (m 403 (wr (x1 + 3)).toNat) m))
set_option maxRecDepth 100000 in
theorem tJ208_15 {L : Nat} {xs : Nat → Int32} {Q : xO → yM → Nat → Prop} {k d n : Nat} {c : yS3} {f : Nat} {x1 : Int} {xs0 : Int} {m : yM} {j2 j3 j4 : Option Value} (hk : k ≤ f) (gx1 : rg x1) (gxs0 : rg xs0) (hR : RM c m) (Hr : ∀ m', J208_15 f x1 xs0 m = some m' → RM c m' → ∀ n', Q (.inl none) m' n') : PW (gZ L xs) k 208 d 15 [some (.ref 376), some (yI x1), j2, j3, j4] [yI xs0] m n Q := by
  have hX : J208_15 f x1 xs0 m = J208_15 f x1 xs0 m := rfl
  refine p_istore 16 c208_15 rfl rfl ?_
  refine p_aload 17 c208_16 rfl rfl ?_
  refine p_iload 18 c208_17 rfl rfl ?_
  refine p_if 32 21 c208_18 rfl rfl (yz_eq gxs0) (fun hb7639 k7640 hk7640 => ?_) (fun hb7639 k7641 hk7641 => ?_)
  · have hX7642 := hX.trans (if_pos hb7639)
    refine p_aload 33 c208_32 rfl rfl ?_
    refine p_getR 36 c208_33 rfl kf376_40 ?_
    refine p_iload 37 c208_36 rfl rfl ?_
    refine p_iconst 38 c208_37 rfl ?_
    refine p_iadd 39 c208_38 rfl ?_
    refine p_iaX 40 (m 403 (wr (x1 + 2)).toNat) c208_39 rfl ka403 (rg_wr _) rfl (fun hx7643 => ?_)
    exact tJ208_40 (f := f) (by omega) gx1 gxs0 (hR.rg _ _) hR (fun m' e' => Hr m' (hX7642.trans e'))
  · have hX7712 := hX.trans (if_neg hb7639)
    refine p_aload 22 c208_21 rfl rfl ?_
    refine p_getR 25 c208_22 rfl kf376_40 ?_
    refine p_iload 26 c208_25 rfl rfl ?_
    refine p_iconst 27 c208_26 rfl ?_
    refine p_iadd 28 c208_27 rfl ?_
    refine p_iaX 29 (m 403 (wr (x1 + 3)).toNat) c208_28 rfl ka403 (rg_wr _) rfl (fun hx7713 => ?_)
    refine p_goto 40 c208_29 rfl ?_
    exact tJ208_40 (f := f) (by omega) gx1 gxs0 (hR.rg _ _) hR (fun m' e' => Hr m' (hX7712.trans e'))
def F208 (f : Nat) (x1 : Int) (m : yM) : Option yM := (if m 403 x1.toNat = 4 then (J208_15 f x1 1 m) else (J208_15 f x1 0 m))
set_option maxRecDepth 100000 in
theorem d208 {L : Nat} {xs : Nat → Int32} {k d n : Nat} {c : yS3} {f : Nat} {x1 : Int} {m : yM} (hk : k ≤ f) (gx1 : rg x1) (hR : RM c m) : PC (gZ L xs) k d 208 [.ref 376, yI x1] m n (qV c (F208 f x1 m)) := by
  have hX : F208 f x1 m = F208 f x1 m := rfl
  have Hr : ∀ m', F208 f x1 m = some m' → RM c m' → ∀ n' : Nat, (qV c (F208 f x1 m)) (.inl none) m' n' := fun m' e h n' => ⟨rfl, h, e⟩
  refine PC.mk [some (.ref 376), some (yI x1), none, none, none] kn208 rfl ?_
  refine p_aload 1 c208_0 rfl rfl ?_
  refine p_getR 4 c208_1 rfl kf376_40 ?_
  refine p_iload 5 c208_4 rfl rfl ?_
  refine p_iaX 6 (m 403 x1.toNat) c208_5 rfl ka403 gx1 rfl (fun hx7634 => ?_)
  refine p_iconst 7 c208_6 rfl ?_
  refine p_icmp 14 10 c208_7 rfl rfl (yc_ne (hR.rg _ _) (rgD rfl)) (fun hb7635 k7636 hk7636 => ?_) (fun hb7635 k7637 hk7637 => ?_)
  · have hX7638 := hX.trans (if_neg hb7635)
    refine p_iconst 15 c208_14 rfl ?_
    exact tJ208_15 (f := f) (by omega) gx1 (rgD rfl) hR (fun m' e' => Hr m' (hX7638.trans e'))
  · have hX7714 := hX.trans (if_pos (Classical.not_not.mp hb7635))
    refine p_iconst 11 c208_10 rfl ?_
    refine p_goto 15 c208_11 rfl ?_
    exact tJ208_15 (f := f) (by omega) gx1 (rgD rfl) hR (fun m' e' => Hr m' (hX7714.trans e'))
def J209_66 (f : Nat) (x1 : Int) (m : yM) : Option yM := (bU (F208 f x1 m) (fun m7719 => (some m7719)))
set_option maxRecDepth 100000 in
theorem tJ209_66 {L : Nat} {xs : Nat → Int32} {Q : xO → yM → Nat → Prop} {k d n : Nat} {c : yS3} {f : Nat} {x1 : Int} {m : yM} {j2 j3 j4 j5 : Option Value} (hk : k ≤ f) (gx1 : rg x1) (hR : RM c m) (Hr : ∀ m', J209_66 f x1 m = some m' → RM c m' → ∀ n', Q (.inl none) m' n') : PW (gZ L xs) k 209 d 66 [some (.ref 376), some (yI x1), j2, j3, j4, j5] [] m n Q := by
  have hX : J209_66 f x1 m = J209_66 f x1 m := rfl
  refine p_aload 67 c209_66 rfl rfl ?_
  refine p_iload 68 c209_67 rfl rfl ?_
  refine p_cV 71 [.ref 376, yI x1] [] c209_68 rfl rfl rfl (fun k' hk' d' => d208 (f := f) (by omega) gx1 hR) (fun m7719 hF7715 hR7720 n7633 k7632 hk7632 => ?_)
  have hX7718 := hX.trans (bU_s hF7715)
  refine p_goto 191 c209_71 rfl ?_
  exact p_return c209_191 (Hr _ hX7718 hR7720 _)
def J209_172 (f : Nat) (x3 : Int) (x4 : Int) (xs0 : Int) (m : yM) : Option yM := (bI (F23 f xs0 2 m) (fun r7742 m7744 => (if r7742 = 0 then (some m7744) else (bU (F202 f x3 x4 m7744) (fun m7757 => (some m7757))))))
set_option maxRecDepth 100000 in
theorem tJ209_172 {L : Nat} {xs : Nat → Int32} {Q : xO → yM → Nat → Prop} {k d n : Nat} {c : yS3} {f : Nat} {x3 : Int} {x4 : Int} {xs0 : Int} {m : yM} {j1 j2 j5 : Option Value} (hk : k ≤ f) (gx3 : rg x3) (gx4 : rg x4) (gxs0 : rg xs0) (hR : RM c m) (Hr : ∀ m', J209_172 f x3 x4 xs0 m = some m' → RM c m' → ∀ n', Q (.inl none) m' n') : PW (gZ L xs) k 209 d 172 [some (.ref 376), j1, j2, some (yI x3), some (yI x4), j5] [yI xs0] m n Q := by
  have hX : J209_172 f x3 x4 xs0 m = J209_172 f x3 x4 xs0 m := rfl
  refine p_istore 174 c209_172 rfl rfl ?_
  refine p_aload 175 c209_174 rfl rfl ?_
  refine p_iload 177 c209_175 rfl rfl ?_
  refine p_iconst 178 c209_177 rfl ?_
  refine p_cS 181 [.ref 376, yI xs0, yI 2] [] c209_178 rfl rfl rfl (fun k' hk' d' => d23 (f := f) (by omega) gxs0 (rgD rfl) hR) (fun r7742 m7744 hF7740 hg7741 hR7745 n7739 k7738 hk7738 => ?_)
  have hX7743 := hX.trans (bI_s hF7740)
  refine p_if 191 184 c209_181 rfl rfl (yz_eq hg7741) (fun hb7746 k7747 hk7747 => ?_) (fun hb7746 k7748 hk7748 => ?_)
  · have hX7749 := hX7743.trans (if_pos hb7746)
    exact p_return c209_191 (Hr _ hX7749 hR7745 _)
  · have hX7750 := hX7743.trans (if_neg hb7746)
    refine p_aload 185 c209_184 rfl rfl ?_
    refine p_iload 186 c209_185 rfl rfl ?_
    refine p_iload 188 c209_186 rfl rfl ?_
    refine p_cV 191 [.ref 376, yI x3, yI x4] [] c209_188 rfl rfl rfl (fun k' hk' d' => d202 (f := f) (by omega) gx3 gx4 hR7745) (fun m7757 hF7753 hR7758 n7752 k7751 hk7751 => ?_)
    have hX7756 := hX7750.trans (bU_s hF7753)
    exact p_return c209_191 (Hr _ hX7756 hR7758 _)
def J209_167 (f : Nat) (x3 : Int) (x4 : Int) (m : yM) : Option yM := (J209_172 f x3 x4 1 m)
set_option maxRecDepth 100000 in
theorem tJ209_167 {L : Nat} {xs : Nat → Int32} {Q : xO → yM → Nat → Prop} {k d n : Nat} {c : yS3} {f : Nat} {x3 : Int} {x4 : Int} {m : yM} {j1 j2 j5 : Option Value} (hk : k ≤ f) (gx3 : rg x3) (gx4 : rg x4) (hR : RM c m) (Hr : ∀ m', J209_167 f x3 x4 m = some m' → RM c m' → ∀ n', Q (.inl none) m' n') : PW (gZ L xs) k 209 d 167 [some (.ref 376), j1, j2, some (yI x3), some (yI x4), j5] [] m n Q := by
  have hX : J209_167 f x3 x4 m = J209_167 f x3 x4 m := rfl
  refine p_iconst 168 c209_167 rfl ?_
  refine p_goto 172 c209_168 rfl ?_
  exact tJ209_172 (f := f) (by omega) gx3 gx4 (rgD rfl) hR (fun m' e' => Hr m' (hX.trans e'))
def F209 (f : Nat) (x1 : Int) (m : yM) : Option yM := (if m 403 x1.toNat = 8 then (bU (F202 f (m 403 (wr (x1 + 2)).toNat) 0 m) (fun m7820 => (some m7820))) else (if m 403 x1.toNat = 2 then (bU (F202 f (m 403 (wr (x1 + 2)).toNat) (F205 (m 403 (wr (x1 + 3)).toNat) m) m) (fun m7811 => (some m7811))) else (if m 403 x1.toNat = 4 then (J209_66 f x1 m) else (if m 403 x1.toNat = 5 then (J209_66 f x1 m) else (if m 403 x1.toNat = 1 then (bI (F201 f (m 403 (wr (x1 + 3)).toNat) m) (fun r7782 m7784 => (if m7784 376 57 = 0 then (bU (F202 f (m 403 (wr (x1 + 2)).toNat) r7782 m7784) (fun m7797 => (some m7797))) else (some m7784)))) else (if F205 (m 403 (wr (x1 + 3)).toNat) m = 0 then (J209_167 f (m 403 (wr (x1 + 2)).toNat) (F205 (m 403 (wr (x1 + 3)).toNat) m) m) else (bP (F149 f (m 376 18) (F206 (F205 (m 403 (wr (x1 + 3)).toNat) m) m) (m 402 (wr ((wr (8 * (m 376 18))) + (m 403 (wr (x1 + 4)).toNat))).toNat) m) (fun r7769 => (if r7769 = 0 then (J209_172 f (m 403 (wr (x1 + 2)).toNat) (F205 (m 403 (wr (x1 + 3)).toNat) m) 0 m) else (J209_167 f (m 403 (wr (x1 + 2)).toNat) (F205 (m 403 (wr (x1 + 3)).toNat) m) m))))))))))
set_option maxRecDepth 100000 in
theorem d209 {L : Nat} {xs : Nat → Int32} {k d n : Nat} {c : yS3} {f : Nat} {x1 : Int} {m : yM} (hk : k ≤ f) (gx1 : rg x1) (hR : RM c m) : PC (gZ L xs) k d 209 [.ref 376, yI x1] m n (qV c (F209 f x1 m)) := by
  have hX : F209 f x1 m = F209 f x1 m := rfl
  have Hr : ∀ m', F209 f x1 m = some m' → RM c m' → ∀ n' : Nat, (qV c (F209 f x1 m)) (.inl none) m' n' := fun m' e h n' => ⟨rfl, h, e⟩
  refine PC.mk [some (.ref 376), some (yI x1), none, none, none, none] kn209 rfl ?_
  refine p_aload 1 c209_0 rfl rfl ?_
  refine p_getR 4 c209_1 rfl kf376_40 ?_
  refine p_iload 5 c209_4 rfl rfl ?_
  refine p_iaX 6 (m 403 x1.toNat) c209_5 rfl ka403 gx1 rfl (fun hx7618 => ?_)
  refine p_istore 7 c209_6 rfl rfl ?_
  refine p_aload 8 c209_7 rfl rfl ?_
  refine p_getR 11 c209_8 rfl kf376_40 ?_
  refine p_iload 12 c209_11 rfl rfl ?_
  refine p_iconst 13 c209_12 rfl ?_
  refine p_iadd 14 c209_13 rfl ?_
  refine p_iaX 15 (m 403 (wr (x1 + 2)).toNat) c209_14 rfl ka403 (rg_wr _) rfl (fun hx7619 => ?_)
  refine p_istore 16 c209_15 rfl rfl ?_
  refine p_iload 17 c209_16 rfl rfl ?_
  refine p_iconst 19 c209_17 rfl ?_
  refine p_icmp 31 22 c209_19 rfl rfl (yc_ne (hR.rg _ _) (rgD rfl)) (fun hb7620 k7621 hk7621 => ?_) (fun hb7620 k7622 hk7622 => ?_)
  · have hX7623 := hX.trans (if_neg hb7620)
    refine p_iload 32 c209_31 rfl rfl ?_
    refine p_iconst 33 c209_32 rfl ?_
    refine p_icmp 56 36 c209_33 rfl rfl (yc_ne (hR.rg _ _) (rgD rfl)) (fun hb7624 k7625 hk7625 => ?_) (fun hb7624 k7626 hk7626 => ?_)
    · have hX7627 := hX7623.trans (if_neg hb7624)
      refine p_iload 57 c209_56 rfl rfl ?_
      refine p_iconst 58 c209_57 rfl ?_
      refine p_icmp 66 61 c209_58 rfl rfl (yc_eq (hR.rg _ _) (rgD rfl)) (fun hb7628 k7629 hk7629 => ?_) (fun hb7628 k7630 hk7630 => ?_)
      · have hX7631 := hX7627.trans (if_pos hb7628)
        exact tJ209_66 (f := f) (by omega) gx1 hR (fun m' e' => Hr m' (hX7631.trans e'))
      · have hX7721 := hX7627.trans (if_neg hb7628)
        refine p_iload 62 c209_61 rfl rfl ?_
        refine p_iconst 63 c209_62 rfl ?_
        refine p_icmp 74 66 c209_63 rfl rfl (yc_ne (hR.rg _ _) (rgD rfl)) (fun hb7722 k7723 hk7723 => ?_) (fun hb7722 k7724 hk7724 => ?_)
        · have hX7725 := hX7721.trans (if_neg hb7722)
          refine p_iload 75 c209_74 rfl rfl ?_
          refine p_iconst 76 c209_75 rfl ?_
          refine p_icmp 110 79 c209_76 rfl rfl (yc_ne (hR.rg _ _) (rgD rfl)) (fun hb7726 k7727 hk7727 => ?_) (fun hb7726 k7728 hk7728 => ?_)
          · have hX7729 := hX7725.trans (if_neg hb7726)
            refine p_aload 111 c209_110 rfl rfl ?_
            refine p_aload 112 c209_111 rfl rfl ?_
            refine p_getR 115 c209_112 rfl kf376_40 ?_
            refine p_iload 116 c209_115 rfl rfl ?_
            refine p_iconst 117 c209_116 rfl ?_
            refine p_iadd 118 c209_117 rfl ?_
            refine p_iaX 119 (m 403 (wr (x1 + 3)).toNat) c209_118 rfl ka403 (rg_wr _) rfl (fun hx7730 => ?_)
            refine p_cX 122 [.ref 376, yI (m 403 (wr (x1 + 3)).toNat)] [] c209_119 rfl rfl rfl (fun k' hk' d' => d205 (hR.rg _ _) hR) (fun hg7733 n7732 k7731 hk7731 => ?_)
            refine p_istore 124 c209_122 rfl rfl ?_
            refine p_iload 126 c209_124 rfl rfl ?_
            refine p_if 167 129 c209_126 rfl rfl (yz_eq hg7733) (fun hb7734 k7735 hk7735 => ?_) (fun hb7734 k7736 hk7736 => ?_)
            · have hX7737 := hX7729.trans (if_pos hb7734)
              exact tJ209_167 (f := f) (by omega) (hR.rg _ _) hg7733 hR (fun m' e' => Hr m' (hX7737.trans e'))
            · have hX7759 := hX7729.trans (if_neg hb7734)
              refine p_aload 130 c209_129 rfl rfl ?_
              refine p_aload 131 c209_130 rfl rfl ?_
              refine p_getX 134 (m 376 18) c209_131 rfl kf376_18 rfl ?_
              refine p_aload 135 c209_134 rfl rfl ?_
              refine p_iload 137 c209_135 rfl rfl ?_
              refine p_cX 140 [.ref 376, yI (F205 (m 403 (wr (x1 + 3)).toNat) m)] [yI (m 376 18), .ref 376] c209_137 rfl rfl rfl (fun k' hk' d' => d206 hg7733 hR) (fun hg7762 n7761 k7760 hk7760 => ?_)
              refine p_aload 141 c209_140 rfl rfl ?_
              refine p_getR 144 c209_141 rfl kf376_39 ?_
              refine p_iconst 146 c209_144 rfl ?_
              refine p_aload 147 c209_146 rfl rfl ?_
              refine p_getX 150 (m 376 18) c209_147 rfl kf376_18 rfl ?_
              refine p_imul 151 c209_150 rfl ?_
              refine p_aload 152 c209_151 rfl rfl ?_
              refine p_getR 155 c209_152 rfl kf376_40 ?_
              refine p_iload 156 c209_155 rfl rfl ?_
              refine p_iconst 157 c209_156 rfl ?_
              refine p_iadd 158 c209_157 rfl ?_
              refine p_iaX 159 (m 403 (wr (x1 + 4)).toNat) c209_158 rfl ka403 (rg_wr _) rfl (fun hx7763 => ?_)
              refine p_iadd 160 c209_159 rfl ?_
              refine p_iaX 161 (m 402 (wr ((wr (8 * (m 376 18))) + (m 403 (wr (x1 + 4)).toNat))).toNat) c209_160 rfl ka402 (rg_wr _) rfl (fun hx7764 => ?_)
              refine p_cO 164 [.ref 376, yI (m 376 18), yI (F206 (F205 (m 403 (wr (x1 + 3)).toNat) m) m), yI (m 402 (wr ((wr (8 * (m 376 18))) + (m 403 (wr (x1 + 4)).toNat))).toNat)] [] c209_161 rfl rfl rfl (fun k' hk' d' => d149 (f := f) (by omega) (hR.rg _ _) hg7762 (hR.rg _ _) hR) (fun r7769 hF7767 hg7768 n7766 k7765 hk7765 => ?_)
              have hX7770 := hX7759.trans (bP_s hF7767)
              refine p_if 171 167 c209_164 rfl rfl (yz_eq hg7768) (fun hb7771 k7772 hk7772 => ?_) (fun hb7771 k7773 hk7773 => ?_)
              · have hX7774 := hX7770.trans (if_pos hb7771)
                refine p_iconst 172 c209_171 rfl ?_
                exact tJ209_172 (f := f) (by omega) (hR.rg _ _) hg7733 (rgD rfl) hR (fun m' e' => Hr m' (hX7774.trans e'))
              · have hX7775 := hX7770.trans (if_neg hb7771)
                exact tJ209_167 (f := f) (by omega) (hR.rg _ _) hg7733 hR (fun m' e' => Hr m' (hX7775.trans e'))
          · have hX7776 := hX7725.trans (if_pos (Classical.not_not.mp hb7726))
            refine p_aload 80 c209_79 rfl rfl ?_
            refine p_aload 81 c209_80 rfl rfl ?_
            refine p_getR 84 c209_81 rfl kf376_40 ?_
            refine p_iload 85 c209_84 rfl rfl ?_
            refine p_iconst 86 c209_85 rfl ?_
            refine p_iadd 87 c209_86 rfl ?_
            refine p_iaX 88 (m 403 (wr (x1 + 3)).toNat) c209_87 rfl ka403 (rg_wr _) rfl (fun hx7777 => ?_)
            refine p_cS 91 [.ref 376, yI (m 403 (wr (x1 + 3)).toNat)] [] c209_88 rfl rfl rfl (fun k' hk' d' => d201 (f := f) (by omega) (hR.rg _ _) hR) (fun r7782 m7784 hF7780 hg7781 hR7785 n7779 k7778 hk7778 => ?_)
            have hX7783 := hX7776.trans (bI_s hF7780)
            refine p_istore 93 c209_91 rfl rfl ?_
            refine p_aload 94 c209_93 rfl rfl ?_
            refine p_getX 97 (m7784 376 57) c209_94 rfl kf376_57 rfl ?_
            refine p_if 107 100 c209_97 rfl rfl (yz_ne (hR7785.rg _ _)) (fun hb7786 k7787 hk7787 => ?_) (fun hb7786 k7788 hk7788 => ?_)
            · have hX7789 := hX7783.trans (if_neg hb7786)
              refine p_goto 191 c209_107 rfl ?_
              exact p_return c209_191 (Hr _ hX7789 hR7785 _)
            · have hX7790 := hX7783.trans (if_pos (Classical.not_not.mp hb7786))
              refine p_aload 101 c209_100 rfl rfl ?_
              refine p_iload 102 c209_101 rfl rfl ?_
              refine p_iload 104 c209_102 rfl rfl ?_
              refine p_cV 107 [.ref 376, yI (m 403 (wr (x1 + 2)).toNat), yI r7782] [] c209_104 rfl rfl rfl (fun k' hk' d' => d202 (f := f) (by omega) (hR.rg _ _) hg7781 hR7785) (fun m7797 hF7793 hR7798 n7792 k7791 hk7791 => ?_)
              have hX7796 := hX7790.trans (bU_s hF7793)
              refine p_goto 191 c209_107 rfl ?_
              exact p_return c209_191 (Hr _ hX7796 hR7798 _)
        · have hX7799 := hX7721.trans (if_pos (Classical.not_not.mp hb7722))
          exact tJ209_66 (f := f) (by omega) gx1 hR (fun m' e' => Hr m' (hX7799.trans e'))
    · have hX7800 := hX7623.trans (if_pos (Classical.not_not.mp hb7624))
      refine p_aload 37 c209_36 rfl rfl ?_
      refine p_iload 38 c209_37 rfl rfl ?_
      refine p_aload 39 c209_38 rfl rfl ?_
      refine p_aload 40 c209_39 rfl rfl ?_
      refine p_getR 43 c209_40 rfl kf376_40 ?_
      refine p_iload 44 c209_43 rfl rfl ?_
      refine p_iconst 45 c209_44 rfl ?_
      refine p_iadd 46 c209_45 rfl ?_
      refine p_iaX 47 (m 403 (wr (x1 + 3)).toNat) c209_46 rfl ka403 (rg_wr _) rfl (fun hx7801 => ?_)
      refine p_cX 50 [.ref 376, yI (m 403 (wr (x1 + 3)).toNat)] [yI (m 403 (wr (x1 + 2)).toNat), .ref 376] c209_47 rfl rfl rfl (fun k' hk' d' => d205 (hR.rg _ _) hR) (fun hg7804 n7803 k7802 hk7802 => ?_)
      refine p_cV 53 [.ref 376, yI (m 403 (wr (x1 + 2)).toNat), yI (F205 (m 403 (wr (x1 + 3)).toNat) m)] [] c209_50 rfl rfl rfl (fun k' hk' d' => d202 (f := f) (by omega) (hR.rg _ _) hg7804 hR) (fun m7811 hF7807 hR7812 n7806 k7805 hk7805 => ?_)
      have hX7810 := hX7800.trans (bU_s hF7807)
      refine p_goto 191 c209_53 rfl ?_
      exact p_return c209_191 (Hr _ hX7810 hR7812 _)
  · have hX7813 := hX.trans (if_pos (Classical.not_not.mp hb7620))
    refine p_aload 23 c209_22 rfl rfl ?_
    refine p_iload 24 c209_23 rfl rfl ?_
    refine p_iconst 25 c209_24 rfl ?_
    refine p_cV 28 [.ref 376, yI (m 403 (wr (x1 + 2)).toNat), yI 0] [] c209_25 rfl rfl rfl (fun k' hk' d' => d202 (f := f) (by omega) (hR.rg _ _) (rgD rfl) hR) (fun m7820 hF7816 hR7821 n7815 k7814 hk7814 => ?_)
    have hX7819 := hX7813.trans (bU_s hF7816)
    refine p_goto 191 c209_28 rfl ?_
    exact p_return c209_191 (Hr _ hX7819 hR7821 _)
def J207_131 (f : Nat) (x2 : Int) (x4 : Int) (x5 : Int) (xs0 : Int) (m : yM) : Option yM := (bU (F203 f x4 x2 x5 xs0 (m 376 55) m) (fun m7893 => (some m7893)))
set_option maxRecDepth 100000 in
theorem tJ207_131 {L : Nat} {xs : Nat → Int32} {Q : xO → yM → Nat → Prop} {k d n : Nat} {c : yS3} {f : Nat} {x2 : Int} {x4 : Int} {x5 : Int} {xs0 : Int} {m : yM} {j1 j3 j6 : Option Value} (hk : k ≤ f) (gx2 : rg x2) (gx4 : rg x4) (gx5 : rg x5) (gxs0 : rg xs0) (hR : RM c m) (Hr : ∀ m', J207_131 f x2 x4 x5 xs0 m = some m' → RM c m' → ∀ n', Q (.inl none) m' n') : PW (gZ L xs) k 207 d 131 [some (.ref 376), j1, some (yI x2), j3, some (yI x4), some (yI x5), j6] [yI xs0] m n Q := by
  have hX : J207_131 f x2 x4 x5 xs0 m = J207_131 f x2 x4 x5 xs0 m := rfl
  refine p_istore 133 c207_131 rfl rfl ?_
  refine p_aload 134 c207_133 rfl rfl ?_
  refine p_iload 136 c207_134 rfl rfl ?_
  refine p_iload 137 c207_136 rfl rfl ?_
  refine p_iload 139 c207_137 rfl rfl ?_
  refine p_iload 141 c207_139 rfl rfl ?_
  refine p_aload 142 c207_141 rfl rfl ?_
  refine p_getX 145 (m 376 55) c207_142 rfl kf376_55 rfl ?_
  refine p_cV 148 [.ref 376, yI x4, yI x2, yI x5, yI xs0, yI (m 376 55)] [] c207_145 rfl rfl rfl (fun k' hk' d' => d203 (f := f) (by omega) gx4 gx2 gx5 gxs0 (hR.rg _ _) hR) (fun m7893 hF7889 hR7894 n7888 k7887 hk7887 => ?_)
  have hX7892 := hX.trans (bU_s hF7889)
  exact p_return c207_148 (Hr _ hX7892 hR7894 _)
def J207_107 (f : Nat) (x1 : Int) (x2 : Int) (x3 : Int) (x4 : Int) (xs0 : Int) (m : yM) : Option yM := (if 1 < x3 then (J207_131 f x2 x4 xs0 (F205 (m 403 (wr (x1 + 7)).toNat) m) m) else (J207_131 f x2 x4 xs0 0 m))
set_option maxRecDepth 100000 in
theorem tJ207_107 {L : Nat} {xs : Nat → Int32} {Q : xO → yM → Nat → Prop} {k d n : Nat} {c : yS3} {f : Nat} {x1 : Int} {x2 : Int} {x3 : Int} {x4 : Int} {xs0 : Int} {m : yM} {j5 j6 : Option Value} (hk : k ≤ f) (gx1 : rg x1) (gx2 : rg x2) (gx3 : rg x3) (gx4 : rg x4) (gxs0 : rg xs0) (hR : RM c m) (Hr : ∀ m', J207_107 f x1 x2 x3 x4 xs0 m = some m' → RM c m' → ∀ n', Q (.inl none) m' n') : PW (gZ L xs) k 207 d 107 [some (.ref 376), some (yI x1), some (yI x2), some (yI x3), some (yI x4), j5, j6] [yI xs0] m n Q := by
  have hX : J207_107 f x1 x2 x3 x4 xs0 m = J207_107 f x1 x2 x3 x4 xs0 m := rfl
  refine p_istore 109 c207_107 rfl rfl ?_
  refine p_iload 110 c207_109 rfl rfl ?_
  refine p_iconst 111 c207_110 rfl ?_
  refine p_icmp 130 114 c207_111 rfl rfl ((yc_le gx3 (rgD rfl)).trans Int.not_lt.symm) (fun hb7883 k7884 hk7884 => ?_) (fun hb7883 k7885 hk7885 => ?_)
  · have hX7886 := hX.trans (if_neg hb7883)
    refine p_iconst 131 c207_130 rfl ?_
    exact tJ207_131 (f := f) (by omega) gx2 gx4 gxs0 (rgD rfl) hR (fun m' e' => Hr m' (hX7886.trans e'))
  · have hX7895 := hX.trans (if_pos (Classical.not_not.mp hb7883))
    refine p_aload 115 c207_114 rfl rfl ?_
    refine p_aload 116 c207_115 rfl rfl ?_
    refine p_getR 119 c207_116 rfl kf376_40 ?_
    refine p_iload 120 c207_119 rfl rfl ?_
    refine p_iconst 122 c207_120 rfl ?_
    refine p_iadd 123 c207_122 rfl ?_
    refine p_iaX 124 (m 403 (wr (x1 + 7)).toNat) c207_123 rfl ka403 (rg_wr _) rfl (fun hx7896 => ?_)
    refine p_cX 127 [.ref 376, yI (m 403 (wr (x1 + 7)).toNat)] [] c207_124 rfl rfl rfl (fun k' hk' d' => d205 (hR.rg _ _) hR) (fun hg7899 n7898 k7897 hk7897 => ?_)
    refine p_goto 131 c207_127 rfl ?_
    exact tJ207_131 (f := f) (by omega) gx2 gx4 gxs0 hg7899 hR (fun m' e' => Hr m' (hX7895.trans e'))
def J207_78 (f : Nat) (x1 : Int) (x2 : Int) (x3 : Int) (x4 : Int) (xs1 : Int) (m : yM) : Option yM := (bI (F23 f xs1 3 m) (fun r7871 m7873 => (if r7871 = 0 then (some m7873) else (if 0 < x3 then (J207_107 f x1 x2 x3 x4 (F205 (m7873 403 (wr (x1 + 6)).toNat) m7873) m7873) else (J207_107 f x1 x2 x3 x4 0 m7873)))))
set_option maxRecDepth 100000 in
theorem tJ207_78 {L : Nat} {xs : Nat → Int32} {Q : xO → yM → Nat → Prop} {k d n : Nat} {c : yS3} {f : Nat} {x1 : Int} {x2 : Int} {x3 : Int} {x4 : Int} {xs1 : Int} {m : yM} {j5 j6 : Option Value} (hk : k ≤ f) (gx1 : rg x1) (gx2 : rg x2) (gx3 : rg x3) (gx4 : rg x4) (gxs1 : rg xs1) (hR : RM c m) (Hr : ∀ m', J207_78 f x1 x2 x3 x4 xs1 m = some m' → RM c m' → ∀ n', Q (.inl none) m' n') : PW (gZ L xs) k 207 d 78 [some (.ref 376), some (yI x1), some (yI x2), some (yI x3), some (yI x4), j5, j6] [yI xs1, .ref 376] m n Q := by
  have hX : J207_78 f x1 x2 x3 x4 xs1 m = J207_78 f x1 x2 x3 x4 xs1 m := rfl
  refine p_iconst 79 c207_78 rfl ?_
  refine p_cS 82 [.ref 376, yI xs1, yI 3] [] c207_79 rfl rfl rfl (fun k' hk' d' => d23 (f := f) (by omega) gxs1 (rgD rfl) hR) (fun r7871 m7873 hF7869 hg7870 hR7874 n7868 k7867 hk7867 => ?_)
  have hX7872 := hX.trans (bI_s hF7869)
  refine p_if 86 85 c207_82 rfl rfl (yz_ne hg7870) (fun hb7875 k7876 hk7876 => ?_) (fun hb7875 k7877 hk7877 => ?_)
  · have hX7878 := hX7872.trans (if_neg hb7875)
    refine p_iload 87 c207_86 rfl rfl ?_
    refine p_if 106 90 c207_87 rfl rfl ((yz_le gx3).trans Int.not_lt.symm) (fun hb7879 k7880 hk7880 => ?_) (fun hb7879 k7881 hk7881 => ?_)
    · have hX7882 := hX7878.trans (if_neg hb7879)
      refine p_iconst 107 c207_106 rfl ?_
      exact tJ207_107 (f := f) (by omega) gx1 gx2 gx3 gx4 (rgD rfl) hR7874 (fun m' e' => Hr m' (hX7882.trans e'))
    · have hX7900 := hX7878.trans (if_pos (Classical.not_not.mp hb7879))
      refine p_aload 91 c207_90 rfl rfl ?_
      refine p_aload 92 c207_91 rfl rfl ?_
      refine p_getR 95 c207_92 rfl kf376_40 ?_
      refine p_iload 96 c207_95 rfl rfl ?_
      refine p_iconst 98 c207_96 rfl ?_
      refine p_iadd 99 c207_98 rfl ?_
      refine p_iaX 100 (m7873 403 (wr (x1 + 6)).toNat) c207_99 rfl ka403 (rg_wr _) rfl (fun hx7901 => ?_)
      refine p_cX 103 [.ref 376, yI (m7873 403 (wr (x1 + 6)).toNat)] [] c207_100 rfl rfl rfl (fun k' hk' d' => d205 (hR7874.rg _ _) hR7874) (fun hg7904 n7903 k7902 hk7902 => ?_)
      refine p_goto 107 c207_103 rfl ?_
      exact tJ207_107 (f := f) (by omega) gx1 gx2 gx3 gx4 hg7904 hR7874 (fun m' e' => Hr m' (hX7900.trans e'))
  · have hX7905 := hX7872.trans (if_pos (Classical.not_not.mp hb7875))
    exact p_return c207_85 (Hr _ hX7905 hR7874 _)
def J207_23 (f : Nat) (x1 : Int) (x2 : Int) (xs1 : Int) (m : yM) : Option yM := (bI (F23 f xs1 1 m) (fun r7844 m7846 => (if r7844 = 0 then (some m7846) else (bP (F142 f (m7846 376 18) (F206 x2 m7846) (m7846 403 (wr (x1 + 4)).toNat) (iRem (m7846 403 (wr (x1 + 5)).toNat) 16) m7846) (fun r7861 => (if r7861 < 0 then (J207_78 f x1 x2 (iRem (m7846 403 (wr (x1 + 5)).toNat) 16) r7861 0 m7846) else (J207_78 f x1 x2 (iRem (m7846 403 (wr (x1 + 5)).toNat) 16) r7861 1 m7846)))))))
set_option maxRecDepth 100000 in
theorem tJ207_23 {L : Nat} {xs : Nat → Int32} {Q : xO → yM → Nat → Prop} {k d n : Nat} {c : yS3} {f : Nat} {x1 : Int} {x2 : Int} {xs1 : Int} {m : yM} {j3 j4 j5 j6 : Option Value} (hk : k ≤ f) (gx1 : rg x1) (gx2 : rg x2) (gxs1 : rg xs1) (hR : RM c m) (Hr : ∀ m', J207_23 f x1 x2 xs1 m = some m' → RM c m' → ∀ n', Q (.inl none) m' n') : PW (gZ L xs) k 207 d 23 [some (.ref 376), some (yI x1), some (yI x2), j3, j4, j5, j6] [yI xs1, .ref 376] m n Q := by
  have hX : J207_23 f x1 x2 xs1 m = J207_23 f x1 x2 xs1 m := rfl
  refine p_iconst 24 c207_23 rfl ?_
  refine p_cS 27 [.ref 376, yI xs1, yI 1] [] c207_24 rfl rfl rfl (fun k' hk' d' => d23 (f := f) (by omega) gxs1 (rgD rfl) hR) (fun r7844 m7846 hF7842 hg7843 hR7847 n7841 k7840 hk7840 => ?_)
  have hX7845 := hX.trans (bI_s hF7842)
  refine p_if 31 30 c207_27 rfl rfl (yz_ne hg7843) (fun hb7848 k7849 hk7849 => ?_) (fun hb7848 k7850 hk7850 => ?_)
  · have hX7851 := hX7845.trans (if_neg hb7848)
    refine p_aload 32 c207_31 rfl rfl ?_
    refine p_getR 35 c207_32 rfl kf376_40 ?_
    refine p_iload 36 c207_35 rfl rfl ?_
    refine p_iconst 37 c207_36 rfl ?_
    refine p_iadd 38 c207_37 rfl ?_
    refine p_iaX 39 (m7846 403 (wr (x1 + 5)).toNat) c207_38 rfl ka403 (rg_wr _) rfl (fun hx7852 => ?_)
    refine p_iconst 41 c207_39 rfl ?_
    refine p_irem 42 c207_41 rfl ?_
    refine p_istore 43 c207_42 rfl rfl ?_
    refine p_aload 44 c207_43 rfl rfl ?_
    refine p_aload 45 c207_44 rfl rfl ?_
    refine p_getX 48 (m7846 376 18) c207_45 rfl kf376_18 rfl ?_
    refine p_aload 49 c207_48 rfl rfl ?_
    refine p_iload 50 c207_49 rfl rfl ?_
    refine p_cX 53 [.ref 376, yI x2] [yI (m7846 376 18), .ref 376] c207_50 rfl rfl rfl (fun k' hk' d' => d206 gx2 hR7847) (fun hg7855 n7854 k7853 hk7853 => ?_)
    refine p_aload 54 c207_53 rfl rfl ?_
    refine p_getR 57 c207_54 rfl kf376_40 ?_
    refine p_iload 58 c207_57 rfl rfl ?_
    refine p_iconst 59 c207_58 rfl ?_
    refine p_iadd 60 c207_59 rfl ?_
    refine p_iaX 61 (m7846 403 (wr (x1 + 4)).toNat) c207_60 rfl ka403 (rg_wr _) rfl (fun hx7856 => ?_)
    refine p_iload 62 c207_61 rfl rfl ?_
    refine p_cO 65 [.ref 376, yI (m7846 376 18), yI (F206 x2 m7846), yI (m7846 403 (wr (x1 + 4)).toNat), yI (iRem (m7846 403 (wr (x1 + 5)).toNat) 16)] [] c207_62 rfl rfl rfl (fun k' hk' d' => d142 (f := f) (by omega) (hR7847.rg _ _) hg7855 (hR7847.rg _ _) (rg_to _) hR7847) (fun r7861 hF7859 hg7860 n7858 k7857 hk7857 => ?_)
    have hX7862 := hX7851.trans (bP_s hF7859)
    refine p_istore 67 c207_65 rfl rfl ?_
    refine p_aload 68 c207_67 rfl rfl ?_
    refine p_iload 70 c207_68 rfl rfl ?_
    refine p_if 77 73 c207_70 rfl rfl (yz_lt hg7860) (fun hb7863 k7864 hk7864 => ?_) (fun hb7863 k7865 hk7865 => ?_)
    · have hX7866 := hX7862.trans (if_pos hb7863)
      refine p_iconst 78 c207_77 rfl ?_
      exact tJ207_78 (f := f) (by omega) gx1 gx2 (rg_to _) hg7860 (rgD rfl) hR7847 (fun m' e' => Hr m' (hX7866.trans e'))
    · have hX7906 := hX7862.trans (if_neg hb7863)
      refine p_iconst 74 c207_73 rfl ?_
      refine p_goto 78 c207_74 rfl ?_
      exact tJ207_78 (f := f) (by omega) gx1 gx2 (rg_to _) hg7860 (rgD rfl) hR7847 (fun m' e' => Hr m' (hX7906.trans e'))
  · have hX7907 := hX7845.trans (if_pos (Classical.not_not.mp hb7848))
    exact p_return c207_30 (Hr _ hX7907 hR7847 _)
def F207 (f : Nat) (x1 : Int) (m : yM) : Option yM := (if 0 < F205 (m 403 (wr (x1 + 3)).toNat) m then (J207_23 f x1 (F205 (m 403 (wr (x1 + 3)).toNat) m) 1 m) else (J207_23 f x1 (F205 (m 403 (wr (x1 + 3)).toNat) m) 0 m))
set_option maxRecDepth 100000 in
theorem d207 {L : Nat} {xs : Nat → Int32} {k d n : Nat} {c : yS3} {f : Nat} {x1 : Int} {m : yM} (hk : k ≤ f) (gx1 : rg x1) (hR : RM c m) : PC (gZ L xs) k d 207 [.ref 376, yI x1] m n (qV c (F207 f x1 m)) := by
  have hX : F207 f x1 m = F207 f x1 m := rfl
  have Hr : ∀ m', F207 f x1 m = some m' → RM c m' → ∀ n' : Nat, (qV c (F207 f x1 m)) (.inl none) m' n' := fun m' e h n' => ⟨rfl, h, e⟩
  refine PC.mk [some (.ref 376), some (yI x1), none, none, none, none, none] kn207 rfl ?_
  refine p_aload 1 c207_0 rfl rfl ?_
  refine p_aload 2 c207_1 rfl rfl ?_
  refine p_getR 5 c207_2 rfl kf376_40 ?_
  refine p_iload 6 c207_5 rfl rfl ?_
  refine p_iconst 7 c207_6 rfl ?_
  refine p_iadd 8 c207_7 rfl ?_
  refine p_iaX 9 (m 403 (wr (x1 + 3)).toNat) c207_8 rfl ka403 (rg_wr _) rfl (fun hx7832 => ?_)
  refine p_cX 12 [.ref 376, yI (m 403 (wr (x1 + 3)).toNat)] [] c207_9 rfl rfl rfl (fun k' hk' d' => d205 (hR.rg _ _) hR) (fun hg7835 n7834 k7833 hk7833 => ?_)
  refine p_istore 13 c207_12 rfl rfl ?_
  refine p_aload 14 c207_13 rfl rfl ?_
  refine p_iload 15 c207_14 rfl rfl ?_
  refine p_if 22 18 c207_15 rfl rfl ((yz_le hg7835).trans Int.not_lt.symm) (fun hb7836 k7837 hk7837 => ?_) (fun hb7836 k7838 hk7838 => ?_)
  · have hX7839 := hX.trans (if_neg hb7836)
    refine p_iconst 23 c207_22 rfl ?_
    exact tJ207_23 (f := f) (by omega) gx1 hg7835 (rgD rfl) hR (fun m' e' => Hr m' (hX7839.trans e'))
  · have hX7908 := hX.trans (if_pos (Classical.not_not.mp hb7836))
    refine p_iconst 19 c207_18 rfl ?_
    refine p_goto 23 c207_19 rfl ?_
    exact tJ207_23 (f := f) (by omega) gx1 hg7835 (rgD rfl) hR (fun m' e' => Hr m' (hX7908.trans e'))
def J204_100 (f : Nat) (m : yM) : Option yM := (some (yup m 376 55 (wr ((m 412 (m 376 54).toNat) + 1))))
set_option maxRecDepth 100000 in
theorem tJ204_100 {L : Nat} {xs : Nat → Int32} {Q : xO → yM → Nat → Prop} {k d n : Nat} {c : yS3} {f : Nat} {m : yM} {j1 j2 j3 : Option Value} (hk : k ≤ f) (hR : RM c m) (Hr : ∀ m', J204_100 f m = some m' → RM c m' → ∀ n', Q (.inl none) m' n') : PW (gZ L xs) k 204 d 100 [some (.ref 376), j1, j2, j3] [] m n Q := by
  have hX : J204_100 f m = J204_100 f m := rfl
  refine p_aload 101 c204_100 rfl rfl ?_
  refine p_aload 102 c204_101 rfl rfl ?_
  refine p_getR 105 c204_102 rfl kf376_53 ?_
  refine p_aload 106 c204_105 rfl rfl ?_
  refine p_getX 109 (m 376 54) c204_106 rfl kf376_54 rfl ?_
  refine p_iaX 110 (m 412 (m 376 54).toNat) c204_109 rfl ka412 (hR.rg _ _) rfl (fun hx7939 => ?_)
  refine p_iconst 111 c204_110 rfl ?_
  refine p_iadd 112 c204_111 rfl ?_
  refine p_putI 115 c204_112 rfl kf376_55 ?_
  have hR7940 := hR.up 376 55 (v := wr ((m 412 (m 376 54).toNat) + 1)) (nselD rfl) (rg_wr _)
  exact p_return c204_115 (Hr _ hX hR7940 _)
def J204_36 (f : Nat) (x2 : Int) (m : yM) : Option yM := (if wr ((m 376 54) - 1) = 0 then (some (yup m 376 54 (wr ((m 376 54) - 1)))) else (if m 403 (wr ((wr ((wr (1000 * (m 376 18))) + (wr (8 * (m 412 (wr ((m 376 54) - 1)).toNat))))) + 2)).toNat < 0 then (J204_100 f (yup m 376 54 (wr ((m 376 54) - 1)))) else (bU (F202 f (m 403 (wr ((wr ((wr (1000 * (m 376 18))) + (wr (8 * (m 412 (wr ((m 376 54) - 1)).toNat))))) + 2)).toNat) x2 (yup m 376 54 (wr ((m 376 54) - 1)))) (fun m7949 => (J204_100 f m7949)))))
set_option maxRecDepth 100000 in
theorem tJ204_36 {L : Nat} {xs : Nat → Int32} {Q : xO → yM → Nat → Prop} {k d n : Nat} {c : yS3} {f : Nat} {x2 : Int} {m : yM} {j1 j3 : Option Value} (hk : k ≤ f) (gx2 : rg x2) (hR : RM c m) (Hr : ∀ m', J204_36 f x2 m = some m' → RM c m' → ∀ n', Q (.inl none) m' n') : PW (gZ L xs) k 204 d 36 [some (.ref 376), j1, some (yI x2), j3] [] m n Q := by
  have hX : J204_36 f x2 m = J204_36 f x2 m := rfl
  refine p_aload 37 c204_36 rfl rfl ?_
  refine p_dup 38 c204_37 rfl rfl ?_
  refine p_getX 41 (m 376 54) c204_38 rfl kf376_54 rfl ?_
  refine p_iconst 42 c204_41 rfl ?_
  refine p_isub 43 c204_42 rfl ?_
  refine p_putI 46 c204_43 rfl kf376_54 ?_
  have hR7928 := hR.up 376 54 (v := wr ((m 376 54) - 1)) (nselD rfl) (rg_wr _)
  refine p_aload 47 c204_46 rfl rfl ?_
  refine p_getX 50 (wr ((m 376 54) - 1)) c204_47 rfl kf376_54 (yup_eq _ _ _ _) ?_
  refine p_if 54 53 c204_50 rfl rfl (yz_ne (rg_wr _)) (fun hb7929 k7930 hk7930 => ?_) (fun hb7929 k7931 hk7931 => ?_)
  · have hX7932 := hX.trans (if_neg hb7929)
    refine p_iconst 57 c204_54 rfl ?_
    refine p_aload 58 c204_57 rfl rfl ?_
    refine p_getX 61 (m 376 18) c204_58 rfl kf376_18 (yup_nk (by decide)) ?_
    refine p_imul 62 c204_61 rfl ?_
    refine p_iconst 64 c204_62 rfl ?_
    refine p_aload 65 c204_64 rfl rfl ?_
    refine p_getR 68 c204_65 rfl kf376_53 ?_
    refine p_aload 69 c204_68 rfl rfl ?_
    refine p_getX 72 (wr ((m 376 54) - 1)) c204_69 rfl kf376_54 (yup_eq _ _ _ _) ?_
    refine p_iaX 73 (m 412 (wr ((m 376 54) - 1)).toNat) c204_72 rfl ka412 (rg_wr _) (yup_na (by decide)) (fun hx7933 => ?_)
    refine p_imul 74 c204_73 rfl ?_
    refine p_iadd 75 c204_74 rfl ?_
    refine p_istore 76 c204_75 rfl rfl ?_
    refine p_aload 77 c204_76 rfl rfl ?_
    refine p_getR 80 c204_77 rfl kf376_40 ?_
    refine p_iload 81 c204_80 rfl rfl ?_
    refine p_iconst 82 c204_81 rfl ?_
    refine p_iadd 83 c204_82 rfl ?_
    refine p_iaX 84 (m 403 (wr ((wr ((wr (1000 * (m 376 18))) + (wr (8 * (m 412 (wr ((m 376 54) - 1)).toNat))))) + 2)).toNat) c204_83 rfl ka403 (rg_wr _) (yup_na (by decide)) (fun hx7934 => ?_)
    refine p_if 100 87 c204_84 rfl rfl (yz_lt (hR.rg _ _)) (fun hb7935 k7936 hk7936 => ?_) (fun hb7935 k7937 hk7937 => ?_)
    · have hX7938 := hX7932.trans (if_pos hb7935)
      exact tJ204_100 (f := f) (by omega) hR7928 (fun m' e' => Hr m' (hX7938.trans e'))
    · have hX7941 := hX7932.trans (if_neg hb7935)
      refine p_aload 88 c204_87 rfl rfl ?_
      refine p_aload 89 c204_88 rfl rfl ?_
      refine p_getR 92 c204_89 rfl kf376_40 ?_
      refine p_iload 93 c204_92 rfl rfl ?_
      refine p_iconst 94 c204_93 rfl ?_
      refine p_iadd 95 c204_94 rfl ?_
      refine p_iaX 96 (m 403 (wr ((wr ((wr (1000 * (m 376 18))) + (wr (8 * (m 412 (wr ((m 376 54) - 1)).toNat))))) + 2)).toNat) c204_95 rfl ka403 (rg_wr _) (yup_na (by decide)) (fun hx7942 => ?_)
      refine p_iload 97 c204_96 rfl rfl ?_
      refine p_cV 100 [.ref 376, yI (m 403 (wr ((wr ((wr (1000 * (m 376 18))) + (wr (8 * (m 412 (wr ((m 376 54) - 1)).toNat))))) + 2)).toNat), yI x2] [] c204_97 rfl rfl rfl (fun k' hk' d' => d202 (f := f) (by omega) (hR.rg _ _) gx2 hR7928) (fun m7949 hF7945 hR7950 n7944 k7943 hk7943 => ?_)
      have hX7948 := hX7941.trans (bU_s hF7945)
      exact tJ204_100 (f := f) (by omega) hR7950 (fun m' e' => Hr m' (hX7948.trans e'))
  · have hX7951 := hX.trans (if_pos (Classical.not_not.mp hb7929))
    exact p_return c204_53 (Hr _ hX7951 hR7928 _)
def F204 (f : Nat) (x1 : Int) (x2 : Int) (m : yM) : Option yM := (if 0 < x2 then (J204_36 f x2 (yup m 408 (wr ((wr (12 * (m 398 (wr ((wr (10 * (m 376 18))) + x1)).toNat))) + (m 409 (wr (x2 - 1)).toNat))).toNat 1)) else (J204_36 f x2 m))
set_option maxRecDepth 100000 in
theorem d204 {L : Nat} {xs : Nat → Int32} {k d n : Nat} {c : yS3} {f : Nat} {x1 : Int} {x2 : Int} {m : yM} (hk : k ≤ f) (gx1 : rg x1) (gx2 : rg x2) (hR : RM c m) : PC (gZ L xs) k d 204 [.ref 376, yI x1, yI x2] m n (qV c (F204 f x1 x2 m)) := by
  have hX : F204 f x1 x2 m = F204 f x1 x2 m := rfl
  have Hr : ∀ m', F204 f x1 x2 m = some m' → RM c m' → ∀ n' : Nat, (qV c (F204 f x1 x2 m)) (.inl none) m' n' := fun m' e h n' => ⟨rfl, h, e⟩
  refine PC.mk [some (.ref 376), some (yI x1), some (yI x2), none] kn204 rfl ?_
  refine p_iload 1 c204_0 rfl rfl ?_
  refine p_if 36 4 c204_1 rfl rfl ((yz_le gx2).trans Int.not_lt.symm) (fun hb7924 k7925 hk7925 => ?_) (fun hb7924 k7926 hk7926 => ?_)
  · have hX7927 := hX.trans (if_neg hb7924)
    exact tJ204_36 (f := f) (by omega) gx2 hR (fun m' e' => Hr m' (hX7927.trans e'))
  · have hX7952 := hX.trans (if_pos (Classical.not_not.mp hb7924))
    refine p_aload 5 c204_4 rfl rfl ?_
    refine p_getR 8 c204_5 rfl kf376_48 ?_
    refine p_iconst 10 c204_8 rfl ?_
    refine p_aload 11 c204_10 rfl rfl ?_
    refine p_getR 14 c204_11 rfl kf376_35 ?_
    refine p_iconst 16 c204_14 rfl ?_
    refine p_aload 17 c204_16 rfl rfl ?_
    refine p_getX 20 (m 376 18) c204_17 rfl kf376_18 rfl ?_
    refine p_imul 21 c204_20 rfl ?_
    refine p_iload 22 c204_21 rfl rfl ?_
    refine p_iadd 23 c204_22 rfl ?_
    refine p_iaX 24 (m 398 (wr ((wr (10 * (m 376 18))) + x1)).toNat) c204_23 rfl ka398 (rg_wr _) rfl (fun hx7953 => ?_)
    refine p_imul 25 c204_24 rfl ?_
    refine p_aload 26 c204_25 rfl rfl ?_
    refine p_getR 29 c204_26 rfl kf376_49 ?_
    refine p_iload 30 c204_29 rfl rfl ?_
    refine p_iconst 31 c204_30 rfl ?_
    refine p_isub 32 c204_31 rfl ?_
    refine p_iaX 33 (m 409 (wr (x2 - 1)).toNat) c204_32 rfl ka409 (rg_wr _) rfl (fun hx7954 => ?_)
    refine p_iadd 34 c204_33 rfl ?_
    refine p_iconst 35 c204_34 rfl ?_
    refine p_iaS 36 c204_35 rfl ka408 (rg_wr _) 1 rfl (fun hx7955 => ?_)
    have hR7956 := hR.up 408 (wr ((wr (12 * (m 398 (wr ((wr (10 * (m 376 18))) + x1)).toNat))) + (m 409 (wr (x2 - 1)).toNat))).toNat (v := 1) (nselA (by decide)) (rgD rfl)
    exact tJ204_36 (f := f) (by omega) gx2 hR7956 (fun m' e' => Hr m' (hX7952.trans e'))
def J210_179 (f : Nat) (xs1 : Int) (m : yM) : Option yM := (some (yup m 376 55 xs1))
set_option maxRecDepth 100000 in
theorem tJ210_179 {L : Nat} {xs : Nat → Int32} {Q : xO → yM → Nat → Prop} {k d n : Nat} {c : yS3} {f : Nat} {xs1 : Int} {m : yM} {j0 j1 j2 : Option Value} (hk : k ≤ f) (gxs1 : rg xs1) (hR : RM c m) (Hr : ∀ m', J210_179 f xs1 m = some m' → RM c m' → ∀ n', Q (.inl none) m' n') : PW (gZ L xs) k 210 d 179 [j0, j1, j2] [yI xs1, .ref 376] m n Q := by
  have hX : J210_179 f xs1 m = J210_179 f xs1 m := rfl
  refine p_putI 182 c210_179 rfl kf376_55 ?_
  have hR7605 := hR.up 376 55 (v := xs1) (nselD rfl) gxs1
  refine p_goto 214 c210_182 rfl ?_
  exact p_return c210_214 (Hr _ hX hR7605 _)
def J210_146 (f : Nat) (x1 : Int) (m : yM) : Option yM := (if 0 < F205 (m 403 (wr (x1 + 2)).toNat) m then (J210_179 f (wr ((m 376 55) + 1)) m) else (J210_179 f (m 403 (wr (x1 + 3)).toNat) m))
set_option maxRecDepth 100000 in
theorem tJ210_146 {L : Nat} {xs : Nat → Int32} {Q : xO → yM → Nat → Prop} {k d n : Nat} {c : yS3} {f : Nat} {x1 : Int} {m : yM} {j2 : Option Value} (hk : k ≤ f) (gx1 : rg x1) (hR : RM c m) (Hr : ∀ m', J210_146 f x1 m = some m' → RM c m' → ∀ n', Q (.inl none) m' n') : PW (gZ L xs) k 210 d 146 [some (.ref 376), some (yI x1), j2] [] m n Q := by
  have hX : J210_146 f x1 m = J210_146 f x1 m := rfl
  refine p_aload 147 c210_146 rfl rfl ?_
  refine p_aload 148 c210_147 rfl rfl ?_
  refine p_aload 149 c210_148 rfl rfl ?_
  refine p_getR 152 c210_149 rfl kf376_40 ?_
  refine p_iload 153 c210_152 rfl rfl ?_
  refine p_iconst 154 c210_153 rfl ?_
  refine p_iadd 155 c210_154 rfl ?_
  refine p_iaX 156 (m 403 (wr (x1 + 2)).toNat) c210_155 rfl ka403 (rg_wr _) rfl (fun hx7595 => ?_)
  refine p_cX 159 [.ref 376, yI (m 403 (wr (x1 + 2)).toNat)] [.ref 376] c210_156 rfl rfl rfl (fun k' hk' d' => d205 (hR.rg _ _) hR) (fun hg7599 n7597 k7596 hk7596 => ?_)
  refine p_if 171 162 c210_159 rfl rfl ((yz_le hg7599).trans Int.not_lt.symm) (fun hb7600 k7601 hk7601 => ?_) (fun hb7600 k7602 hk7602 => ?_)
  · have hX7603 := hX.trans (if_neg hb7600)
    refine p_aload 172 c210_171 rfl rfl ?_
    refine p_getR 175 c210_172 rfl kf376_40 ?_
    refine p_iload 176 c210_175 rfl rfl ?_
    refine p_iconst 177 c210_176 rfl ?_
    refine p_iadd 178 c210_177 rfl ?_
    refine p_iaX 179 (m 403 (wr (x1 + 3)).toNat) c210_178 rfl ka403 (rg_wr _) rfl (fun hx7604 => ?_)
    exact tJ210_179 (f := f) (by omega) (hR.rg _ _) hR (fun m' e' => Hr m' (hX7603.trans e'))
  · have hX7606 := hX.trans (if_pos (Classical.not_not.mp hb7600))
    refine p_aload 163 c210_162 rfl rfl ?_
    refine p_getX 166 (m 376 55) c210_163 rfl kf376_55 rfl ?_
    refine p_iconst 167 c210_166 rfl ?_
    refine p_iadd 168 c210_167 rfl ?_
    refine p_goto 179 c210_168 rfl ?_
    exact tJ210_179 (f := f) (by omega) (rg_wr _) hR (fun m' e' => Hr m' (hX7606.trans e'))
def J210_40 (f : Nat) (x1 : Int) (x2 : Int) (m : yM) : Option yM := (if 200 < m 376 56 then (some (yup m 376 57 4)) else (if x2 = 11 then (some (yup m 376 55 (m 403 (wr (x1 + 3)).toNat))) else (if x2 = 12 then (bU (F204 f (m 403 (wr (x1 + 1)).toNat) 0 m) (fun m7971 => (some m7971))) else (if x2 = 6 then (bU (F204 f (m 403 (wr (x1 + 1)).toNat) (F205 (m 403 (wr (x1 + 2)).toNat) m) m) (fun m7961 => (some m7961))) else (if x2 = 9 then (J210_146 f x1 m) else (if x2 = 10 then (J210_146 f x1 m) else (if x2 = 7 then (bU (F207 f x1 m) (fun m7913 => (some m7913))) else (bU (F209 f x1 m) (fun m7826 => (some (yup m7826 376 55 (wr ((m7826 376 55) + 1)))))))))))))
set_option maxRecDepth 100000 in
theorem tJ210_40 {L : Nat} {xs : Nat → Int32} {Q : xO → yM → Nat → Prop} {k d n : Nat} {c : yS3} {f : Nat} {x1 : Int} {x2 : Int} {m : yM} (hk : k ≤ f) (gx1 : rg x1) (gx2 : rg x2) (hR : RM c m) (Hr : ∀ m', J210_40 f x1 x2 m = some m' → RM c m' → ∀ n', Q (.inl none) m' n') : PW (gZ L xs) k 210 d 40 [some (.ref 376), some (yI x1), some (yI x2)] [] m n Q := by
  have hX : J210_40 f x1 x2 m = J210_40 f x1 x2 m := rfl
  refine p_aload 41 c210_40 rfl rfl ?_
  refine p_getX 44 (m 376 56) c210_41 rfl kf376_56 rfl ?_
  refine p_iconst 47 c210_44 rfl ?_
  refine p_icmp 58 50 c210_47 rfl rfl ((yc_le (hR.rg _ _) (rgD rfl)).trans Int.not_lt.symm) (fun hb7575 k7576 hk7576 => ?_) (fun hb7575 k7577 hk7577 => ?_)
  · have hX7578 := hX.trans (if_neg hb7575)
    refine p_iload 59 c210_58 rfl rfl ?_
    refine p_iconst 61 c210_59 rfl ?_
    refine p_icmp 79 64 c210_61 rfl rfl (yc_ne gx2 (rgD rfl)) (fun hb7579 k7580 hk7580 => ?_) (fun hb7579 k7581 hk7581 => ?_)
    · have hX7582 := hX7578.trans (if_neg hb7579)
      refine p_iload 80 c210_79 rfl rfl ?_
      refine p_iconst 82 c210_80 rfl ?_
      refine p_icmp 101 85 c210_82 rfl rfl (yc_ne gx2 (rgD rfl)) (fun hb7583 k7584 hk7584 => ?_) (fun hb7583 k7585 hk7585 => ?_)
      · have hX7586 := hX7582.trans (if_neg hb7583)
        refine p_iload 102 c210_101 rfl rfl ?_
        refine p_iconst 104 c210_102 rfl ?_
        refine p_icmp 134 107 c210_104 rfl rfl (yc_ne gx2 (rgD rfl)) (fun hb7587 k7588 hk7588 => ?_) (fun hb7587 k7589 hk7589 => ?_)
        · have hX7590 := hX7586.trans (if_neg hb7587)
          refine p_iload 135 c210_134 rfl rfl ?_
          refine p_iconst 137 c210_135 rfl ?_
          refine p_icmp 146 140 c210_137 rfl rfl (yc_eq gx2 (rgD rfl)) (fun hb7591 k7592 hk7592 => ?_) (fun hb7591 k7593 hk7593 => ?_)
          · have hX7594 := hX7590.trans (if_pos hb7591)
            exact tJ210_146 (f := f) (by omega) gx1 hR (fun m' e' => Hr m' (hX7594.trans e'))
          · have hX7607 := hX7590.trans (if_neg hb7591)
            refine p_iload 141 c210_140 rfl rfl ?_
            refine p_iconst 143 c210_141 rfl ?_
            refine p_icmp 185 146 c210_143 rfl rfl (yc_ne gx2 (rgD rfl)) (fun hb7608 k7609 hk7609 => ?_) (fun hb7608 k7610 hk7610 => ?_)
            · have hX7611 := hX7607.trans (if_neg hb7608)
              refine p_iload 186 c210_185 rfl rfl ?_
              refine p_iconst 188 c210_186 rfl ?_
              refine p_icmp 199 191 c210_188 rfl rfl (yc_ne gx2 (rgD rfl)) (fun hb7612 k7613 hk7613 => ?_) (fun hb7612 k7614 hk7614 => ?_)
              · have hX7615 := hX7611.trans (if_neg hb7612)
                refine p_aload 200 c210_199 rfl rfl ?_
                refine p_iload 201 c210_200 rfl rfl ?_
                refine p_cV 204 [.ref 376, yI x1] [] c210_201 rfl rfl rfl (fun k' hk' d' => d209 (f := f) (by omega) gx1 hR) (fun m7826 hF7822 hR7827 n7617 k7616 hk7616 => ?_)
                have hX7825 := hX7615.trans (bU_s hF7822)
                refine p_aload 205 c210_204 rfl rfl ?_
                refine p_dup 206 c210_205 rfl rfl ?_
                refine p_getX 209 (m7826 376 55) c210_206 rfl kf376_55 rfl ?_
                refine p_iconst 210 c210_209 rfl ?_
                refine p_iadd 211 c210_210 rfl ?_
                refine p_putI 214 c210_211 rfl kf376_55 ?_
                have hR7828 := hR7827.up 376 55 (v := wr ((m7826 376 55) + 1)) (nselD rfl) (rg_wr _)
                exact p_return c210_214 (Hr _ hX7825 hR7828 _)
              · have hX7829 := hX7611.trans (if_pos (Classical.not_not.mp hb7612))
                refine p_aload 192 c210_191 rfl rfl ?_
                refine p_iload 193 c210_192 rfl rfl ?_
                refine p_cV 196 [.ref 376, yI x1] [] c210_193 rfl rfl rfl (fun k' hk' d' => d207 (f := f) (by omega) gx1 hR) (fun m7913 hF7909 hR7914 n7831 k7830 hk7830 => ?_)
                have hX7912 := hX7829.trans (bU_s hF7909)
                refine p_goto 214 c210_196 rfl ?_
                exact p_return c210_214 (Hr _ hX7912 hR7914 _)
            · have hX7915 := hX7607.trans (if_pos (Classical.not_not.mp hb7608))
              exact tJ210_146 (f := f) (by omega) gx1 hR (fun m' e' => Hr m' (hX7915.trans e'))
        · have hX7916 := hX7586.trans (if_pos (Classical.not_not.mp hb7587))
          refine p_aload 108 c210_107 rfl rfl ?_
          refine p_aload 109 c210_108 rfl rfl ?_
          refine p_getR 112 c210_109 rfl kf376_40 ?_
          refine p_iload 113 c210_112 rfl rfl ?_
          refine p_iconst 114 c210_113 rfl ?_
          refine p_iadd 115 c210_114 rfl ?_
          refine p_iaX 116 (m 403 (wr (x1 + 1)).toNat) c210_115 rfl ka403 (rg_wr _) rfl (fun hx7917 => ?_)
          refine p_aload 117 c210_116 rfl rfl ?_
          refine p_aload 118 c210_117 rfl rfl ?_
          refine p_getR 121 c210_118 rfl kf376_40 ?_
          refine p_iload 122 c210_121 rfl rfl ?_
          refine p_iconst 123 c210_122 rfl ?_
          refine p_iadd 124 c210_123 rfl ?_
          refine p_iaX 125 (m 403 (wr (x1 + 2)).toNat) c210_124 rfl ka403 (rg_wr _) rfl (fun hx7918 => ?_)
          refine p_cX 128 [.ref 376, yI (m 403 (wr (x1 + 2)).toNat)] [yI (m 403 (wr (x1 + 1)).toNat), .ref 376] c210_125 rfl rfl rfl (fun k' hk' d' => d205 (hR.rg _ _) hR) (fun hg7921 n7920 k7919 hk7919 => ?_)
          refine p_cV 131 [.ref 376, yI (m 403 (wr (x1 + 1)).toNat), yI (F205 (m 403 (wr (x1 + 2)).toNat) m)] [] c210_128 rfl rfl rfl (fun k' hk' d' => d204 (f := f) (by omega) (hR.rg _ _) hg7921 hR) (fun m7961 hF7957 hR7962 n7923 k7922 hk7922 => ?_)
          have hX7960 := hX7916.trans (bU_s hF7957)
          refine p_goto 214 c210_131 rfl ?_
          exact p_return c210_214 (Hr _ hX7960 hR7962 _)
      · have hX7963 := hX7582.trans (if_pos (Classical.not_not.mp hb7583))
        refine p_aload 86 c210_85 rfl rfl ?_
        refine p_aload 87 c210_86 rfl rfl ?_
        refine p_getR 90 c210_87 rfl kf376_40 ?_
        refine p_iload 91 c210_90 rfl rfl ?_
        refine p_iconst 92 c210_91 rfl ?_
        refine p_iadd 93 c210_92 rfl ?_
        refine p_iaX 94 (m 403 (wr (x1 + 1)).toNat) c210_93 rfl ka403 (rg_wr _) rfl (fun hx7964 => ?_)
        refine p_iconst 95 c210_94 rfl ?_
        refine p_cV 98 [.ref 376, yI (m 403 (wr (x1 + 1)).toNat), yI 0] [] c210_95 rfl rfl rfl (fun k' hk' d' => d204 (f := f) (by omega) (hR.rg _ _) (rgD rfl) hR) (fun m7971 hF7967 hR7972 n7966 k7965 hk7965 => ?_)
        have hX7970 := hX7963.trans (bU_s hF7967)
        refine p_goto 214 c210_98 rfl ?_
        exact p_return c210_214 (Hr _ hX7970 hR7972 _)
    · have hX7973 := hX7578.trans (if_pos (Classical.not_not.mp hb7579))
      refine p_aload 65 c210_64 rfl rfl ?_
      refine p_aload 66 c210_65 rfl rfl ?_
      refine p_getR 69 c210_66 rfl kf376_40 ?_
      refine p_iload 70 c210_69 rfl rfl ?_
      refine p_iconst 71 c210_70 rfl ?_
      refine p_iadd 72 c210_71 rfl ?_
      refine p_iaX 73 (m 403 (wr (x1 + 3)).toNat) c210_72 rfl ka403 (rg_wr _) rfl (fun hx7974 => ?_)
      refine p_putI 76 c210_73 rfl kf376_55 ?_
      have hR7975 := hR.up 376 55 (v := m 403 (wr (x1 + 3)).toNat) (nselD rfl) (hR.rg _ _)
      refine p_goto 214 c210_76 rfl ?_
      exact p_return c210_214 (Hr _ hX7973 hR7975 _)
  · have hX7976 := hX.trans (if_pos (Classical.not_not.mp hb7575))
    refine p_aload 51 c210_50 rfl rfl ?_
    refine p_iconst 52 c210_51 rfl ?_
    refine p_putI 55 c210_52 rfl kf376_57 ?_
    have hR7977 := hR.up 376 57 (v := 4) (nselD rfl) (rgD rfl)
    refine p_goto 214 c210_55 rfl ?_
    exact p_return c210_214 (Hr _ hX7976 hR7977 _)
def F210 (f : Nat) (m : yM) : Option yM := (if m 403 (wr ((wr (1000 * (m 376 18))) + (wr (8 * (m 376 55))))).toNat < 11 then (J210_40 f (wr ((wr (1000 * (m 376 18))) + (wr (8 * (m 376 55))))) (m 403 (wr ((wr (1000 * (m 376 18))) + (wr (8 * (m 376 55))))).toNat) (yup m 376 56 (wr ((m 376 56) + 1)))) else (J210_40 f (wr ((wr (1000 * (m 376 18))) + (wr (8 * (m 376 55))))) (m 403 (wr ((wr (1000 * (m 376 18))) + (wr (8 * (m 376 55))))).toNat) m))
set_option maxRecDepth 100000 in
theorem d210 {L : Nat} {xs : Nat → Int32} {k d n : Nat} {c : yS3} {f : Nat} {m : yM} (hk : k ≤ f) (hR : RM c m) : PC (gZ L xs) k d 210 [.ref 376] m n (qV c (F210 f m)) := by
  have hX : F210 f m = F210 f m := rfl
  have Hr : ∀ m', F210 f m = some m' → RM c m' → ∀ n' : Nat, (qV c (F210 f m)) (.inl none) m' n' := fun m' e h n' => ⟨rfl, h, e⟩
  refine PC.mk [some (.ref 376), none, none] kn210 rfl ?_
  refine p_iconst 3 c210_0 rfl ?_
  refine p_aload 4 c210_3 rfl rfl ?_
  refine p_getX 7 (m 376 18) c210_4 rfl kf376_18 rfl ?_
  refine p_imul 8 c210_7 rfl ?_
  refine p_iconst 10 c210_8 rfl ?_
  refine p_aload 11 c210_10 rfl rfl ?_
  refine p_getX 14 (m 376 55) c210_11 rfl kf376_55 rfl ?_
  refine p_imul 15 c210_14 rfl ?_
  refine p_iadd 16 c210_15 rfl ?_
  refine p_istore 17 c210_16 rfl rfl ?_
  refine p_aload 18 c210_17 rfl rfl ?_
  refine p_getR 21 c210_18 rfl kf376_40 ?_
  refine p_iload 22 c210_21 rfl rfl ?_
  refine p_iaX 23 (m 403 (wr ((wr (1000 * (m 376 18))) + (wr (8 * (m 376 55))))).toNat) c210_22 rfl ka403 (rg_wr _) rfl (fun hx7570 => ?_)
  refine p_istore 24 c210_23 rfl rfl ?_
  refine p_iload 25 c210_24 rfl rfl ?_
  refine p_iconst 27 c210_25 rfl ?_
  refine p_icmp 40 30 c210_27 rfl rfl ((yc_ge (hR.rg _ _) (rgD rfl)).trans Int.not_lt.symm) (fun hb7571 k7572 hk7572 => ?_) (fun hb7571 k7573 hk7573 => ?_)
  · have hX7574 := hX.trans (if_neg hb7571)
    exact tJ210_40 (f := f) (by omega) (rg_wr _) (hR.rg _ _) hR (fun m' e' => Hr m' (hX7574.trans e'))
  · have hX7978 := hX.trans (if_pos (Classical.not_not.mp hb7571))
    refine p_aload 31 c210_30 rfl rfl ?_
    refine p_dup 32 c210_31 rfl rfl ?_
    refine p_getX 35 (m 376 56) c210_32 rfl kf376_56 rfl ?_
    refine p_iconst 36 c210_35 rfl ?_
    refine p_iadd 37 c210_36 rfl ?_
    refine p_putI 40 c210_37 rfl kf376_56 ?_
    have hR7979 := hR.up 376 56 (v := wr ((m 376 56) + 1)) (nselD rfl) (rg_wr _)
    exact tJ210_40 (f := f) (by omega) (rg_wr _) (hR.rg _ _) hR7979 (fun m' e' => Hr m' (hX7978.trans e'))
end
section
/-! FUNCTIONS OF THE METHODS: printed by wip/fn/dc.py -/
def B211_30 (f : Nat) (x1 : Int) (m : yM) : Option ((Int × yM) ⊕ ((Int × yM) ⊕ (Int × yM))) := (if x1 < 576 then (some (.inl ((wr (x1 + 1)), yup m 408 x1.toNat 0))) else (some (.inr (.inl (x1, m)))))
set_option maxRecDepth 100000 in
theorem tB211_30 {L : Nat} {xs : Nat → Int32} {Q : xO → yM → Nat → Prop} {k d n : Nat} {c : yS3} {f : Nat} {x1 : Int} {m : yM} (hk : k ≤ f) (gx1 : rg x1) (hR : RM c m) (Hn : ∀ (y0 : Int) (m' : yM) (n' : Nat), B211_30 f x1 m = some (.inl (y0, m')) → rg y0 → RM c m' → ∀ k', k' < k → PW (gZ L xs) k' 211 d 30 [some (.ref 376), some (yI y0)] [] m' n' Q) (He : ∀ (y0 : Int) (m' : yM) (n' : Nat), B211_30 f x1 m = some (.inr (.inl (y0, m'))) → rg y0 → RM c m' → ∀ k', k' ≤ k → PW (gZ L xs) k' 211 d 50 [some (.ref 376), some (yI y0)] [] m' n' Q) (Hr : ∀ r m', B211_30 f x1 m = some (.inr (.inr (r, m'))) → rg r → RM c m' → ∀ n', Q (.inl (some (yI r))) m' n') : PW (gZ L xs) k 211 d 30 [some (.ref 376), some (yI x1)] [] m n Q := by
  have hX : B211_30 f x1 m = B211_30 f x1 m := rfl
  refine p_iload 31 c211_30 rfl rfl ?_
  refine p_iconst 34 c211_31 rfl ?_
  refine p_icmp 50 37 c211_34 rfl rfl ((yc_ge gx1 (rgD rfl)).trans Int.not_lt.symm) (fun hb7415 k7416 hk7416 => ?_) (fun hb7415 k7417 hk7417 => ?_)
  · have hX7418 := hX.trans (if_neg hb7415)
    exact He _ _ _ hX7418 gx1 hR _ (by omega)
  · have hX7419 := hX.trans (if_pos (Classical.not_not.mp hb7415))
    refine p_aload 38 c211_37 rfl rfl ?_
    refine p_getR 41 c211_38 rfl kf376_48 ?_
    refine p_iload 42 c211_41 rfl rfl ?_
    refine p_iconst 43 c211_42 rfl ?_
    refine p_iaS 44 c211_43 rfl ka408 gx1 0 rfl (fun hx7420 => ?_)
    have hR7421 := hR.up 408 x1.toNat (v := 0) (nselA (by decide)) (rgD rfl)
    refine p_iinc 47 c211_44 rfl rfl rfl ?_
    refine p_gotoD 30 c211_47 rfl (fun k7422 hk7422 => ?_)
    exact Hn _ _ _ hX7419 (rg_wr _) hR7421 _ (by omega)
def B211_83 (f : Nat) (m : yM) : Option ((Unit × yM) ⊕ ((Unit × yM) ⊕ (Int × yM))) := (if m 376 57 = 0 then (if 0 < m 376 54 then (bU (F210 f m) (fun m7984 => (some (.inl ((), m7984))))) else (some (.inr (.inl ((), m))))) else (some (.inr (.inl ((), m)))))
set_option maxRecDepth 100000 in
theorem tB211_83 {L : Nat} {xs : Nat → Int32} {Q : xO → yM → Nat → Prop} {k d n : Nat} {c : yS3} {f : Nat} {m : yM} {j1 : Option Value} (hk : k ≤ f) (hR : RM c m) (Hn : ∀ (z0 : Option Value) (m' : yM) (n' : Nat), B211_83 f m = some (.inl ((), m')) → RM c m' → ∀ k', k' < k → PW (gZ L xs) k' 211 d 83 [some (.ref 376), z0] [] m' n' Q) (He : ∀ (z0 : Option Value) (m' : yM) (n' : Nat), B211_83 f m = some (.inr (.inl ((), m'))) → RM c m' → ∀ k', k' ≤ k → PW (gZ L xs) k' 211 d 104 [some (.ref 376), z0] [] m' n' Q) (Hr : ∀ r m', B211_83 f m = some (.inr (.inr (r, m'))) → rg r → RM c m' → ∀ n', Q (.inl (some (yI r))) m' n') : PW (gZ L xs) k 211 d 83 [some (.ref 376), j1] [] m n Q := by
  have hX : B211_83 f m = B211_83 f m := rfl
  refine p_aload 84 c211_83 rfl rfl ?_
  refine p_getX 87 (m 376 57) c211_84 rfl kf376_57 rfl ?_
  refine p_if 104 90 c211_87 rfl rfl (yz_ne (hR.rg _ _)) (fun hb7558 k7559 hk7559 => ?_) (fun hb7558 k7560 hk7560 => ?_)
  · have hX7561 := hX.trans (if_neg hb7558)
    exact He _ _ _ hX7561 hR _ (by omega)
  · have hX7562 := hX.trans (if_pos (Classical.not_not.mp hb7558))
    refine p_aload 91 c211_90 rfl rfl ?_
    refine p_getX 94 (m 376 54) c211_91 rfl kf376_54 rfl ?_
    refine p_if 104 97 c211_94 rfl rfl ((yz_le (hR.rg _ _)).trans Int.not_lt.symm) (fun hb7563 k7564 hk7564 => ?_) (fun hb7563 k7565 hk7565 => ?_)
    · have hX7566 := hX7562.trans (if_neg hb7563)
      exact He _ _ _ hX7566 hR _ (by omega)
    · have hX7567 := hX7562.trans (if_pos (Classical.not_not.mp hb7563))
      refine p_aload 98 c211_97 rfl rfl ?_
      refine p_cV 101 [.ref 376] [] c211_98 rfl rfl rfl (fun k' hk' d' => d210 (f := f) (by omega) hR) (fun m7984 hF7980 hR7985 n7569 k7568 hk7568 => ?_)
      have hX7983 := hX7567.trans (bU_s hF7980)
      refine p_gotoD 83 c211_101 rfl (fun k7986 hk7986 => ?_)
      exact Hn _ _ _ hX7983 hR7985 _ (by omega)
def J211_104 (f : Nat) (m : yM) : Option (Int × yM) := (if m 376 57 = 0 then (some (m 376 56, m)) else (some (0, m)))
set_option maxRecDepth 100000 in
theorem tJ211_104 {L : Nat} {xs : Nat → Int32} {Q : xO → yM → Nat → Prop} {k d n : Nat} {c : yS3} {f : Nat} {m : yM} {j1 : Option Value} (hk : k ≤ f) (hR : RM c m) (Hr : ∀ r m', J211_104 f m = some (r, m') → rg r → RM c m' → ∀ n', Q (.inl (some (yI r))) m' n') : PW (gZ L xs) k 211 d 104 [some (.ref 376), j1] [] m n Q := by
  have hX : J211_104 f m = J211_104 f m := rfl
  refine p_aload 105 c211_104 rfl rfl ?_
  refine p_getX 108 (m 376 57) c211_105 rfl kf376_57 rfl ?_
  refine p_if 118 111 c211_108 rfl rfl (yz_ne (hR.rg _ _)) (fun hb7996 k7997 hk7997 => ?_) (fun hb7996 k7998 hk7998 => ?_)
  · have hX7999 := hX.trans (if_neg hb7996)
    refine p_iconst 119 c211_118 rfl ?_
    exact p_ireturn c211_119 (Hr _ _ hX7999 (rgD rfl) hR _)
  · have hX8000 := hX.trans (if_pos (Classical.not_not.mp hb7996))
    refine p_aload 112 c211_111 rfl rfl ?_
    refine p_getX 115 (m 376 56) c211_112 rfl kf376_56 rfl ?_
    refine p_goto 119 c211_115 rfl ?_
    exact p_ireturn c211_119 (Hr _ _ hX8000 (hR.rg _ _) hR _)
def J211_20 (f : Nat) (xs1 : Int) (m : yM) : Option (Int × yM) := (bI (F162 f xs1 m) (fun r7407 m7409 => (if r7407 = 0 then (some (0, m7409)) else (bL (yloop (fun (l : Int) ml => B211_30 f l ml) f 0 m7409) (fun l7423 m7429 => (bI (F201 f 0 (yup (yup (yup m7429 376 51 0) 376 54 0) 376 56 0)) (fun r7465 m7467 => (bP (F143 f m7467) (fun r7473 => (bU (F203 f r7473 r7465 0 0 0 m7467) (fun m7556 => (bL (yloop (fun (l : Unit) ml => B211_83 f ml) f () m7556) (fun _ m7993 => (J211_104 f m7993)) (fun r mr => some (r, mr)))))))))) (fun r mr => some (r, mr))))))
set_option maxRecDepth 100000 in
theorem tJ211_20 {L : Nat} {xs : Nat → Int32} {Q : xO → yM → Nat → Prop} {k d n : Nat} {c : yS3} {f : Nat} {xs1 : Int} {m : yM} {j1 : Option Value} (hk : k ≤ f) (gxs1 : rg xs1) (hR : RM c m) (Hr : ∀ r m', J211_20 f xs1 m = some (r, m') → rg r → RM c m' → ∀ n', Q (.inl (some (yI r))) m' n') : PW (gZ L xs) k 211 d 20 [some (.ref 376), j1] [yI xs1, .ref 376] m n Q := by
  have hX : J211_20 f xs1 m = J211_20 f xs1 m := rfl
  refine p_cS 23 [.ref 376, yI xs1] [] c211_20 rfl rfl rfl (fun k' hk' d' => d162 (f := f) (by omega) gxs1 hR) (fun r7407 m7409 hF7405 hg7406 hR7410 n7404 k7403 hk7403 => ?_)
  have hX7408 := hX.trans (bI_s hF7405)
  refine p_if 28 26 c211_23 rfl rfl (yz_ne hg7406) (fun hb7411 k7412 hk7412 => ?_) (fun hb7411 k7413 hk7413 => ?_)
  · have hX7414 := hX7408.trans (if_neg hb7411)
    refine p_iconst 29 c211_28 rfl ?_
    refine p_istore 30 c211_29 rfl rfl ?_
    refine PW.loop (K := k7412) (pce := 50) (fun (l : Int) ml => B211_30 f l ml) (fun (l : Int) j => [some (.ref 376), some (yI l)]) (fun (l : Int) => rg l) (RM c) (fun r' m' => rg r' → RM c m' → ∀ n' : Nat, Q (.inl (some (yI r'))) m' n') (fun k' hk' l j m' n' hl hI Hn' He' Hr' => tB211_30 (f := f) (by omega) hl hI (fun y0 m2 n2 e h0 hR2 => Hn' y0 (fun q => ([none, none] : List (Option Value)).getD q none) m2 n2 e h0 hR2) (fun y0 m2 n2 e h0 hR2 => He' y0 (fun q => ([none, none] : List (Option Value)).getD q none) m2 n2 e h0 hR2) Hr') f k7412 (by omega) (Nat.le_refl _) 0 (fun q => ([some (.ref 376), some (yI 0)] : xL).getD q none) _ _ (rgD rfl) hR7410 (fun l7423 j7426 m7429 n7428 e7425 hl7424 hR7430 k7427 hk7427 => ?_) (fun r' m' e' => ?_)
    · have hX7431 := hX7414.trans (bL_l e7425)
      refine p_aload 51 c211_50 rfl rfl ?_
      refine p_iconst 52 c211_51 rfl ?_
      refine p_putI 55 c211_52 rfl kf376_51 ?_
      have hR7432 := hR7430.up 376 51 (v := 0) (nselD rfl) (rgD rfl)
      refine p_aload 56 c211_55 rfl rfl ?_
      refine p_iconst 57 c211_56 rfl ?_
      refine p_putI 60 c211_57 rfl kf376_54 ?_
      have hR7433 := hR7432.up 376 54 (v := 0) (nselD rfl) (rgD rfl)
      refine p_aload 61 c211_60 rfl rfl ?_
      refine p_iconst 62 c211_61 rfl ?_
      refine p_putI 65 c211_62 rfl kf376_56 ?_
      have hR7434 := hR7433.up 376 56 (v := 0) (nselD rfl) (rgD rfl)
      refine p_aload 66 c211_65 rfl rfl ?_
      refine p_iconst 67 c211_66 rfl ?_
      refine p_cS 70 [.ref 376, yI 0] [] c211_67 rfl rfl rfl (fun k' hk' d' => d201 (f := f) (by omega) (rgD rfl) hR7434) (fun r7465 m7467 hF7463 hg7464 hR7468 n7436 k7435 hk7435 => ?_)
      have hX7466 := hX7431.trans (bI_s hF7463)
      refine p_istore 71 c211_70 rfl rfl ?_
      refine p_aload 72 c211_71 rfl rfl ?_
      refine p_aload 73 c211_72 rfl rfl ?_
      refine p_cO 76 [.ref 376] [.ref 376] c211_73 rfl rfl rfl (fun k' hk' d' => d143 (f := f) (by omega) hR7468) (fun r7473 hF7471 hg7472 n7470 k7469 hk7469 => ?_)
      have hX7474 := hX7466.trans (bP_s hF7471)
      refine p_iload 77 c211_76 rfl rfl ?_
      refine p_iconst 78 c211_77 rfl ?_
      refine p_iconst 79 c211_78 rfl ?_
      refine p_iconst 80 c211_79 rfl ?_
      refine p_cV 83 [.ref 376, yI r7473, yI r7465, yI 0, yI 0, yI 0] [] c211_80 rfl rfl rfl (fun k' hk' d' => d203 (f := f) (by omega) hg7472 hg7464 (rgD rfl) (rgD rfl) (rgD rfl) hR7468) (fun m7556 hF7552 hR7557 n7476 k7475 hk7475 => ?_)
      have hX7555 := hX7474.trans (bU_s hF7552)
      refine PW.loop (K := k7475) (pce := 104) (fun (l : Unit) ml => B211_83 f ml) (fun (l : Unit) j => [some (.ref 376), j 1]) (fun (l : Unit) => True) (RM c) (fun r' m' => rg r' → RM c m' → ∀ n' : Nat, Q (.inl (some (yI r'))) m' n') (fun k' hk' l j m' n' hl hI Hn' He' Hr' => tB211_83 (f := f) (by omega) hI (fun y0 m2 n2 e  hR2 => Hn' () (fun q => ([none, y0] : List (Option Value)).getD q none) m2 n2 e trivial hR2) (fun y0 m2 n2 e  hR2 => He' () (fun q => ([none, y0] : List (Option Value)).getD q none) m2 n2 e trivial hR2) Hr') f k7475 (by omega) (Nat.le_refl _) () (fun q => ([some (.ref 376), some (yI r7465)] : xL).getD q none) _ _ trivial hR7557 (fun l7987 j7990 m7993 n7992 e7989 hl7988 hR7994 k7991 hk7991 => ?_) (fun r' m' e' => ?_)
      · have hX7995 := hX7555.trans (bL_l e7989)
        exact tJ211_104 (f := f) (by omega) hR7994 (fun r' m' e' => Hr r' m' (hX7995.trans e'))
      · exact Hr r' m' (hX7555.trans (bL_r e'))
    · exact Hr r' m' (hX7414.trans (bL_r e'))
  · have hX8001 := hX7408.trans (if_pos (Classical.not_not.mp hb7411))
    refine p_iconst 27 c211_26 rfl ?_
    exact p_ireturn c211_27 (Hr _ _ hX8001 (rgD rfl) hR7410 _)
def J211_19 (f : Nat) (m : yM) : Option (Int × yM) := (J211_20 f 0 m)
set_option maxRecDepth 100000 in
theorem tJ211_19 {L : Nat} {xs : Nat → Int32} {Q : xO → yM → Nat → Prop} {k d n : Nat} {c : yS3} {f : Nat} {m : yM} {j1 : Option Value} (hk : k ≤ f) (hR : RM c m) (Hr : ∀ r m', J211_19 f m = some (r, m') → rg r → RM c m' → ∀ n', Q (.inl (some (yI r))) m' n') : PW (gZ L xs) k 211 d 19 [some (.ref 376), j1] [.ref 376] m n Q := by
  have hX : J211_19 f m = J211_19 f m := rfl
  refine p_iconst 20 c211_19 rfl ?_
  exact tJ211_20 (f := f) (by omega) (rgD rfl) hR (fun r' m' e' => Hr r' m' (hX.trans e'))
def F211 (f : Nat) (m : yM) : Option (Int × yM) := (if m 376 19 = 0 then (J211_19 f m) else (bP (F143 f m) (fun r8007 => (if r8007 < 0 then (J211_19 f m) else (J211_20 f 1 m)))))
set_option maxRecDepth 100000 in
theorem d211 {L : Nat} {xs : Nat → Int32} {k d n : Nat} {c : yS3} {f : Nat} {m : yM} (hk : k ≤ f) (hR : RM c m) : PC (gZ L xs) k d 211 [.ref 376] m n (qS c (F211 f m)) := by
  have hX : F211 f m = F211 f m := rfl
  have Hr : ∀ r m', F211 f m = some (r, m') → rg r → RM c m' → ∀ n' : Nat, (qS c (F211 f m)) (.inl (some (yI r))) m' n' := fun r m' e h1 h2 n' => ⟨r, rfl, h1, h2, e⟩
  refine PC.mk [some (.ref 376), none] kn211 rfl ?_
  refine p_aload 1 c211_0 rfl rfl ?_
  refine p_aload 2 c211_1 rfl rfl ?_
  refine p_getX 5 (m 376 19) c211_2 rfl kf376_19 rfl ?_
  refine p_if 19 8 c211_5 rfl rfl (yz_eq (hR.rg _ _)) (fun hb7399 k7400 hk7400 => ?_) (fun hb7399 k7401 hk7401 => ?_)
  · have hX7402 := hX.trans (if_pos hb7399)
    exact tJ211_19 (f := f) (by omega) hR (fun r' m' e' => Hr r' m' (hX7402.trans e'))
  · have hX8002 := hX.trans (if_neg hb7399)
    refine p_aload 9 c211_8 rfl rfl ?_
    refine p_cO 12 [.ref 376] [.ref 376] c211_9 rfl rfl rfl (fun k' hk' d' => d143 (f := f) (by omega) hR) (fun r8007 hF8005 hg8006 n8004 k8003 hk8003 => ?_)
    have hX8008 := hX8002.trans (bP_s hF8005)
    refine p_if 19 15 c211_12 rfl rfl (yz_lt hg8006) (fun hb8009 k8010 hk8010 => ?_) (fun hb8009 k8011 hk8011 => ?_)
    · have hX8012 := hX8008.trans (if_pos hb8009)
      exact tJ211_19 (f := f) (by omega) hR (fun r' m' e' => Hr r' m' (hX8012.trans e'))
    · have hX8013 := hX8008.trans (if_neg hb8009)
      refine p_iconst 16 c211_15 rfl ?_
      refine p_goto 20 c211_16 rfl ?_
      exact tJ211_20 (f := f) (by omega) (rgD rfl) hR (fun r' m' e' => Hr r' m' (hX8013.trans e'))
def J212_16 (f : Nat) (m : yM) : Option ((Int ⊕ Nat) × yM) := (some (.inr 11, m))
set_option maxRecDepth 100000 in
theorem tJ212_16 {L : Nat} {xs : Nat → Int32} {Q : xO → yM → Nat → Prop} {k d n : Nat} {c : yS3} {f : Nat} {m : yM} {j0 j1 j2 : Option Value} (hk : k ≤ f) (hR : RM c m) (Hr : ∀ r m', J212_16 f m = some (.inl r, m') → rg r → RM c m' → ∀ n', Q (.inl (some (yI r))) m' n') (Ht : ∀ e m', J212_16 f m = some (.inr e, m') → (fun e => e = 11) e → RM c m' → ∀ x n', Q (.inr (e, x)) m' n') : PW (gZ L xs) k 212 d 16 [j0, j1, j2] [] m n Q := by
  have hX : J212_16 f m = J212_16 f m := rfl
  exact p_throw c212_16 (fun x n' => Ht _ _ hX rfl hR x n')
def F212 (f : Nat) (x1 : Int) (x2 : Int) (m : yM) : Option ((Int ⊕ Nat) × yM) := (if F156 x1 m = 0 then (J212_16 f m) else (if F157 x2 m = 0 then (J212_16 f m) else (if 0 ≤ x1 ∧ x1 < ((48 : Nat) : Int) then (some (.inl (m (171 + (x1).toNat) x2.toNat), m)) else none)))
set_option maxRecDepth 100000 in
theorem d212 {L : Nat} {xs : Nat → Int32} {k d n : Nat} {c : yS3} {f : Nat} {x1 : Int} {x2 : Int} {m : yM} (hk : k ≤ f) (gx1 : rg x1) (gx2 : rg x2) (hR : RM c m) : PC (gZ L xs) k d 212 [.ref 0, yI x1, yI x2] m n (qEI (fun e => e = 11) c (F212 f x1 x2 m)) := by
  have hX : F212 f x1 x2 m = F212 f x1 x2 m := rfl
  have Hr : ∀ r m', F212 f x1 x2 m = some (.inl r, m') → rg r → RM c m' → ∀ n' : Nat, (qEI (fun e => e = 11) c (F212 f x1 x2 m)) (.inl (some (yI r))) m' n' := fun r m' e h1 h2 n' => Or.inl ⟨r, rfl, h1, h2, e⟩
  have Ht : ∀ e m', F212 f x1 x2 m = some (.inr e, m') → (fun e => e = 11) e → RM c m' → ∀ x n' : Nat, (qEI (fun e => e = 11) c (F212 f x1 x2 m)) (.inr (e, x)) m' n' := fun e m' e1 h1 h2 x n' => Or.inr ⟨e, x, rfl, h1, h2, e1⟩
  refine PC.mk [some (.ref 0), some (yI x1), some (yI x2)] kn212 rfl ?_
  refine p_aload 1 c212_0 rfl rfl ?_
  refine p_iload 2 c212_1 rfl rfl ?_
  refine p_cX 5 [.ref 0, yI x1] [] c212_2 rfl rfl rfl (fun k' hk' d' => d156 gx1 hR) (fun hg8031 n8030 k8029 hk8029 => ?_)
  refine p_if 16 8 c212_5 rfl rfl (yz_eq hg8031) (fun hb8032 k8033 hk8033 => ?_) (fun hb8032 k8034 hk8034 => ?_)
  · have hX8035 := hX.trans (if_pos hb8032)
    exact tJ212_16 (f := f) (by omega) hR (fun r' m' e' => Hr r' m' (hX8035.trans e')) (fun r' m' e' => Ht r' m' (hX8035.trans e'))
  · have hX8036 := hX.trans (if_neg hb8032)
    refine p_aload 9 c212_8 rfl rfl ?_
    refine p_iload 10 c212_9 rfl rfl ?_
    refine p_cX 13 [.ref 0, yI x2] [] c212_10 rfl rfl rfl (fun k' hk' d' => d157 gx2 hR) (fun hg8039 n8038 k8037 hk8037 => ?_)
    refine p_if 24 16 c212_13 rfl rfl (yz_ne hg8039) (fun hb8040 k8041 hk8041 => ?_) (fun hb8040 k8042 hk8042 => ?_)
    · have hX8043 := hX8036.trans (if_neg hb8040)
      refine p_aload 25 c212_24 rfl rfl ?_
      refine p_getR 28 c212_25 rfl kf0_3 ?_
      refine p_getR 31 c212_28 rfl kf169_0 ?_
      refine p_iload 32 c212_31 rfl rfl ?_
      refine p_aaX 33 c212_32 rfl kr170 gx1 (fun hx8044 => ?_)
      have hX8045 := hX8043.trans (if_pos hx8044)
      refine p_iload 34 c212_33 rfl rfl ?_
      refine p_iaX 35 (m (171 + (x1).toNat) x2.toNat) c212_34 rfl (kR170 hx8044) gx2 rfl (fun hx8046 => ?_)
      exact p_ireturn c212_35 (Hr _ _ hX8045 (hR.rg _ _) hR _)
    · have hX8047 := hX8036.trans (if_pos (Classical.not_not.mp hb8040))
      exact tJ212_16 (f := f) (by omega) hR (fun r' m' e' => Hr r' m' (hX8047.trans e')) (fun r' m' e' => Ht r' m' (hX8047.trans e'))
def F213 (f : Nat) (x1 : Int) (x2 : Int) (m : yM) : Option (Int × yM) := (bT (F212 f x1 x2 m) (fun r8050 m8052 => (some (0, yup m8052 413 0 ((i2l r8050).toInt)))) (fun e' m8052 => (if e' = 11 then (some (1, m8052)) else none)))
set_option maxRecDepth 100000 in
theorem d213 {L : Nat} {xs : Nat → Int32} {k d n : Nat} {c : yS3} {f : Nat} {x1 : Int} {x2 : Int} {m : yM} (hk : k ≤ f) (gx1 : rg x1) (gx2 : rg x2) (hR : RM c m) : PC (gZ L xs) k d 213 [.ref 0, yI x1, yI x2, .ref 413] m n (qS c (F213 f x1 x2 m)) := by
  have hX : F213 f x1 x2 m = F213 f x1 x2 m := rfl
  have Hr : ∀ r m', F213 f x1 x2 m = some (r, m') → rg r → RM c m' → ∀ n' : Nat, (qS c (F213 f x1 x2 m)) (.inl (some (yI r))) m' n' := fun r m' e h1 h2 n' => ⟨r, rfl, h1, h2, e⟩
  refine PC.mk [some (.ref 0), some (yI x1), some (yI x2), some (.ref 413), none] kn213 rfl ?_
  refine p_aload 1 c213_0 rfl rfl ?_
  refine p_iconst 2 c213_1 rfl ?_
  refine p_aload 3 c213_2 rfl rfl ?_
  refine p_iload 4 c213_3 rfl rfl ?_
  refine p_iload 5 c213_4 rfl rfl ?_
  refine p_cTI 8 [.ref 0, yI x1, yI x2] [yI 0, .ref 413] c213_5 rfl rfl rfl (fun k' hk' d' => d212 (f := f) (by omega) gx1 gx2 hR) (fun r8050 m8052 hF8048 hg8049 hR8053 n8028 k8027 hk8027 => ?_) (fun e' q8057 m8052 n' hF8048 hE8055 hR8056 => ?_)
  · have hX8051 := hX.trans (bT_l hF8048)
    refine p_i2l 9 c213_8 rfl ?_
    refine p_laS 10 c213_9 rfl kl413 (rgD rfl) (fun hx8058 => ?_)
    have hR8059 := hR8053.up 413 0 (v := (i2l r8050).toInt) (nselD rfl) (rg_i2l _)
    refine p_goto 17 c213_10 rfl ?_
    refine p_iconst 18 c213_17 rfl ?_
    exact p_ireturn c213_18 (Hr _ _ hX8051 (rgD rfl) hR8059 _)
  · have hXe := hX.trans (bT_r hF8048)
    cases (show e' = 11 from hE8055)
    have hX8060 := hXe.trans (if_pos rfl)
    refine ⟨fun pq hpq k8061 hk8061 => ?_, fun hno => absurd (r_kh213_5_11.symm.trans hno) (by simp)⟩
    have hpp : pq = 13 := by have := r_kh213_5_11.symm.trans hpq; simpa using this.symm
    subst hpp
    refine p_astore 15 c213_13 rfl rfl ?_
    refine p_iconst 16 c213_15 rfl ?_
    exact p_ireturn c213_16 (Hr _ _ hX8060 (rgD rfl) hR8056 _)
def J214_22 (f : Nat) (x1 : Int) (x2 : Int) (xs1 : Int) (m : yM) : Option (Int × yM) := (bI (F162 f xs1 m) (fun r8083 m8085 => (if r8083 = 0 then (some (0, m8085)) else (if m8085 408 (wr ((wr (12 * x1)) + x2)).toNat = 0 then (some (0, m8085)) else (some (1, m8085))))))
set_option maxRecDepth 100000 in
theorem tJ214_22 {L : Nat} {xs : Nat → Int32} {Q : xO → yM → Nat → Prop} {k d n : Nat} {c : yS3} {f : Nat} {x1 : Int} {x2 : Int} {xs1 : Int} {m : yM} (hk : k ≤ f) (gx1 : rg x1) (gx2 : rg x2) (gxs1 : rg xs1) (hR : RM c m) (Hr : ∀ r m', J214_22 f x1 x2 xs1 m = some (r, m') → rg r → RM c m' → ∀ n', Q (.inl (some (yI r))) m' n') : PW (gZ L xs) k 214 d 22 [some (.ref 376), some (yI x1), some (yI x2)] [yI xs1, .ref 376] m n Q := by
  have hX : J214_22 f x1 x2 xs1 m = J214_22 f x1 x2 xs1 m := rfl
  refine p_cS 25 [.ref 376, yI xs1] [] c214_22 rfl rfl rfl (fun k' hk' d' => d162 (f := f) (by omega) gxs1 hR) (fun r8083 m8085 hF8081 hg8082 hR8086 n8080 k8079 hk8079 => ?_)
  have hX8084 := hX.trans (bI_s hF8081)
  refine p_if 46 28 c214_25 rfl rfl (yz_eq hg8082) (fun hb8087 k8088 hk8088 => ?_) (fun hb8087 k8089 hk8089 => ?_)
  · have hX8090 := hX8084.trans (if_pos hb8087)
    refine p_iconst 47 c214_46 rfl ?_
    exact p_ireturn c214_47 (Hr _ _ hX8090 (rgD rfl) hR8086 _)
  · have hX8091 := hX8084.trans (if_neg hb8087)
    refine p_aload 29 c214_28 rfl rfl ?_
    refine p_getR 32 c214_29 rfl kf376_48 ?_
    refine p_iconst 34 c214_32 rfl ?_
    refine p_iload 35 c214_34 rfl rfl ?_
    refine p_imul 36 c214_35 rfl ?_
    refine p_iload 37 c214_36 rfl rfl ?_
    refine p_iadd 38 c214_37 rfl ?_
    refine p_iaX 39 (m8085 408 (wr ((wr (12 * x1)) + x2)).toNat) c214_38 rfl ka408 (rg_wr _) rfl (fun hx8092 => ?_)
    refine p_if 46 42 c214_39 rfl rfl (yz_eq (hR8086.rg _ _)) (fun hb8093 k8094 hk8094 => ?_) (fun hb8093 k8095 hk8095 => ?_)
    · have hX8096 := hX8091.trans (if_pos hb8093)
      refine p_iconst 47 c214_46 rfl ?_
      exact p_ireturn c214_47 (Hr _ _ hX8096 (rgD rfl) hR8086 _)
    · have hX8097 := hX8091.trans (if_neg hb8093)
      refine p_iconst 43 c214_42 rfl ?_
      refine p_goto 47 c214_43 rfl ?_
      exact p_ireturn c214_47 (Hr _ _ hX8097 (rgD rfl) hR8086 _)
def J214_21 (f : Nat) (x1 : Int) (x2 : Int) (m : yM) : Option (Int × yM) := (J214_22 f x1 x2 0 m)
set_option maxRecDepth 100000 in
theorem tJ214_21 {L : Nat} {xs : Nat → Int32} {Q : xO → yM → Nat → Prop} {k d n : Nat} {c : yS3} {f : Nat} {x1 : Int} {x2 : Int} {m : yM} (hk : k ≤ f) (gx1 : rg x1) (gx2 : rg x2) (hR : RM c m) (Hr : ∀ r m', J214_21 f x1 x2 m = some (r, m') → rg r → RM c m' → ∀ n', Q (.inl (some (yI r))) m' n') : PW (gZ L xs) k 214 d 21 [some (.ref 376), some (yI x1), some (yI x2)] [.ref 376] m n Q := by
  have hX : J214_21 f x1 x2 m = J214_21 f x1 x2 m := rfl
  refine p_iconst 22 c214_21 rfl ?_
  exact tJ214_22 (f := f) (by omega) gx1 gx2 (rgD rfl) hR (fun r' m' e' => Hr r' m' (hX.trans e'))
def F214 (f : Nat) (x1 : Int) (x2 : Int) (m : yM) : Option (Int × yM) := (if F160 x1 m = 0 then (J214_21 f x1 x2 m) else (if F161 x2 m = 0 then (J214_21 f x1 x2 m) else (J214_22 f x1 x2 1 m)))
set_option maxRecDepth 100000 in
theorem d214 {L : Nat} {xs : Nat → Int32} {k d n : Nat} {c : yS3} {f : Nat} {x1 : Int} {x2 : Int} {m : yM} (hk : k ≤ f) (gx1 : rg x1) (gx2 : rg x2) (hR : RM c m) : PC (gZ L xs) k d 214 [.ref 376, yI x1, yI x2] m n (qS c (F214 f x1 x2 m)) := by
  have hX : F214 f x1 x2 m = F214 f x1 x2 m := rfl
  have Hr : ∀ r m', F214 f x1 x2 m = some (r, m') → rg r → RM c m' → ∀ n' : Nat, (qS c (F214 f x1 x2 m)) (.inl (some (yI r))) m' n' := fun r m' e h1 h2 n' => ⟨r, rfl, h1, h2, e⟩
  refine PC.mk [some (.ref 376), some (yI x1), some (yI x2)] kn214 rfl ?_
  refine p_aload 1 c214_0 rfl rfl ?_
  refine p_aload 2 c214_1 rfl rfl ?_
  refine p_iload 3 c214_2 rfl rfl ?_
  refine p_cX 6 [.ref 376, yI x1] [.ref 376] c214_3 rfl rfl rfl (fun k' hk' d' => d160 gx1 hR) (fun hg8074 n8073 k8072 hk8072 => ?_)
  refine p_if 21 9 c214_6 rfl rfl (yz_eq hg8074) (fun hb8075 k8076 hk8076 => ?_) (fun hb8075 k8077 hk8077 => ?_)
  · have hX8078 := hX.trans (if_pos hb8075)
    exact tJ214_21 (f := f) (by omega) gx1 gx2 hR (fun r' m' e' => Hr r' m' (hX8078.trans e'))
  · have hX8098 := hX.trans (if_neg hb8075)
    refine p_aload 10 c214_9 rfl rfl ?_
    refine p_iload 11 c214_10 rfl rfl ?_
    refine p_cX 14 [.ref 376, yI x2] [.ref 376] c214_11 rfl rfl rfl (fun k' hk' d' => d161 gx2 hR) (fun hg8101 n8100 k8099 hk8099 => ?_)
    refine p_if 21 17 c214_14 rfl rfl (yz_eq hg8101) (fun hb8102 k8103 hk8103 => ?_) (fun hb8102 k8104 hk8104 => ?_)
    · have hX8105 := hX8098.trans (if_pos hb8102)
      exact tJ214_21 (f := f) (by omega) gx1 gx2 hR (fun r' m' e' => Hr r' m' (hX8105.trans e'))
    · have hX8106 := hX8098.trans (if_neg hb8102)
      refine p_iconst 18 c214_17 rfl ?_
      refine p_goto 22 c214_18 rfl ?_
      exact tJ214_22 (f := f) (by omega) gx1 gx2 (rgD rfl) hR (fun r' m' e' => Hr r' m' (hX8106.trans e'))
def F26 (m : yM) : Int := (m 376 57)
set_option maxRecDepth 100000 in
theorem d26 {L : Nat} {xs : Nat → Int32} {k d n : Nat} {c : yS3} {m : yM} (hR : RM c m) : PC (gZ L xs) k d 26 [.ref 376] m n (qX m (F26 m)) := by
  have hX : F26 m = F26 m := rfl
  have Hr : ∀ r, F26 m = r → rg r → ∀ n' : Nat, (qX m (F26 m)) (.inl (some (yI r))) m n' := fun r e h n' => by subst e; exact ⟨rfl, h, rfl⟩
  refine PC.mk [some (.ref 376)] kn26 rfl ?_
  refine p_aload 1 c26_0 rfl rfl ?_
  refine p_getX 4 (m 376 57) c26_1 rfl kf376_57 rfl ?_
  exact p_ireturn c26_4 (Hr _ hX (hR.rg _ _) _)
def F215 (f : Nat) (x1 : Int) (m : yM) : Option ((Int ⊕ Nat) × yM) := (if x1 = 0 then (some (.inl (m (pA (m 0 4)) 9), m)) else (if x1 = 1 then (some (.inl (m (pA (m 0 4)) 10), m)) else (if x1 = 2 then (some (.inl (m (pA (m 0 4)) 11), m)) else (if x1 = 3 then (some (.inl (m (pA (m 0 4)) 12), m)) else (if x1 = 4 then (some (.inl (m (pA (m 0 4)) 13), m)) else (if x1 = 5 then (some (.inl (m (pA (m 0 4)) 14), m)) else (if x1 = 6 then (some (.inl (m (pA (m 0 4)) 15), m)) else (if x1 = 7 then (some (.inl (m 8 6), m)) else (if x1 = 8 then (some (.inl (m 169 5), m)) else (if x1 = 9 then (some (.inl (m 0 6), m)) else (some (.inr 9, m))))))))))))
set_option maxRecDepth 100000 in
theorem d215 {L : Nat} {xs : Nat → Int32} {k d n : Nat} {c : yS3} {f : Nat} {x1 : Int} {m : yM} (hk : k ≤ f) (gx1 : rg x1) (hR : RM c m) : PC (gZ L xs) k d 215 [.ref 0, yI x1] m n (qEI (fun e => e = 9) c (F215 f x1 m)) := by
  have hX : F215 f x1 m = F215 f x1 m := rfl
  have Hr : ∀ r m', F215 f x1 m = some (.inl r, m') → rg r → RM c m' → ∀ n' : Nat, (qEI (fun e => e = 9) c (F215 f x1 m)) (.inl (some (yI r))) m' n' := fun r m' e h1 h2 n' => Or.inl ⟨r, rfl, h1, h2, e⟩
  have Ht : ∀ e m', F215 f x1 m = some (.inr e, m') → (fun e => e = 9) e → RM c m' → ∀ x n' : Nat, (qEI (fun e => e = 9) c (F215 f x1 m)) (.inr (e, x)) m' n' := fun e m' e1 h1 h2 x n' => Or.inr ⟨e, x, rfl, h1, h2, e1⟩
  refine PC.mk [some (.ref 0), some (yI x1)] kn215 rfl ?_
  refine p_iload 1 c215_0 rfl rfl ?_
  by_cases hk8140 : x1 = 0
  · have hX8141 := hX.trans (if_pos hk8140)
    refine p_top 0 hk8140 ?_
    refine p_tsw 56 c215_1 (rgD rfl) (by decide) rfl rfl ?_
    refine p_aload 57 c215_56 rfl rfl ?_
    refine p_getV 60 (.ref (pA (m 0 4))) c215_57 rfl kf0_4 (pA_sv2 hR.2.1 rfl) ?_
    refine p_getX 63 (m (pA (m 0 4)) 9) c215_60 rfl (kP_9 (pA_is _)) rfl ?_
    exact p_ireturn c215_63 (Hr _ _ hX8141 (hR.rg _ _) hR _)
  have hX8142 := hX.trans (if_neg hk8140)
  by_cases hk8143 : x1 = 1
  · have hX8144 := hX8142.trans (if_pos hk8143)
    refine p_top 1 hk8143 ?_
    refine p_tsw 64 c215_1 (rgD rfl) (by decide) rfl rfl ?_
    refine p_aload 65 c215_64 rfl rfl ?_
    refine p_getV 68 (.ref (pA (m 0 4))) c215_65 rfl kf0_4 (pA_sv2 hR.2.1 rfl) ?_
    refine p_getX 71 (m (pA (m 0 4)) 10) c215_68 rfl (kP_10 (pA_is _)) rfl ?_
    exact p_ireturn c215_71 (Hr _ _ hX8144 (hR.rg _ _) hR _)
  have hX8145 := hX8142.trans (if_neg hk8143)
  by_cases hk8146 : x1 = 2
  · have hX8147 := hX8145.trans (if_pos hk8146)
    refine p_top 2 hk8146 ?_
    refine p_tsw 72 c215_1 (rgD rfl) (by decide) rfl rfl ?_
    refine p_aload 73 c215_72 rfl rfl ?_
    refine p_getV 76 (.ref (pA (m 0 4))) c215_73 rfl kf0_4 (pA_sv2 hR.2.1 rfl) ?_
    refine p_getX 79 (m (pA (m 0 4)) 11) c215_76 rfl (kP_11 (pA_is _)) rfl ?_
    exact p_ireturn c215_79 (Hr _ _ hX8147 (hR.rg _ _) hR _)
  have hX8148 := hX8145.trans (if_neg hk8146)
  by_cases hk8149 : x1 = 3
  · have hX8150 := hX8148.trans (if_pos hk8149)
    refine p_top 3 hk8149 ?_
    refine p_tsw 80 c215_1 (rgD rfl) (by decide) rfl rfl ?_
    refine p_aload 81 c215_80 rfl rfl ?_
    refine p_getV 84 (.ref (pA (m 0 4))) c215_81 rfl kf0_4 (pA_sv2 hR.2.1 rfl) ?_
    refine p_getX 87 (m (pA (m 0 4)) 12) c215_84 rfl (kP_12 (pA_is _)) rfl ?_
    exact p_ireturn c215_87 (Hr _ _ hX8150 (hR.rg _ _) hR _)
  have hX8151 := hX8148.trans (if_neg hk8149)
  by_cases hk8152 : x1 = 4
  · have hX8153 := hX8151.trans (if_pos hk8152)
    refine p_top 4 hk8152 ?_
    refine p_tsw 88 c215_1 (rgD rfl) (by decide) rfl rfl ?_
    refine p_aload 89 c215_88 rfl rfl ?_
    refine p_getV 92 (.ref (pA (m 0 4))) c215_89 rfl kf0_4 (pA_sv2 hR.2.1 rfl) ?_
    refine p_getX 95 (m (pA (m 0 4)) 13) c215_92 rfl (kP_13 (pA_is _)) rfl ?_
    exact p_ireturn c215_95 (Hr _ _ hX8153 (hR.rg _ _) hR _)
  have hX8154 := hX8151.trans (if_neg hk8152)
  by_cases hk8155 : x1 = 5
  · have hX8156 := hX8154.trans (if_pos hk8155)
    refine p_top 5 hk8155 ?_
    refine p_tsw 96 c215_1 (rgD rfl) (by decide) rfl rfl ?_
    refine p_aload 97 c215_96 rfl rfl ?_
    refine p_getV 100 (.ref (pA (m 0 4))) c215_97 rfl kf0_4 (pA_sv2 hR.2.1 rfl) ?_
    refine p_getX 103 (m (pA (m 0 4)) 14) c215_100 rfl (kP_14 (pA_is _)) rfl ?_
    exact p_ireturn c215_103 (Hr _ _ hX8156 (hR.rg _ _) hR _)
  have hX8157 := hX8154.trans (if_neg hk8155)
  by_cases hk8158 : x1 = 6
  · have hX8159 := hX8157.trans (if_pos hk8158)
    refine p_top 6 hk8158 ?_
    refine p_tsw 104 c215_1 (rgD rfl) (by decide) rfl rfl ?_
    refine p_aload 105 c215_104 rfl rfl ?_
    refine p_getV 108 (.ref (pA (m 0 4))) c215_105 rfl kf0_4 (pA_sv2 hR.2.1 rfl) ?_
    refine p_getX 111 (m (pA (m 0 4)) 15) c215_108 rfl (kP_15 (pA_is _)) rfl ?_
    exact p_ireturn c215_111 (Hr _ _ hX8159 (hR.rg _ _) hR _)
  have hX8160 := hX8157.trans (if_neg hk8158)
  by_cases hk8161 : x1 = 7
  · have hX8162 := hX8160.trans (if_pos hk8161)
    refine p_top 7 hk8161 ?_
    refine p_tsw 112 c215_1 (rgD rfl) (by decide) rfl rfl ?_
    refine p_aload 113 c215_112 rfl rfl ?_
    refine p_getR 116 c215_113 rfl kf0_2 ?_
    refine p_getX 119 (m 8 6) c215_116 rfl kf8_6 rfl ?_
    exact p_ireturn c215_119 (Hr _ _ hX8162 (hR.rg _ _) hR _)
  have hX8163 := hX8160.trans (if_neg hk8161)
  by_cases hk8164 : x1 = 8
  · have hX8165 := hX8163.trans (if_pos hk8164)
    refine p_top 8 hk8164 ?_
    refine p_tsw 120 c215_1 (rgD rfl) (by decide) rfl rfl ?_
    refine p_aload 121 c215_120 rfl rfl ?_
    refine p_getR 124 c215_121 rfl kf0_3 ?_
    refine p_getX 127 (m 169 5) c215_124 rfl kf169_5 rfl ?_
    exact p_ireturn c215_127 (Hr _ _ hX8165 (hR.rg _ _) hR _)
  have hX8166 := hX8163.trans (if_neg hk8164)
  by_cases hk8167 : x1 = 9
  · have hX8168 := hX8166.trans (if_pos hk8167)
    refine p_top 9 hk8167 ?_
    refine p_tsw 128 c215_1 (rgD rfl) (by decide) rfl rfl ?_
    refine p_aload 129 c215_128 rfl rfl ?_
    refine p_getX 132 (m 0 6) c215_129 rfl kf0_6 rfl ?_
    exact p_ireturn c215_132 (Hr _ _ hX8168 (hR.rg _ _) hR _)
  have hX8169 := hX8166.trans (if_neg hk8167)
  refine p_tswd 133 c215_1 gx1 (by omega) rfl ?_
  exact p_throw c215_133 (fun x n' => Ht _ _ hX8169 rfl hR x n')
def F216 (f : Nat) (x1 : Int) (m : yM) : Option (Int × yM) := (bT (F215 f x1 m) (fun r8172 m8174 => (some (0, yup m8174 413 0 ((i2l r8172).toInt)))) (fun e' m8174 => (if e' = 9 then (some (1, m8174)) else none)))
set_option maxRecDepth 100000 in
theorem d216 {L : Nat} {xs : Nat → Int32} {k d n : Nat} {c : yS3} {f : Nat} {x1 : Int} {m : yM} (hk : k ≤ f) (gx1 : rg x1) (hR : RM c m) : PC (gZ L xs) k d 216 [.ref 0, yI x1, .ref 413] m n (qS c (F216 f x1 m)) := by
  have hX : F216 f x1 m = F216 f x1 m := rfl
  have Hr : ∀ r m', F216 f x1 m = some (r, m') → rg r → RM c m' → ∀ n' : Nat, (qS c (F216 f x1 m)) (.inl (some (yI r))) m' n' := fun r m' e h1 h2 n' => ⟨r, rfl, h1, h2, e⟩
  refine PC.mk [some (.ref 0), some (yI x1), some (.ref 413), none] kn216 rfl ?_
  refine p_aload 1 c216_0 rfl rfl ?_
  refine p_iconst 2 c216_1 rfl ?_
  refine p_aload 3 c216_2 rfl rfl ?_
  refine p_iload 4 c216_3 rfl rfl ?_
  refine p_cTI 7 [.ref 0, yI x1] [yI 0, .ref 413] c216_4 rfl rfl rfl (fun k' hk' d' => d215 (f := f) (by omega) gx1 hR) (fun r8172 m8174 hF8170 hg8171 hR8175 n8139 k8138 hk8138 => ?_) (fun e' q8179 m8174 n' hF8170 hE8177 hR8178 => ?_)
  · have hX8173 := hX.trans (bT_l hF8170)
    refine p_i2l 8 c216_7 rfl ?_
    refine p_laS 9 c216_8 rfl kl413 (rgD rfl) (fun hx8180 => ?_)
    have hR8181 := hR8175.up 413 0 (v := (i2l r8172).toInt) (nselD rfl) (rg_i2l _)
    refine p_goto 15 c216_9 rfl ?_
    refine p_iconst 16 c216_15 rfl ?_
    exact p_ireturn c216_16 (Hr _ _ hX8173 (rgD rfl) hR8181 _)
  · have hXe := hX.trans (bT_r hF8170)
    cases (show e' = 9 from hE8177)
    have hX8182 := hXe.trans (if_pos rfl)
    refine ⟨fun pq hpq k8183 hk8183 => ?_, fun hno => absurd (r_kh216_4_9.symm.trans hno) (by simp)⟩
    have hpp : pq = 12 := by have := r_kh216_4_9.symm.trans hpq; simpa using this.symm
    subst hpp
    refine p_astore 13 c216_12 rfl rfl ?_
    refine p_iconst 14 c216_13 rfl ?_
    exact p_ireturn c216_14 (Hr _ _ hX8182 (rgD rfl) hR8178 _)
def F217 (f : Nat) (x1 : Int) (m : yM) : Option (Int × yM) := (bI (F23 f (F22 x1 0 9) 1 m) (fun r8200 m8202 => (if r8200 = 0 then (some (0, m8202)) else (if x1 = 9 then (some (m8202 376 1, m8202)) else (if m8202 376 19 = 0 then (some (0, m8202)) else (if x1 < 4 then (if x1 = 0 then (some (m8202 383 (m8202 376 18).toNat, m8202)) else (if x1 = 1 then (some (m8202 384 (m8202 376 18).toNat, m8202)) else (if x1 = 2 then (some (m8202 385 (m8202 376 18).toNat, m8202)) else (some (m8202 386 (m8202 376 18).toNat, m8202))))) else (if x1 = 4 then (some (m8202 387 (m8202 376 18).toNat, m8202)) else (if x1 = 5 then (some (m8202 388 (m8202 376 18).toNat, m8202)) else (if x1 = 6 then (some (m8202 389 (m8202 376 18).toNat, m8202)) else (if x1 = 7 then (some (m8202 376 47, m8202)) else (some (m8202 376 51, m8202))))))))))))
set_option maxRecDepth 100000 in
theorem d217 {L : Nat} {xs : Nat → Int32} {k d n : Nat} {c : yS3} {f : Nat} {x1 : Int} {m : yM} (hk : k ≤ f) (gx1 : rg x1) (hR : RM c m) : PC (gZ L xs) k d 217 [.ref 376, yI x1] m n (qS c (F217 f x1 m)) := by
  have hX : F217 f x1 m = F217 f x1 m := rfl
  have Hr : ∀ r m', F217 f x1 m = some (r, m') → rg r → RM c m' → ∀ n' : Nat, (qS c (F217 f x1 m)) (.inl (some (yI r))) m' n' := fun r m' e h1 h2 n' => ⟨r, rfl, h1, h2, e⟩
  refine PC.mk [some (.ref 376), some (yI x1)] kn217 rfl ?_
  refine p_aload 1 c217_0 rfl rfl ?_
  refine p_iload 2 c217_1 rfl rfl ?_
  refine p_iconst 3 c217_2 rfl ?_
  refine p_iconst 5 c217_3 rfl ?_
  refine p_cX 8 [yI x1, yI 0, yI 9] [.ref 376] c217_5 rfl rfl rfl (fun k' hk' d' => d22 gx1 (rgD rfl) (rgD rfl) hR) (fun hg8195 n8194 k8193 hk8193 => ?_)
  refine p_iconst 9 c217_8 rfl ?_
  refine p_cS 12 [.ref 376, yI (F22 x1 0 9), yI 1] [] c217_9 rfl rfl rfl (fun k' hk' d' => d23 (f := f) (by omega) hg8195 (rgD rfl) hR) (fun r8200 m8202 hF8198 hg8199 hR8203 n8197 k8196 hk8196 => ?_)
  have hX8201 := hX.trans (bI_s hF8198)
  refine p_if 17 15 c217_12 rfl rfl (yz_ne hg8199) (fun hb8204 k8205 hk8205 => ?_) (fun hb8204 k8206 hk8206 => ?_)
  · have hX8207 := hX8201.trans (if_neg hb8204)
    refine p_iload 18 c217_17 rfl rfl ?_
    refine p_iconst 20 c217_18 rfl ?_
    refine p_icmp 28 23 c217_20 rfl rfl (yc_ne gx1 (rgD rfl)) (fun hb8208 k8209 hk8209 => ?_) (fun hb8208 k8210 hk8210 => ?_)
    · have hX8211 := hX8207.trans (if_neg hb8208)
      refine p_aload 29 c217_28 rfl rfl ?_
      refine p_getX 32 (m8202 376 19) c217_29 rfl kf376_19 rfl ?_
      refine p_if 37 35 c217_32 rfl rfl (yz_ne (hR8203.rg _ _)) (fun hb8212 k8213 hk8213 => ?_) (fun hb8212 k8214 hk8214 => ?_)
      · have hX8215 := hX8211.trans (if_neg hb8212)
        refine p_iload 38 c217_37 rfl rfl ?_
        refine p_iconst 39 c217_38 rfl ?_
        refine p_icmp 102 42 c217_39 rfl rfl ((yc_ge gx1 (rgD rfl)).trans Int.not_lt.symm) (fun hb8216 k8217 hk8217 => ?_) (fun hb8216 k8218 hk8218 => ?_)
        · have hX8219 := hX8215.trans (if_neg hb8216)
          refine p_iload 103 c217_102 rfl rfl ?_
          refine p_iconst 104 c217_103 rfl ?_
          refine p_icmp 119 107 c217_104 rfl rfl (yc_ne gx1 (rgD rfl)) (fun hb8220 k8221 hk8221 => ?_) (fun hb8220 k8222 hk8222 => ?_)
          · have hX8223 := hX8219.trans (if_neg hb8220)
            refine p_iload 120 c217_119 rfl rfl ?_
            refine p_iconst 121 c217_120 rfl ?_
            refine p_icmp 136 124 c217_121 rfl rfl (yc_ne gx1 (rgD rfl)) (fun hb8224 k8225 hk8225 => ?_) (fun hb8224 k8226 hk8226 => ?_)
            · have hX8227 := hX8223.trans (if_neg hb8224)
              refine p_iload 137 c217_136 rfl rfl ?_
              refine p_iconst 139 c217_137 rfl ?_
              refine p_icmp 154 142 c217_139 rfl rfl (yc_ne gx1 (rgD rfl)) (fun hb8228 k8229 hk8229 => ?_) (fun hb8228 k8230 hk8230 => ?_)
              · have hX8231 := hX8227.trans (if_neg hb8228)
                refine p_iload 155 c217_154 rfl rfl ?_
                refine p_iconst 157 c217_155 rfl ?_
                refine p_icmp 167 160 c217_157 rfl rfl (yc_ne gx1 (rgD rfl)) (fun hb8232 k8233 hk8233 => ?_) (fun hb8232 k8234 hk8234 => ?_)
                · have hX8235 := hX8231.trans (if_neg hb8232)
                  refine p_aload 168 c217_167 rfl rfl ?_
                  refine p_getX 171 (m8202 376 51) c217_168 rfl kf376_51 rfl ?_
                  exact p_ireturn c217_171 (Hr _ _ hX8235 (hR8203.rg _ _) hR8203 _)
                · have hX8236 := hX8231.trans (if_pos (Classical.not_not.mp hb8232))
                  refine p_aload 161 c217_160 rfl rfl ?_
                  refine p_getX 164 (m8202 376 47) c217_161 rfl kf376_47 rfl ?_
                  refine p_goto 171 c217_164 rfl ?_
                  exact p_ireturn c217_171 (Hr _ _ hX8236 (hR8203.rg _ _) hR8203 _)
              · have hX8237 := hX8227.trans (if_pos (Classical.not_not.mp hb8228))
                refine p_aload 143 c217_142 rfl rfl ?_
                refine p_getR 146 c217_143 rfl kf376_26 ?_
                refine p_aload 147 c217_146 rfl rfl ?_
                refine p_getX 150 (m8202 376 18) c217_147 rfl kf376_18 rfl ?_
                refine p_iaX 151 (m8202 389 (m8202 376 18).toNat) c217_150 rfl ka389 (hR8203.rg _ _) rfl (fun hx8238 => ?_)
                refine p_goto 171 c217_151 rfl ?_
                exact p_ireturn c217_171 (Hr _ _ hX8237 (hR8203.rg _ _) hR8203 _)
            · have hX8239 := hX8223.trans (if_pos (Classical.not_not.mp hb8224))
              refine p_aload 125 c217_124 rfl rfl ?_
              refine p_getR 128 c217_125 rfl kf376_25 ?_
              refine p_aload 129 c217_128 rfl rfl ?_
              refine p_getX 132 (m8202 376 18) c217_129 rfl kf376_18 rfl ?_
              refine p_iaX 133 (m8202 388 (m8202 376 18).toNat) c217_132 rfl ka388 (hR8203.rg _ _) rfl (fun hx8240 => ?_)
              refine p_goto 171 c217_133 rfl ?_
              exact p_ireturn c217_171 (Hr _ _ hX8239 (hR8203.rg _ _) hR8203 _)
          · have hX8241 := hX8219.trans (if_pos (Classical.not_not.mp hb8220))
            refine p_aload 108 c217_107 rfl rfl ?_
            refine p_getR 111 c217_108 rfl kf376_24 ?_
            refine p_aload 112 c217_111 rfl rfl ?_
            refine p_getX 115 (m8202 376 18) c217_112 rfl kf376_18 rfl ?_
            refine p_iaX 116 (m8202 387 (m8202 376 18).toNat) c217_115 rfl ka387 (hR8203.rg _ _) rfl (fun hx8242 => ?_)
            refine p_goto 171 c217_116 rfl ?_
            exact p_ireturn c217_171 (Hr _ _ hX8241 (hR8203.rg _ _) hR8203 _)
        · have hX8243 := hX8215.trans (if_pos (Classical.not_not.mp hb8216))
          refine p_iload 43 c217_42 rfl rfl ?_
          refine p_if 58 46 c217_43 rfl rfl (yz_ne gx1) (fun hb8244 k8245 hk8245 => ?_) (fun hb8244 k8246 hk8246 => ?_)
          · have hX8247 := hX8243.trans (if_neg hb8244)
            refine p_iload 59 c217_58 rfl rfl ?_
            refine p_iconst 60 c217_59 rfl ?_
            refine p_icmp 75 63 c217_60 rfl rfl (yc_ne gx1 (rgD rfl)) (fun hb8248 k8249 hk8249 => ?_) (fun hb8248 k8250 hk8250 => ?_)
            · have hX8251 := hX8247.trans (if_neg hb8248)
              refine p_iload 76 c217_75 rfl rfl ?_
              refine p_iconst 77 c217_76 rfl ?_
              refine p_icmp 92 80 c217_77 rfl rfl (yc_ne gx1 (rgD rfl)) (fun hb8252 k8253 hk8253 => ?_) (fun hb8252 k8254 hk8254 => ?_)
              · have hX8255 := hX8251.trans (if_neg hb8252)
                refine p_aload 93 c217_92 rfl rfl ?_
                refine p_getR 96 c217_93 rfl kf376_23 ?_
                refine p_aload 97 c217_96 rfl rfl ?_
                refine p_getX 100 (m8202 376 18) c217_97 rfl kf376_18 rfl ?_
                refine p_iaX 101 (m8202 386 (m8202 376 18).toNat) c217_100 rfl ka386 (hR8203.rg _ _) rfl (fun hx8256 => ?_)
                exact p_ireturn c217_101 (Hr _ _ hX8255 (hR8203.rg _ _) hR8203 _)
              · have hX8257 := hX8251.trans (if_pos (Classical.not_not.mp hb8252))
                refine p_aload 81 c217_80 rfl rfl ?_
                refine p_getR 84 c217_81 rfl kf376_22 ?_
                refine p_aload 85 c217_84 rfl rfl ?_
                refine p_getX 88 (m8202 376 18) c217_85 rfl kf376_18 rfl ?_
                refine p_iaX 89 (m8202 385 (m8202 376 18).toNat) c217_88 rfl ka385 (hR8203.rg _ _) rfl (fun hx8258 => ?_)
                refine p_goto 101 c217_89 rfl ?_
                exact p_ireturn c217_101 (Hr _ _ hX8257 (hR8203.rg _ _) hR8203 _)
            · have hX8259 := hX8247.trans (if_pos (Classical.not_not.mp hb8248))
              refine p_aload 64 c217_63 rfl rfl ?_
              refine p_getR 67 c217_64 rfl kf376_21 ?_
              refine p_aload 68 c217_67 rfl rfl ?_
              refine p_getX 71 (m8202 376 18) c217_68 rfl kf376_18 rfl ?_
              refine p_iaX 72 (m8202 384 (m8202 376 18).toNat) c217_71 rfl ka384 (hR8203.rg _ _) rfl (fun hx8260 => ?_)
              refine p_goto 101 c217_72 rfl ?_
              exact p_ireturn c217_101 (Hr _ _ hX8259 (hR8203.rg _ _) hR8203 _)
          · have hX8261 := hX8243.trans (if_pos (Classical.not_not.mp hb8244))
            refine p_aload 47 c217_46 rfl rfl ?_
            refine p_getR 50 c217_47 rfl kf376_20 ?_
            refine p_aload 51 c217_50 rfl rfl ?_
            refine p_getX 54 (m8202 376 18) c217_51 rfl kf376_18 rfl ?_
            refine p_iaX 55 (m8202 383 (m8202 376 18).toNat) c217_54 rfl ka383 (hR8203.rg _ _) rfl (fun hx8262 => ?_)
            refine p_goto 101 c217_55 rfl ?_
            exact p_ireturn c217_101 (Hr _ _ hX8261 (hR8203.rg _ _) hR8203 _)
      · have hX8263 := hX8211.trans (if_pos (Classical.not_not.mp hb8212))
        refine p_iconst 36 c217_35 rfl ?_
        exact p_ireturn c217_36 (Hr _ _ hX8263 (rgD rfl) hR8203 _)
    · have hX8264 := hX8207.trans (if_pos (Classical.not_not.mp hb8208))
      refine p_aload 24 c217_23 rfl rfl ?_
      refine p_getX 27 (m8202 376 1) c217_24 rfl kf376_1 rfl ?_
      exact p_ireturn c217_27 (Hr _ _ hX8264 (hR8203.rg _ _) hR8203 _)
  · have hX8265 := hX8201.trans (if_pos (Classical.not_not.mp hb8204))
    refine p_iconst 16 c217_15 rfl ?_
    exact p_ireturn c217_16 (Hr _ _ hX8265 (rgD rfl) hR8203 _)
def J218_t0_617 (f : Nat) (L : Nat) (xs : Nat → Int32) (x4 : Int) (m : yM) : Option ((Int × yM) ⊕ ((Int × yM) ⊕ (Int × yM))) := (some (.inl ((wr (x4 + 4)), m)))
set_option maxRecDepth 100000 in
theorem tJ218_t0_617 {L : Nat} {xs : Nat → Int32} {Q : xO → yM → Nat → Prop} {k d n : Nat} {c : yS3} {f : Nat} {x4 : Int} {m : yM} {j5 j6 : Option Value} (hk : k ≤ f) (hL : zLn (gZ L xs) ≤ 100000) (hLr : rg (L : Int)) (gx4 : rg x4) (hR : RM c m) (Hn : ∀ (y0 : Int) (z0 z1 : Option Value) (m' : yM) (n' : Nat), J218_t0_617 f L xs x4 m = some (.inl (y0, m')) → rg y0 → (∃ c, RM c m') → ∀ k', k' < k → PW (gZ L xs) k' 218 d 23 [some (.retAddr 0), some (.ref 0), some (.ref 376), some (.ref 413), some (yI y0), z0, z1] [] m' n' Q) (He : ∀ (y0 : Int) (z0 z1 : Option Value) (m' : yM) (n' : Nat), J218_t0_617 f L xs x4 m = some (.inr (.inl (y0, m'))) → rg y0 → (∃ c, RM c m') → ∀ k', k' ≤ k → PW (gZ L xs) k' 218 d 623 [some (.retAddr 0), some (.ref 0), some (.ref 376), some (.ref 413), some (yI y0), z0, z1] [] m' n' Q) (Hr : ∀ r m', J218_t0_617 f L xs x4 m = some (.inr (.inr (r, m'))) → rg r → (∃ c, RM c m') → ∀ n', Q (.inl (some (yI r))) m' n') : PW (gZ L xs) k 218 d 617 [some (.retAddr 0), some (.ref 0), some (.ref 376), some (.ref 413), some (yI x4), j5, j6] [] m n Q := by
  have hX : J218_t0_617 f L xs x4 m = J218_t0_617 f L xs x4 m := rfl
  refine p_iinc 620 r_c218_617 rfl rfl rfl ?_
  refine p_gotoD 23 r_c218_620 rfl (fun k222 hk222 => ?_)
  exact Hn _ _ _ _ _ hX (rg_wr _) ⟨_, hR⟩ _ (by omega)
def J218_t0_586 (f : Nat) (L : Nat) (xs : Nat → Int32) (x4 : Int) (m : yM) : Option ((Int × yM) ⊕ ((Int × yM) ⊕ (Int × yM))) := (J218_t0_617 f L xs x4 m)
set_option maxRecDepth 100000 in
theorem tJ218_t0_586 {L : Nat} {xs : Nat → Int32} {Q : xO → yM → Nat → Prop} {k d n : Nat} {c : yS3} {f : Nat} {x4 : Int} {m : yM} {j5 j6 : Option Value} (hk : k ≤ f) (hL : zLn (gZ L xs) ≤ 100000) (hLr : rg (L : Int)) (gx4 : rg x4) (hR : RM c m) (Hn : ∀ (y0 : Int) (z0 z1 : Option Value) (m' : yM) (n' : Nat), J218_t0_586 f L xs x4 m = some (.inl (y0, m')) → rg y0 → (∃ c, RM c m') → ∀ k', k' < k → PW (gZ L xs) k' 218 d 23 [some (.retAddr 0), some (.ref 0), some (.ref 376), some (.ref 413), some (yI y0), z0, z1] [] m' n' Q) (He : ∀ (y0 : Int) (z0 z1 : Option Value) (m' : yM) (n' : Nat), J218_t0_586 f L xs x4 m = some (.inr (.inl (y0, m'))) → rg y0 → (∃ c, RM c m') → ∀ k', k' ≤ k → PW (gZ L xs) k' 218 d 623 [some (.retAddr 0), some (.ref 0), some (.ref 376), some (.ref 413), some (yI y0), z0, z1] [] m' n' Q) (Hr : ∀ r m', J218_t0_586 f L xs x4 m = some (.inr (.inr (r, m'))) → rg r → (∃ c, RM c m') → ∀ n', Q (.inl (some (yI r))) m' n') : PW (gZ L xs) k 218 d 586 [some (.retAddr 0), some (.ref 0), some (.ref 376), some (.ref 413), some (yI x4), j5, j6] [] m n Q := by
  have hX : J218_t0_586 f L xs x4 m = J218_t0_586 f L xs x4 m := rfl
  refine p_goto 617 r_c218_586 rfl ?_
  exact tJ218_t0_617 (f := f) (by omega) hL hLr gx4 hR (fun y0 y1 y2 m' n' e' h0 hR' k' hk' => Hn y0 y1 y2 m' n' (hX.trans e') h0 hR' k' (by omega)) (fun y0 y1 y2 m' n' e' h0 hR' k' hk' => He y0 y1 y2 m' n' (hX.trans e') h0 hR' k' (by omega)) (fun r' m' e' => Hr r' m' (hX.trans e'))
def B218_t0_23 (f : Nat) (L : Nat) (xs : Nat → Int32) (x4 : Int) (m : yM) : Option ((Int × yM) ⊕ ((Int × yM) ⊕ (Int × yM))) := (if wr (((L : Int)) - 4) < x4 then (some (.inr (.inl (x4, m)))) else (if iAnd ((xs (x4).toNat).toInt) 15 = 0 then (bI (F21 f ((lShl (i2l ((xs (wr (x4 + 1)).toNat).toInt)) 32) ||| ((i2l ((xs (wr (x4 + 2)).toNat).toInt)) &&& (Int64.ofInt 4294967295))) ((xs (wr (x4 + 3)).toNat).toInt) m) (fun r107 m109 => (bI (F25 f ((lShl (i2l ((xs (wr (x4 + 1)).toNat).toInt)) 32) ||| ((i2l ((xs (wr (x4 + 2)).toNat).toInt)) &&& (Int64.ofInt 4294967295))) ((xs (wr (x4 + 3)).toNat).toInt) m109) (fun r218 m220 => (J218_t0_617 f L xs x4 m220))))) else (if iAnd ((xs (x4).toNat).toInt) 15 = 1 then (bI (F28 f ((xs (wr (x4 + 1)).toNat).toInt) m) (fun r258 m260 => (bI (F29 f ((xs (wr (x4 + 1)).toNat).toInt) m260) (fun r284 m286 => (J218_t0_617 f L xs x4 m286))))) else (if iAnd ((xs (x4).toNat).toInt) 15 = 2 then (bI (F95 f m) (fun r2874 m2876 => (bI (F152 f m2876) (fun r5884 m5886 => (J218_t0_617 f L xs x4 m5886))))) else (if iAnd ((xs (x4).toNat).toInt) 15 = 3 then (bI (F154 f m) (fun r5899 m5901 => (J218_t0_617 f L xs x4 m5901))) else (if iAnd ((xs (x4).toNat).toInt) 15 = 4 then (bI (F159 f ((xs (wr (x4 + 1)).toNat).toInt) ((xs (wr (x4 + 2)).toNat).toInt) m) (fun r5963 m5965 => (bI (F163 f ((xs (wr (x4 + 1)).toNat).toInt) ((xs (wr (x4 + 2)).toNat).toInt) m5965) (fun r6049 m6051 => (J218_t0_617 f L xs x4 m6051))))) else (if iAnd ((xs (x4).toNat).toInt) 15 = 5 then (bI (F165 f ((xs (wr (x4 + 1)).toNat).toInt) ((xs (wr (x4 + 2)).toNat).toInt) ((xs (wr (x4 + 3)).toNat).toInt) m) (fun r6108 m6110 => (bI (F166 f ((xs (wr (x4 + 1)).toNat).toInt) ((xs (wr (x4 + 2)).toNat).toInt) ((xs (wr (x4 + 3)).toNat).toInt) m6110) (fun r6158 m6160 => (J218_t0_617 f L xs x4 m6160))))) else (if iAnd ((xs (x4).toNat).toInt) 15 = 6 then (bI (F169 f ((xs (wr (x4 + 1)).toNat).toInt) ((xs (wr (x4 + 2)).toNat).toInt) m) (fun r6209 m6211 => (bI (F171 f ((xs (wr (x4 + 1)).toNat).toInt) ((xs (wr (x4 + 2)).toNat).toInt) m6211) (fun r6264 m6266 => (J218_t0_617 f L xs x4 m6266))))) else (if iAnd ((xs (x4).toNat).toInt) 15 = 7 then (bI (F173 f ((xs (wr (x4 + 1)).toNat).toInt) m) (fun r6301 m6303 => (bI (F174 f ((xs (wr (x4 + 1)).toNat).toInt) m6303) (fun r6327 m6329 => (J218_t0_617 f L xs x4 m6329))))) else (if iAnd ((xs (x4).toNat).toInt) 15 = 8 then (bI (F177 f ((xs (wr (x4 + 1)).toNat).toInt) m) (fun r6410 m6412 => (bI (F178 f ((xs (wr (x4 + 1)).toNat).toInt) m6412) (fun r6472 m6474 => (J218_t0_617 f L xs x4 m6474))))) else (if iAnd ((xs (x4).toNat).toInt) 15 = 9 then (bI (F181 f ((xs (wr (x4 + 1)).toNat).toInt) ((xs (wr (x4 + 2)).toNat).toInt) m) (fun r6557 m6559 => (bI (F182 f ((xs (wr (x4 + 1)).toNat).toInt) ((xs (wr (x4 + 2)).toNat).toInt) m6559) (fun r6624 m6626 => (J218_t0_617 f L xs x4 m6626))))) else (if iAnd ((xs (x4).toNat).toInt) 15 = 10 then (bI (F184 f ((xs (wr (x4 + 1)).toNat).toInt) ((xs (wr (x4 + 2)).toNat).toInt) m) (fun r6689 m6691 => (bI (F185 f ((xs (wr (x4 + 1)).toNat).toInt) ((xs (wr (x4 + 2)).toNat).toInt) m6691) (fun r6744 m6746 => (J218_t0_617 f L xs x4 m6746))))) else (if iAnd ((xs (x4).toNat).toInt) 15 = 11 then (bI (F200 f m) (fun r7392 m7394 => (bI (F211 f m7394) (fun r8016 m8018 => (J218_t0_617 f L xs x4 m8018))))) else (if iAnd ((xs (x4).toNat).toInt) 15 = 12 then (bI (F213 f ((xs (wr (x4 + 1)).toNat).toInt) ((xs (wr (x4 + 2)).toNat).toInt) m) (fun r8064 m8066 => (bI (F214 f ((xs (wr (x4 + 1)).toNat).toInt) ((xs (wr (x4 + 2)).toNat).toInt) m8066) (fun r8109 m8111 => (if F26 m8111 = r8064 then (if r8064 = 0 then (if lcm (Int64.ofInt (m8111 413 0)) (i2l r8109) = 0 then (J218_t0_586 f L xs x4 m8111) else (some (.inr (.inr (0, m8111))))) else (J218_t0_586 f L xs x4 m8111)) else (some (.inr (.inr (0, m8111))))))))) else (if iAnd ((xs (x4).toNat).toInt) 15 = 13 then (bI (F216 f ((xs (wr (x4 + 1)).toNat).toInt) m) (fun r8186 m8188 => (bI (F217 f ((xs (wr (x4 + 1)).toNat).toInt) m8188) (fun r8268 m8270 => (J218_t0_617 f L xs x4 m8270))))) else (J218_t0_617 f L xs x4 m))))))))))))))))
set_option maxRecDepth 100000 in
theorem tB218_t0_23 {L : Nat} {xs : Nat → Int32} {Q : xO → yM → Nat → Prop} {k d n : Nat} {c : yS3} {f : Nat} {x4 : Int} {m : yM} {j5 j6 : Option Value} (hk : k ≤ f) (hL : zLn (gZ L xs) ≤ 100000) (hLr : rg (L : Int)) (gx4 : rg x4) (hR : RM c m) (Hn : ∀ (y0 : Int) (z0 z1 : Option Value) (m' : yM) (n' : Nat), B218_t0_23 f L xs x4 m = some (.inl (y0, m')) → rg y0 → (∃ c, RM c m') → ∀ k', k' < k → PW (gZ L xs) k' 218 d 23 [some (.retAddr 0), some (.ref 0), some (.ref 376), some (.ref 413), some (yI y0), z0, z1] [] m' n' Q) (He : ∀ (y0 : Int) (z0 z1 : Option Value) (m' : yM) (n' : Nat), B218_t0_23 f L xs x4 m = some (.inr (.inl (y0, m'))) → rg y0 → (∃ c, RM c m') → ∀ k', k' ≤ k → PW (gZ L xs) k' 218 d 623 [some (.retAddr 0), some (.ref 0), some (.ref 376), some (.ref 413), some (yI y0), z0, z1] [] m' n' Q) (Hr : ∀ r m', B218_t0_23 f L xs x4 m = some (.inr (.inr (r, m'))) → rg r → (∃ c, RM c m') → ∀ n', Q (.inl (some (yI r))) m' n') : PW (gZ L xs) k 218 d 23 [some (.retAddr 0), some (.ref 0), some (.ref 376), some (.ref 413), some (yI x4), j5, j6] [] m n Q := by
  have hX : B218_t0_23 f L xs x4 m = B218_t0_23 f L xs x4 m := rfl
  refine p_iload 25 r_c218_23 rfl rfl ?_
  refine p_aload 26 r_c218_25 rfl rfl ?_
  refine p_slen 27 r_c218_26 rfl ?_
  refine p_top (L : Int) rfl ?_
  refine p_iconst 28 r_c218_27 rfl ?_
  refine p_isub 29 r_c218_28 rfl ?_
  refine p_icmp 623 32 r_c218_29 rfl rfl (yc_gt gx4 (rg_wr _)) (fun hb1 k2 hk2 => ?_) (fun hb1 k3 hk3 => ?_)
  · have hX4 := hX.trans (if_pos hb1)
    exact He _ _ _ _ _ hX4 gx4 ⟨_, hR⟩ _ (by omega)
  · have hX5 := hX.trans (if_neg hb1)
    refine p_aload 33 r_c218_32 rfl rfl ?_
    refine p_iload 35 r_c218_33 rfl rfl ?_
    refine p_script 36 r_c218_35 rfl hL gx4 (fun hx6 => ?_)
    refine p_top (xs (x4).toNat).toInt rfl ?_
    refine p_iconst 38 r_c218_36 rfl ?_
    refine p_iand 39 r_c218_38 rfl ?_
    by_cases hk7 : iAnd ((xs (x4).toNat).toInt) 15 = 0
    · have hX8 := hX5.trans (if_pos hk7)
      refine p_top 0 hk7 ?_
      refine p_tsw 108 r_c218_39 (rgD rfl) (by decide) rfl rfl ?_
      refine p_aload 109 r_c218_108 rfl rfl ?_
      refine p_aload 110 r_c218_109 rfl rfl ?_
      refine p_iload 112 r_c218_110 rfl rfl ?_
      refine p_iconst 113 r_c218_112 rfl ?_
      refine p_iadd 114 r_c218_113 rfl ?_
      refine p_script 115 r_c218_114 rfl hL (rg_wr _) (fun hx9 => ?_)
      refine p_top (xs (wr (x4 + 1)).toNat).toInt rfl ?_
      refine p_i2l 116 r_c218_115 rfl ?_
      refine p_iconst 118 r_c218_116 rfl ?_
      refine p_lshl 119 r_c218_118 rfl ?_
      refine p_aload 120 r_c218_119 rfl rfl ?_
      refine p_iload 122 r_c218_120 rfl rfl ?_
      refine p_iconst 123 r_c218_122 rfl ?_
      refine p_iadd 124 r_c218_123 rfl ?_
      refine p_script 125 r_c218_124 rfl hL (rg_wr _) (fun hx10 => ?_)
      refine p_top (xs (wr (x4 + 2)).toNat).toInt rfl ?_
      refine p_i2l 126 r_c218_125 rfl ?_
      refine p_lconst 129 r_c218_126 rfl ?_
      refine p_land 130 r_c218_129 rfl ?_
      refine p_lor 131 r_c218_130 rfl ?_
      refine p_aload 132 r_c218_131 rfl rfl ?_
      refine p_iload 134 r_c218_132 rfl rfl ?_
      refine p_iconst 135 r_c218_134 rfl ?_
      refine p_iadd 136 r_c218_135 rfl ?_
      refine p_script 137 r_c218_136 rfl hL (rg_wr _) (fun hx11 => ?_)
      refine p_top (xs (wr (x4 + 3)).toNat).toInt rfl ?_
      refine p_aload 138 r_c218_137 rfl rfl ?_
      refine p_cS 141 [.ref 0, .long ((lShl (i2l ((xs (wr (x4 + 1)).toNat).toInt)) 32) ||| ((i2l ((xs (wr (x4 + 2)).toNat).toInt)) &&& (Int64.ofInt 4294967295))), yI ((xs (wr (x4 + 3)).toNat).toInt), .ref 413] [] r_c218_138 rfl rfl rfl (fun k' hk' d' => d21 (f := f) (by omega) (rg_to _) hR) (fun r107 m109 hF105 hg106 hR110 n13 k12 hk12 => ?_)
      have hX108 := hX8.trans (bI_s hF105)
      refine p_istore 143 r_c218_141 rfl rfl ?_
      refine p_aload 144 r_c218_143 rfl rfl ?_
      refine p_aload 145 r_c218_144 rfl rfl ?_
      refine p_iload 147 r_c218_145 rfl rfl ?_
      refine p_iconst 148 r_c218_147 rfl ?_
      refine p_iadd 149 r_c218_148 rfl ?_
      refine p_script 150 r_c218_149 rfl hL (rg_wr _) (fun hx111 => ?_)
      refine p_top (xs (wr (x4 + 1)).toNat).toInt rfl ?_
      refine p_i2l 151 r_c218_150 rfl ?_
      refine p_iconst 153 r_c218_151 rfl ?_
      refine p_lshl 154 r_c218_153 rfl ?_
      refine p_aload 155 r_c218_154 rfl rfl ?_
      refine p_iload 157 r_c218_155 rfl rfl ?_
      refine p_iconst 158 r_c218_157 rfl ?_
      refine p_iadd 159 r_c218_158 rfl ?_
      refine p_script 160 r_c218_159 rfl hL (rg_wr _) (fun hx112 => ?_)
      refine p_top (xs (wr (x4 + 2)).toNat).toInt rfl ?_
      refine p_i2l 161 r_c218_160 rfl ?_
      refine p_lconst 164 r_c218_161 rfl ?_
      refine p_land 165 r_c218_164 rfl ?_
      refine p_lor 166 r_c218_165 rfl ?_
      refine p_aload 167 r_c218_166 rfl rfl ?_
      refine p_iload 169 r_c218_167 rfl rfl ?_
      refine p_iconst 170 r_c218_169 rfl ?_
      refine p_iadd 171 r_c218_170 rfl ?_
      refine p_script 172 r_c218_171 rfl hL (rg_wr _) (fun hx113 => ?_)
      refine p_top (xs (wr (x4 + 3)).toNat).toInt rfl ?_
      refine p_cS 175 [.ref 376, .long ((lShl (i2l ((xs (wr (x4 + 1)).toNat).toInt)) 32) ||| ((i2l ((xs (wr (x4 + 2)).toNat).toInt)) &&& (Int64.ofInt 4294967295))), yI ((xs (wr (x4 + 3)).toNat).toInt)] [] r_c218_172 rfl rfl rfl (fun k' hk' d' => d25 (f := f) (by omega) (rg_to _) hR110) (fun r218 m220 hF216 hg217 hR221 n115 k114 hk114 => ?_)
      have hX219 := hX108.trans (bI_s hF216)
      refine p_istore 177 r_c218_175 rfl rfl ?_
      refine p_goto 617 r_c218_177 rfl ?_
      exact tJ218_t0_617 (f := f) (by omega) hL hLr gx4 hR221 (fun y0 y1 y2 m' n' e' h0 hR' k' hk' => Hn y0 y1 y2 m' n' (hX219.trans e') h0 hR' k' (by omega)) (fun y0 y1 y2 m' n' e' h0 hR' k' hk' => He y0 y1 y2 m' n' (hX219.trans e') h0 hR' k' (by omega)) (fun r' m' e' => Hr r' m' (hX219.trans e'))
    have hX223 := hX5.trans (if_neg hk7)
    by_cases hk224 : iAnd ((xs (x4).toNat).toInt) 15 = 1
    · have hX225 := hX223.trans (if_pos hk224)
      refine p_top 1 hk224 ?_
      refine p_tsw 180 r_c218_39 (rgD rfl) (by decide) rfl rfl ?_
      refine p_aload 181 r_c218_180 rfl rfl ?_
      refine p_aload 182 r_c218_181 rfl rfl ?_
      refine p_iload 184 r_c218_182 rfl rfl ?_
      refine p_iconst 185 r_c218_184 rfl ?_
      refine p_iadd 186 r_c218_185 rfl ?_
      refine p_script 187 r_c218_186 rfl hL (rg_wr _) (fun hx226 => ?_)
      refine p_top (xs (wr (x4 + 1)).toNat).toInt rfl ?_
      refine p_aload 188 r_c218_187 rfl rfl ?_
      refine p_cS 191 [.ref 0, yI ((xs (wr (x4 + 1)).toNat).toInt), .ref 413] [] r_c218_188 rfl rfl rfl (fun k' hk' d' => d28 (f := f) (by omega) (rg_to _) hR) (fun r258 m260 hF256 hg257 hR261 n228 k227 hk227 => ?_)
      have hX259 := hX225.trans (bI_s hF256)
      refine p_istore 193 r_c218_191 rfl rfl ?_
      refine p_aload 194 r_c218_193 rfl rfl ?_
      refine p_aload 195 r_c218_194 rfl rfl ?_
      refine p_iload 197 r_c218_195 rfl rfl ?_
      refine p_iconst 198 r_c218_197 rfl ?_
      refine p_iadd 199 r_c218_198 rfl ?_
      refine p_script 200 r_c218_199 rfl hL (rg_wr _) (fun hx262 => ?_)
      refine p_top (xs (wr (x4 + 1)).toNat).toInt rfl ?_
      refine p_cS 203 [.ref 376, yI ((xs (wr (x4 + 1)).toNat).toInt)] [] r_c218_200 rfl rfl rfl (fun k' hk' d' => d29 (f := f) (by omega) (rg_to _) hR261) (fun r284 m286 hF282 hg283 hR287 n264 k263 hk263 => ?_)
      have hX285 := hX259.trans (bI_s hF282)
      refine p_istore 205 r_c218_203 rfl rfl ?_
      refine p_goto 617 r_c218_205 rfl ?_
      exact tJ218_t0_617 (f := f) (by omega) hL hLr gx4 hR287 (fun y0 y1 y2 m' n' e' h0 hR' k' hk' => Hn y0 y1 y2 m' n' (hX285.trans e') h0 hR' k' (by omega)) (fun y0 y1 y2 m' n' e' h0 hR' k' hk' => He y0 y1 y2 m' n' (hX285.trans e') h0 hR' k' (by omega)) (fun r' m' e' => Hr r' m' (hX285.trans e'))
    have hX288 := hX223.trans (if_neg hk224)
    by_cases hk289 : iAnd ((xs (x4).toNat).toInt) 15 = 2
    · have hX290 := hX288.trans (if_pos hk289)
      refine p_top 2 hk289 ?_
      refine p_tsw 208 r_c218_39 (rgD rfl) (by decide) rfl rfl ?_
      refine p_aload 209 r_c218_208 rfl rfl ?_
      refine p_aload 210 r_c218_209 rfl rfl ?_
      refine p_cSe 213 [.ref 0, .ref 413] [] r_c218_210 rfl rfl rfl (fun k' hk' d' => d95 (f := f) (by omega) hR) (fun r2874 m2876 c2878 hF2872 hg2873 hR2877 n292 k291 hk291 => ?_)
      have hX2875 := hX290.trans (bI_s hF2872)
      refine p_istore 215 r_c218_213 rfl rfl ?_
      refine p_aload 216 r_c218_215 rfl rfl ?_
      refine p_cS 219 [.ref 376] [] r_c218_216 rfl rfl rfl (fun k' hk' d' => d152 (f := f) (by omega) hR2877) (fun r5884 m5886 hF5882 hg5883 hR5887 n2880 k2879 hk2879 => ?_)
      have hX5885 := hX2875.trans (bI_s hF5882)
      refine p_istore 221 r_c218_219 rfl rfl ?_
      refine p_goto 617 r_c218_221 rfl ?_
      exact tJ218_t0_617 (f := f) (by omega) hL hLr gx4 hR5887 (fun y0 y1 y2 m' n' e' h0 hR' k' hk' => Hn y0 y1 y2 m' n' (hX5885.trans e') h0 hR' k' (by omega)) (fun y0 y1 y2 m' n' e' h0 hR' k' hk' => He y0 y1 y2 m' n' (hX5885.trans e') h0 hR' k' (by omega)) (fun r' m' e' => Hr r' m' (hX5885.trans e'))
    have hX5888 := hX288.trans (if_neg hk289)
    by_cases hk5889 : iAnd ((xs (x4).toNat).toInt) 15 = 3
    · have hX5890 := hX5888.trans (if_pos hk5889)
      refine p_top 3 hk5889 ?_
      refine p_tsw 224 r_c218_39 (rgD rfl) (by decide) rfl rfl ?_
      refine p_aload 225 r_c218_224 rfl rfl ?_
      refine p_cX 228 [.ref 0] [] r_c218_225 rfl rfl rfl (fun k' hk' d' => d153 hR) (fun hg5893 n5892 k5891 hk5891 => ?_)
      refine p_pop 229 r_c218_228 rfl rfl ?_
      refine p_aload 230 r_c218_229 rfl rfl ?_
      refine p_cS 233 [.ref 376] [] r_c218_230 rfl rfl rfl (fun k' hk' d' => d154 (f := f) (by omega) hR) (fun r5899 m5901 hF5897 hg5898 hR5902 n5895 k5894 hk5894 => ?_)
      have hX5900 := hX5890.trans (bI_s hF5897)
      refine p_pop 234 r_c218_233 rfl rfl ?_
      refine p_goto 617 r_c218_234 rfl ?_
      exact tJ218_t0_617 (f := f) (by omega) hL hLr gx4 hR5902 (fun y0 y1 y2 m' n' e' h0 hR' k' hk' => Hn y0 y1 y2 m' n' (hX5900.trans e') h0 hR' k' (by omega)) (fun y0 y1 y2 m' n' e' h0 hR' k' hk' => He y0 y1 y2 m' n' (hX5900.trans e') h0 hR' k' (by omega)) (fun r' m' e' => Hr r' m' (hX5900.trans e'))
    have hX5903 := hX5888.trans (if_neg hk5889)
    by_cases hk5904 : iAnd ((xs (x4).toNat).toInt) 15 = 4
    · have hX5905 := hX5903.trans (if_pos hk5904)
      refine p_top 4 hk5904 ?_
      refine p_tsw 237 r_c218_39 (rgD rfl) (by decide) rfl rfl ?_
      refine p_aload 238 r_c218_237 rfl rfl ?_
      refine p_aload 239 r_c218_238 rfl rfl ?_
      refine p_iload 241 r_c218_239 rfl rfl ?_
      refine p_iconst 242 r_c218_241 rfl ?_
      refine p_iadd 243 r_c218_242 rfl ?_
      refine p_script 244 r_c218_243 rfl hL (rg_wr _) (fun hx5906 => ?_)
      refine p_top (xs (wr (x4 + 1)).toNat).toInt rfl ?_
      refine p_aload 245 r_c218_244 rfl rfl ?_
      refine p_iload 247 r_c218_245 rfl rfl ?_
      refine p_iconst 248 r_c218_247 rfl ?_
      refine p_iadd 249 r_c218_248 rfl ?_
      refine p_script 250 r_c218_249 rfl hL (rg_wr _) (fun hx5907 => ?_)
      refine p_top (xs (wr (x4 + 2)).toNat).toInt rfl ?_
      refine p_aload 251 r_c218_250 rfl rfl ?_
      refine p_cS 254 [.ref 0, yI ((xs (wr (x4 + 1)).toNat).toInt), yI ((xs (wr (x4 + 2)).toNat).toInt), .ref 413] [] r_c218_251 rfl rfl rfl (fun k' hk' d' => d159 (f := f) (by omega) (rg_to _) (rg_to _) hR) (fun r5963 m5965 hF5961 hg5962 hR5966 n5909 k5908 hk5908 => ?_)
      have hX5964 := hX5905.trans (bI_s hF5961)
      refine p_istore 256 r_c218_254 rfl rfl ?_
      refine p_aload 257 r_c218_256 rfl rfl ?_
      refine p_aload 258 r_c218_257 rfl rfl ?_
      refine p_iload 260 r_c218_258 rfl rfl ?_
      refine p_iconst 261 r_c218_260 rfl ?_
      refine p_iadd 262 r_c218_261 rfl ?_
      refine p_script 263 r_c218_262 rfl hL (rg_wr _) (fun hx5967 => ?_)
      refine p_top (xs (wr (x4 + 1)).toNat).toInt rfl ?_
      refine p_aload 264 r_c218_263 rfl rfl ?_
      refine p_iload 266 r_c218_264 rfl rfl ?_
      refine p_iconst 267 r_c218_266 rfl ?_
      refine p_iadd 268 r_c218_267 rfl ?_
      refine p_script 269 r_c218_268 rfl hL (rg_wr _) (fun hx5968 => ?_)
      refine p_top (xs (wr (x4 + 2)).toNat).toInt rfl ?_
      refine p_cS 272 [.ref 376, yI ((xs (wr (x4 + 1)).toNat).toInt), yI ((xs (wr (x4 + 2)).toNat).toInt)] [] r_c218_269 rfl rfl rfl (fun k' hk' d' => d163 (f := f) (by omega) (rg_to _) (rg_to _) hR5966) (fun r6049 m6051 hF6047 hg6048 hR6052 n5970 k5969 hk5969 => ?_)
      have hX6050 := hX5964.trans (bI_s hF6047)
      refine p_istore 274 r_c218_272 rfl rfl ?_
      refine p_goto 617 r_c218_274 rfl ?_
      exact tJ218_t0_617 (f := f) (by omega) hL hLr gx4 hR6052 (fun y0 y1 y2 m' n' e' h0 hR' k' hk' => Hn y0 y1 y2 m' n' (hX6050.trans e') h0 hR' k' (by omega)) (fun y0 y1 y2 m' n' e' h0 hR' k' hk' => He y0 y1 y2 m' n' (hX6050.trans e') h0 hR' k' (by omega)) (fun r' m' e' => Hr r' m' (hX6050.trans e'))
    have hX6053 := hX5903.trans (if_neg hk5904)
    by_cases hk6054 : iAnd ((xs (x4).toNat).toInt) 15 = 5
    · have hX6055 := hX6053.trans (if_pos hk6054)
      refine p_top 5 hk6054 ?_
      refine p_tsw 277 r_c218_39 (rgD rfl) (by decide) rfl rfl ?_
      refine p_aload 278 r_c218_277 rfl rfl ?_
      refine p_aload 279 r_c218_278 rfl rfl ?_
      refine p_iload 281 r_c218_279 rfl rfl ?_
      refine p_iconst 282 r_c218_281 rfl ?_
      refine p_iadd 283 r_c218_282 rfl ?_
      refine p_script 284 r_c218_283 rfl hL (rg_wr _) (fun hx6056 => ?_)
      refine p_top (xs (wr (x4 + 1)).toNat).toInt rfl ?_
      refine p_aload 285 r_c218_284 rfl rfl ?_
      refine p_iload 287 r_c218_285 rfl rfl ?_
      refine p_iconst 288 r_c218_287 rfl ?_
      refine p_iadd 289 r_c218_288 rfl ?_
      refine p_script 290 r_c218_289 rfl hL (rg_wr _) (fun hx6057 => ?_)
      refine p_top (xs (wr (x4 + 2)).toNat).toInt rfl ?_
      refine p_aload 291 r_c218_290 rfl rfl ?_
      refine p_iload 293 r_c218_291 rfl rfl ?_
      refine p_iconst 294 r_c218_293 rfl ?_
      refine p_iadd 295 r_c218_294 rfl ?_
      refine p_script 296 r_c218_295 rfl hL (rg_wr _) (fun hx6058 => ?_)
      refine p_top (xs (wr (x4 + 3)).toNat).toInt rfl ?_
      refine p_aload 297 r_c218_296 rfl rfl ?_
      refine p_cS 300 [.ref 0, yI ((xs (wr (x4 + 1)).toNat).toInt), yI ((xs (wr (x4 + 2)).toNat).toInt), yI ((xs (wr (x4 + 3)).toNat).toInt), .ref 413] [] r_c218_297 rfl rfl rfl (fun k' hk' d' => d165 (f := f) (by omega) (rg_to _) (rg_to _) (rg_to _) hR) (fun r6108 m6110 hF6106 hg6107 hR6111 n6060 k6059 hk6059 => ?_)
      have hX6109 := hX6055.trans (bI_s hF6106)
      refine p_istore 302 r_c218_300 rfl rfl ?_
      refine p_aload 303 r_c218_302 rfl rfl ?_
      refine p_aload 304 r_c218_303 rfl rfl ?_
      refine p_iload 306 r_c218_304 rfl rfl ?_
      refine p_iconst 307 r_c218_306 rfl ?_
      refine p_iadd 308 r_c218_307 rfl ?_
      refine p_script 309 r_c218_308 rfl hL (rg_wr _) (fun hx6112 => ?_)
      refine p_top (xs (wr (x4 + 1)).toNat).toInt rfl ?_
      refine p_aload 310 r_c218_309 rfl rfl ?_
      refine p_iload 312 r_c218_310 rfl rfl ?_
      refine p_iconst 313 r_c218_312 rfl ?_
      refine p_iadd 314 r_c218_313 rfl ?_
      refine p_script 315 r_c218_314 rfl hL (rg_wr _) (fun hx6113 => ?_)
      refine p_top (xs (wr (x4 + 2)).toNat).toInt rfl ?_
      refine p_aload 316 r_c218_315 rfl rfl ?_
      refine p_iload 318 r_c218_316 rfl rfl ?_
      refine p_iconst 319 r_c218_318 rfl ?_
      refine p_iadd 320 r_c218_319 rfl ?_
      refine p_script 321 r_c218_320 rfl hL (rg_wr _) (fun hx6114 => ?_)
      refine p_top (xs (wr (x4 + 3)).toNat).toInt rfl ?_
      refine p_cS 324 [.ref 376, yI ((xs (wr (x4 + 1)).toNat).toInt), yI ((xs (wr (x4 + 2)).toNat).toInt), yI ((xs (wr (x4 + 3)).toNat).toInt)] [] r_c218_321 rfl rfl rfl (fun k' hk' d' => d166 (f := f) (by omega) (rg_to _) (rg_to _) (rg_to _) hR6111) (fun r6158 m6160 hF6156 hg6157 hR6161 n6116 k6115 hk6115 => ?_)
      have hX6159 := hX6109.trans (bI_s hF6156)
      refine p_istore 326 r_c218_324 rfl rfl ?_
      refine p_goto 617 r_c218_326 rfl ?_
      exact tJ218_t0_617 (f := f) (by omega) hL hLr gx4 hR6161 (fun y0 y1 y2 m' n' e' h0 hR' k' hk' => Hn y0 y1 y2 m' n' (hX6159.trans e') h0 hR' k' (by omega)) (fun y0 y1 y2 m' n' e' h0 hR' k' hk' => He y0 y1 y2 m' n' (hX6159.trans e') h0 hR' k' (by omega)) (fun r' m' e' => Hr r' m' (hX6159.trans e'))
    have hX6162 := hX6053.trans (if_neg hk6054)
    by_cases hk6163 : iAnd ((xs (x4).toNat).toInt) 15 = 6
    · have hX6164 := hX6162.trans (if_pos hk6163)
      refine p_top 6 hk6163 ?_
      refine p_tsw 329 r_c218_39 (rgD rfl) (by decide) rfl rfl ?_
      refine p_aload 330 r_c218_329 rfl rfl ?_
      refine p_aload 331 r_c218_330 rfl rfl ?_
      refine p_iload 333 r_c218_331 rfl rfl ?_
      refine p_iconst 334 r_c218_333 rfl ?_
      refine p_iadd 335 r_c218_334 rfl ?_
      refine p_script 336 r_c218_335 rfl hL (rg_wr _) (fun hx6165 => ?_)
      refine p_top (xs (wr (x4 + 1)).toNat).toInt rfl ?_
      refine p_aload 337 r_c218_336 rfl rfl ?_
      refine p_iload 339 r_c218_337 rfl rfl ?_
      refine p_iconst 340 r_c218_339 rfl ?_
      refine p_iadd 341 r_c218_340 rfl ?_
      refine p_script 342 r_c218_341 rfl hL (rg_wr _) (fun hx6166 => ?_)
      refine p_top (xs (wr (x4 + 2)).toNat).toInt rfl ?_
      refine p_aload 343 r_c218_342 rfl rfl ?_
      refine p_cS 346 [.ref 0, yI ((xs (wr (x4 + 1)).toNat).toInt), yI ((xs (wr (x4 + 2)).toNat).toInt), .ref 413] [] r_c218_343 rfl rfl rfl (fun k' hk' d' => d169 (f := f) (by omega) (rg_to _) (rg_to _) hR) (fun r6209 m6211 hF6207 hg6208 hR6212 n6168 k6167 hk6167 => ?_)
      have hX6210 := hX6164.trans (bI_s hF6207)
      refine p_istore 348 r_c218_346 rfl rfl ?_
      refine p_aload 349 r_c218_348 rfl rfl ?_
      refine p_aload 350 r_c218_349 rfl rfl ?_
      refine p_iload 352 r_c218_350 rfl rfl ?_
      refine p_iconst 353 r_c218_352 rfl ?_
      refine p_iadd 354 r_c218_353 rfl ?_
      refine p_script 355 r_c218_354 rfl hL (rg_wr _) (fun hx6213 => ?_)
      refine p_top (xs (wr (x4 + 1)).toNat).toInt rfl ?_
      refine p_aload 356 r_c218_355 rfl rfl ?_
      refine p_iload 358 r_c218_356 rfl rfl ?_
      refine p_iconst 359 r_c218_358 rfl ?_
      refine p_iadd 360 r_c218_359 rfl ?_
      refine p_script 361 r_c218_360 rfl hL (rg_wr _) (fun hx6214 => ?_)
      refine p_top (xs (wr (x4 + 2)).toNat).toInt rfl ?_
      refine p_cS 364 [.ref 376, yI ((xs (wr (x4 + 1)).toNat).toInt), yI ((xs (wr (x4 + 2)).toNat).toInt)] [] r_c218_361 rfl rfl rfl (fun k' hk' d' => d171 (f := f) (by omega) (rg_to _) (rg_to _) hR6212) (fun r6264 m6266 hF6262 hg6263 hR6267 n6216 k6215 hk6215 => ?_)
      have hX6265 := hX6210.trans (bI_s hF6262)
      refine p_istore 366 r_c218_364 rfl rfl ?_
      refine p_goto 617 r_c218_366 rfl ?_
      exact tJ218_t0_617 (f := f) (by omega) hL hLr gx4 hR6267 (fun y0 y1 y2 m' n' e' h0 hR' k' hk' => Hn y0 y1 y2 m' n' (hX6265.trans e') h0 hR' k' (by omega)) (fun y0 y1 y2 m' n' e' h0 hR' k' hk' => He y0 y1 y2 m' n' (hX6265.trans e') h0 hR' k' (by omega)) (fun r' m' e' => Hr r' m' (hX6265.trans e'))
    have hX6268 := hX6162.trans (if_neg hk6163)
    by_cases hk6269 : iAnd ((xs (x4).toNat).toInt) 15 = 7
    · have hX6270 := hX6268.trans (if_pos hk6269)
      refine p_top 7 hk6269 ?_
      refine p_tsw 369 r_c218_39 (rgD rfl) (by decide) rfl rfl ?_
      refine p_aload 370 r_c218_369 rfl rfl ?_
      refine p_aload 371 r_c218_370 rfl rfl ?_
      refine p_iload 373 r_c218_371 rfl rfl ?_
      refine p_iconst 374 r_c218_373 rfl ?_
      refine p_iadd 375 r_c218_374 rfl ?_
      refine p_script 376 r_c218_375 rfl hL (rg_wr _) (fun hx6271 => ?_)
      refine p_top (xs (wr (x4 + 1)).toNat).toInt rfl ?_
      refine p_aload 377 r_c218_376 rfl rfl ?_
      refine p_cS 380 [.ref 0, yI ((xs (wr (x4 + 1)).toNat).toInt), .ref 413] [] r_c218_377 rfl rfl rfl (fun k' hk' d' => d173 (f := f) (by omega) (rg_to _) hR) (fun r6301 m6303 hF6299 hg6300 hR6304 n6273 k6272 hk6272 => ?_)
      have hX6302 := hX6270.trans (bI_s hF6299)
      refine p_istore 382 r_c218_380 rfl rfl ?_
      refine p_aload 383 r_c218_382 rfl rfl ?_
      refine p_aload 384 r_c218_383 rfl rfl ?_
      refine p_iload 386 r_c218_384 rfl rfl ?_
      refine p_iconst 387 r_c218_386 rfl ?_
      refine p_iadd 388 r_c218_387 rfl ?_
      refine p_script 389 r_c218_388 rfl hL (rg_wr _) (fun hx6305 => ?_)
      refine p_top (xs (wr (x4 + 1)).toNat).toInt rfl ?_
      refine p_cS 392 [.ref 376, yI ((xs (wr (x4 + 1)).toNat).toInt)] [] r_c218_389 rfl rfl rfl (fun k' hk' d' => d174 (f := f) (by omega) (rg_to _) hR6304) (fun r6327 m6329 hF6325 hg6326 hR6330 n6307 k6306 hk6306 => ?_)
      have hX6328 := hX6302.trans (bI_s hF6325)
      refine p_istore 394 r_c218_392 rfl rfl ?_
      refine p_goto 617 r_c218_394 rfl ?_
      exact tJ218_t0_617 (f := f) (by omega) hL hLr gx4 hR6330 (fun y0 y1 y2 m' n' e' h0 hR' k' hk' => Hn y0 y1 y2 m' n' (hX6328.trans e') h0 hR' k' (by omega)) (fun y0 y1 y2 m' n' e' h0 hR' k' hk' => He y0 y1 y2 m' n' (hX6328.trans e') h0 hR' k' (by omega)) (fun r' m' e' => Hr r' m' (hX6328.trans e'))
    have hX6331 := hX6268.trans (if_neg hk6269)
    by_cases hk6332 : iAnd ((xs (x4).toNat).toInt) 15 = 8
    · have hX6333 := hX6331.trans (if_pos hk6332)
      refine p_top 8 hk6332 ?_
      refine p_tsw 397 r_c218_39 (rgD rfl) (by decide) rfl rfl ?_
      refine p_aload 398 r_c218_397 rfl rfl ?_
      refine p_aload 399 r_c218_398 rfl rfl ?_
      refine p_iload 401 r_c218_399 rfl rfl ?_
      refine p_iconst 402 r_c218_401 rfl ?_
      refine p_iadd 403 r_c218_402 rfl ?_
      refine p_script 404 r_c218_403 rfl hL (rg_wr _) (fun hx6334 => ?_)
      refine p_top (xs (wr (x4 + 1)).toNat).toInt rfl ?_
      refine p_aload 405 r_c218_404 rfl rfl ?_
      refine p_cS 408 [.ref 0, yI ((xs (wr (x4 + 1)).toNat).toInt), .ref 413] [] r_c218_405 rfl rfl rfl (fun k' hk' d' => d177 (f := f) (by omega) (rg_to _) hR) (fun r6410 m6412 hF6408 hg6409 hR6413 n6336 k6335 hk6335 => ?_)
      have hX6411 := hX6333.trans (bI_s hF6408)
      refine p_istore 410 r_c218_408 rfl rfl ?_
      refine p_aload 411 r_c218_410 rfl rfl ?_
      refine p_aload 412 r_c218_411 rfl rfl ?_
      refine p_iload 414 r_c218_412 rfl rfl ?_
      refine p_iconst 415 r_c218_414 rfl ?_
      refine p_iadd 416 r_c218_415 rfl ?_
      refine p_script 417 r_c218_416 rfl hL (rg_wr _) (fun hx6414 => ?_)
      refine p_top (xs (wr (x4 + 1)).toNat).toInt rfl ?_
      refine p_cS 420 [.ref 376, yI ((xs (wr (x4 + 1)).toNat).toInt)] [] r_c218_417 rfl rfl rfl (fun k' hk' d' => d178 (f := f) (by omega) (rg_to _) hR6413) (fun r6472 m6474 hF6470 hg6471 hR6475 n6416 k6415 hk6415 => ?_)
      have hX6473 := hX6411.trans (bI_s hF6470)
      refine p_istore 422 r_c218_420 rfl rfl ?_
      refine p_goto 617 r_c218_422 rfl ?_
      exact tJ218_t0_617 (f := f) (by omega) hL hLr gx4 hR6475 (fun y0 y1 y2 m' n' e' h0 hR' k' hk' => Hn y0 y1 y2 m' n' (hX6473.trans e') h0 hR' k' (by omega)) (fun y0 y1 y2 m' n' e' h0 hR' k' hk' => He y0 y1 y2 m' n' (hX6473.trans e') h0 hR' k' (by omega)) (fun r' m' e' => Hr r' m' (hX6473.trans e'))
    have hX6476 := hX6331.trans (if_neg hk6332)
    by_cases hk6477 : iAnd ((xs (x4).toNat).toInt) 15 = 9
    · have hX6478 := hX6476.trans (if_pos hk6477)
      refine p_top 9 hk6477 ?_
      refine p_tsw 425 r_c218_39 (rgD rfl) (by decide) rfl rfl ?_
      refine p_aload 426 r_c218_425 rfl rfl ?_
      refine p_aload 427 r_c218_426 rfl rfl ?_
      refine p_iload 429 r_c218_427 rfl rfl ?_
      refine p_iconst 430 r_c218_429 rfl ?_
      refine p_iadd 431 r_c218_430 rfl ?_
      refine p_script 432 r_c218_431 rfl hL (rg_wr _) (fun hx6479 => ?_)
      refine p_top (xs (wr (x4 + 1)).toNat).toInt rfl ?_
      refine p_aload 433 r_c218_432 rfl rfl ?_
      refine p_iload 435 r_c218_433 rfl rfl ?_
      refine p_iconst 436 r_c218_435 rfl ?_
      refine p_iadd 437 r_c218_436 rfl ?_
      refine p_script 438 r_c218_437 rfl hL (rg_wr _) (fun hx6480 => ?_)
      refine p_top (xs (wr (x4 + 2)).toNat).toInt rfl ?_
      refine p_aload 439 r_c218_438 rfl rfl ?_
      refine p_cS 442 [.ref 0, yI ((xs (wr (x4 + 1)).toNat).toInt), yI ((xs (wr (x4 + 2)).toNat).toInt), .ref 413] [] r_c218_439 rfl rfl rfl (fun k' hk' d' => d181 (f := f) (by omega) (rg_to _) (rg_to _) hR) (fun r6557 m6559 hF6555 hg6556 hR6560 n6482 k6481 hk6481 => ?_)
      have hX6558 := hX6478.trans (bI_s hF6555)
      refine p_istore 444 r_c218_442 rfl rfl ?_
      refine p_aload 445 r_c218_444 rfl rfl ?_
      refine p_aload 446 r_c218_445 rfl rfl ?_
      refine p_iload 448 r_c218_446 rfl rfl ?_
      refine p_iconst 449 r_c218_448 rfl ?_
      refine p_iadd 450 r_c218_449 rfl ?_
      refine p_script 451 r_c218_450 rfl hL (rg_wr _) (fun hx6561 => ?_)
      refine p_top (xs (wr (x4 + 1)).toNat).toInt rfl ?_
      refine p_aload 452 r_c218_451 rfl rfl ?_
      refine p_iload 454 r_c218_452 rfl rfl ?_
      refine p_iconst 455 r_c218_454 rfl ?_
      refine p_iadd 456 r_c218_455 rfl ?_
      refine p_script 457 r_c218_456 rfl hL (rg_wr _) (fun hx6562 => ?_)
      refine p_top (xs (wr (x4 + 2)).toNat).toInt rfl ?_
      refine p_cS 460 [.ref 376, yI ((xs (wr (x4 + 1)).toNat).toInt), yI ((xs (wr (x4 + 2)).toNat).toInt)] [] r_c218_457 rfl rfl rfl (fun k' hk' d' => d182 (f := f) (by omega) (rg_to _) (rg_to _) hR6560) (fun r6624 m6626 hF6622 hg6623 hR6627 n6564 k6563 hk6563 => ?_)
      have hX6625 := hX6558.trans (bI_s hF6622)
      refine p_istore 462 r_c218_460 rfl rfl ?_
      refine p_goto 617 r_c218_462 rfl ?_
      exact tJ218_t0_617 (f := f) (by omega) hL hLr gx4 hR6627 (fun y0 y1 y2 m' n' e' h0 hR' k' hk' => Hn y0 y1 y2 m' n' (hX6625.trans e') h0 hR' k' (by omega)) (fun y0 y1 y2 m' n' e' h0 hR' k' hk' => He y0 y1 y2 m' n' (hX6625.trans e') h0 hR' k' (by omega)) (fun r' m' e' => Hr r' m' (hX6625.trans e'))
    have hX6628 := hX6476.trans (if_neg hk6477)
    by_cases hk6629 : iAnd ((xs (x4).toNat).toInt) 15 = 10
    · have hX6630 := hX6628.trans (if_pos hk6629)
      refine p_top 10 hk6629 ?_
      refine p_tsw 465 r_c218_39 (rgD rfl) (by decide) rfl rfl ?_
      refine p_aload 466 r_c218_465 rfl rfl ?_
      refine p_aload 467 r_c218_466 rfl rfl ?_
      refine p_iload 469 r_c218_467 rfl rfl ?_
      refine p_iconst 470 r_c218_469 rfl ?_
      refine p_iadd 471 r_c218_470 rfl ?_
      refine p_script 472 r_c218_471 rfl hL (rg_wr _) (fun hx6631 => ?_)
      refine p_top (xs (wr (x4 + 1)).toNat).toInt rfl ?_
      refine p_aload 473 r_c218_472 rfl rfl ?_
      refine p_iload 475 r_c218_473 rfl rfl ?_
      refine p_iconst 476 r_c218_475 rfl ?_
      refine p_iadd 477 r_c218_476 rfl ?_
      refine p_script 478 r_c218_477 rfl hL (rg_wr _) (fun hx6632 => ?_)
      refine p_top (xs (wr (x4 + 2)).toNat).toInt rfl ?_
      refine p_aload 479 r_c218_478 rfl rfl ?_
      refine p_cS 482 [.ref 0, yI ((xs (wr (x4 + 1)).toNat).toInt), yI ((xs (wr (x4 + 2)).toNat).toInt), .ref 413] [] r_c218_479 rfl rfl rfl (fun k' hk' d' => d184 (f := f) (by omega) (rg_to _) (rg_to _) hR) (fun r6689 m6691 hF6687 hg6688 hR6692 n6634 k6633 hk6633 => ?_)
      have hX6690 := hX6630.trans (bI_s hF6687)
      refine p_istore 484 r_c218_482 rfl rfl ?_
      refine p_aload 485 r_c218_484 rfl rfl ?_
      refine p_aload 486 r_c218_485 rfl rfl ?_
      refine p_iload 488 r_c218_486 rfl rfl ?_
      refine p_iconst 489 r_c218_488 rfl ?_
      refine p_iadd 490 r_c218_489 rfl ?_
      refine p_script 491 r_c218_490 rfl hL (rg_wr _) (fun hx6693 => ?_)
      refine p_top (xs (wr (x4 + 1)).toNat).toInt rfl ?_
      refine p_aload 492 r_c218_491 rfl rfl ?_
      refine p_iload 494 r_c218_492 rfl rfl ?_
      refine p_iconst 495 r_c218_494 rfl ?_
      refine p_iadd 496 r_c218_495 rfl ?_
      refine p_script 497 r_c218_496 rfl hL (rg_wr _) (fun hx6694 => ?_)
      refine p_top (xs (wr (x4 + 2)).toNat).toInt rfl ?_
      refine p_cS 500 [.ref 376, yI ((xs (wr (x4 + 1)).toNat).toInt), yI ((xs (wr (x4 + 2)).toNat).toInt)] [] r_c218_497 rfl rfl rfl (fun k' hk' d' => d185 (f := f) (by omega) (rg_to _) (rg_to _) hR6692) (fun r6744 m6746 hF6742 hg6743 hR6747 n6696 k6695 hk6695 => ?_)
      have hX6745 := hX6690.trans (bI_s hF6742)
      refine p_istore 502 r_c218_500 rfl rfl ?_
      refine p_goto 617 r_c218_502 rfl ?_
      exact tJ218_t0_617 (f := f) (by omega) hL hLr gx4 hR6747 (fun y0 y1 y2 m' n' e' h0 hR' k' hk' => Hn y0 y1 y2 m' n' (hX6745.trans e') h0 hR' k' (by omega)) (fun y0 y1 y2 m' n' e' h0 hR' k' hk' => He y0 y1 y2 m' n' (hX6745.trans e') h0 hR' k' (by omega)) (fun r' m' e' => Hr r' m' (hX6745.trans e'))
    have hX6748 := hX6628.trans (if_neg hk6629)
    by_cases hk6749 : iAnd ((xs (x4).toNat).toInt) 15 = 11
    · have hX6750 := hX6748.trans (if_pos hk6749)
      refine p_top 11 hk6749 ?_
      refine p_tsw 505 r_c218_39 (rgD rfl) (by decide) rfl rfl ?_
      refine p_aload 506 r_c218_505 rfl rfl ?_
      refine p_aload 507 r_c218_506 rfl rfl ?_
      refine p_cSe 510 [.ref 0, .ref 413] [] r_c218_507 rfl rfl rfl (fun k' hk' d' => d200 (f := f) (by omega) hR) (fun r7392 m7394 c7396 hF7390 hg7391 hR7395 n6752 k6751 hk6751 => ?_)
      have hX7393 := hX6750.trans (bI_s hF7390)
      refine p_istore 512 r_c218_510 rfl rfl ?_
      refine p_aload 513 r_c218_512 rfl rfl ?_
      refine p_cS 516 [.ref 376] [] r_c218_513 rfl rfl rfl (fun k' hk' d' => d211 (f := f) (by omega) hR7395) (fun r8016 m8018 hF8014 hg8015 hR8019 n7398 k7397 hk7397 => ?_)
      have hX8017 := hX7393.trans (bI_s hF8014)
      refine p_istore 518 r_c218_516 rfl rfl ?_
      refine p_goto 617 r_c218_518 rfl ?_
      exact tJ218_t0_617 (f := f) (by omega) hL hLr gx4 hR8019 (fun y0 y1 y2 m' n' e' h0 hR' k' hk' => Hn y0 y1 y2 m' n' (hX8017.trans e') h0 hR' k' (by omega)) (fun y0 y1 y2 m' n' e' h0 hR' k' hk' => He y0 y1 y2 m' n' (hX8017.trans e') h0 hR' k' (by omega)) (fun r' m' e' => Hr r' m' (hX8017.trans e'))
    have hX8020 := hX6748.trans (if_neg hk6749)
    by_cases hk8021 : iAnd ((xs (x4).toNat).toInt) 15 = 12
    · have hX8022 := hX8020.trans (if_pos hk8021)
      refine p_top 12 hk8021 ?_
      refine p_tsw 521 r_c218_39 (rgD rfl) (by decide) rfl rfl ?_
      refine p_aload 522 r_c218_521 rfl rfl ?_
      refine p_aload 523 r_c218_522 rfl rfl ?_
      refine p_iload 525 r_c218_523 rfl rfl ?_
      refine p_iconst 526 r_c218_525 rfl ?_
      refine p_iadd 527 r_c218_526 rfl ?_
      refine p_script 528 r_c218_527 rfl hL (rg_wr _) (fun hx8023 => ?_)
      refine p_top (xs (wr (x4 + 1)).toNat).toInt rfl ?_
      refine p_aload 529 r_c218_528 rfl rfl ?_
      refine p_iload 531 r_c218_529 rfl rfl ?_
      refine p_iconst 532 r_c218_531 rfl ?_
      refine p_iadd 533 r_c218_532 rfl ?_
      refine p_script 534 r_c218_533 rfl hL (rg_wr _) (fun hx8024 => ?_)
      refine p_top (xs (wr (x4 + 2)).toNat).toInt rfl ?_
      refine p_aload 535 r_c218_534 rfl rfl ?_
      refine p_cS 538 [.ref 0, yI ((xs (wr (x4 + 1)).toNat).toInt), yI ((xs (wr (x4 + 2)).toNat).toInt), .ref 413] [] r_c218_535 rfl rfl rfl (fun k' hk' d' => d213 (f := f) (by omega) (rg_to _) (rg_to _) hR) (fun r8064 m8066 hF8062 hg8063 hR8067 n8026 k8025 hk8025 => ?_)
      have hX8065 := hX8022.trans (bI_s hF8062)
      refine p_istore 540 r_c218_538 rfl rfl ?_
      refine p_aload 541 r_c218_540 rfl rfl ?_
      refine p_aload 542 r_c218_541 rfl rfl ?_
      refine p_iload 544 r_c218_542 rfl rfl ?_
      refine p_iconst 545 r_c218_544 rfl ?_
      refine p_iadd 546 r_c218_545 rfl ?_
      refine p_script 547 r_c218_546 rfl hL (rg_wr _) (fun hx8068 => ?_)
      refine p_top (xs (wr (x4 + 1)).toNat).toInt rfl ?_
      refine p_aload 548 r_c218_547 rfl rfl ?_
      refine p_iload 550 r_c218_548 rfl rfl ?_
      refine p_iconst 551 r_c218_550 rfl ?_
      refine p_iadd 552 r_c218_551 rfl ?_
      refine p_script 553 r_c218_552 rfl hL (rg_wr _) (fun hx8069 => ?_)
      refine p_top (xs (wr (x4 + 2)).toNat).toInt rfl ?_
      refine p_cS 556 [.ref 376, yI ((xs (wr (x4 + 1)).toNat).toInt), yI ((xs (wr (x4 + 2)).toNat).toInt)] [] r_c218_553 rfl rfl rfl (fun k' hk' d' => d214 (f := f) (by omega) (rg_to _) (rg_to _) hR8067) (fun r8109 m8111 hF8107 hg8108 hR8112 n8071 k8070 hk8070 => ?_)
      have hX8110 := hX8065.trans (bI_s hF8107)
      refine p_istore 558 r_c218_556 rfl rfl ?_
      refine p_aload 559 r_c218_558 rfl rfl ?_
      refine p_cX 562 [.ref 376] [] r_c218_559 rfl rfl rfl (fun k' hk' d' => d26 hR8112) (fun hg8115 n8114 k8113 hk8113 => ?_)
      refine p_iload 564 r_c218_562 rfl rfl ?_
      refine p_icmp 569 567 r_c218_564 rfl rfl (yc_eq hg8115 hg8063) (fun hb8116 k8117 hk8117 => ?_) (fun hb8116 k8118 hk8118 => ?_)
      · have hX8119 := hX8110.trans (if_pos hb8116)
        refine p_iload 571 r_c218_569 rfl rfl ?_
        refine p_if 586 574 r_c218_571 rfl rfl (yz_ne hg8063) (fun hb8120 k8121 hk8121 => ?_) (fun hb8120 k8122 hk8122 => ?_)
        · have hX8123 := hX8119.trans (if_neg hb8120)
          exact tJ218_t0_586 (f := f) (by omega) hL hLr gx4 hR8112 (fun y0 y1 y2 m' n' e' h0 hR' k' hk' => Hn y0 y1 y2 m' n' (hX8123.trans e') h0 hR' k' (by omega)) (fun y0 y1 y2 m' n' e' h0 hR' k' hk' => He y0 y1 y2 m' n' (hX8123.trans e') h0 hR' k' (by omega)) (fun r' m' e' => Hr r' m' (hX8123.trans e'))
        · have hX8124 := hX8119.trans (if_pos (Classical.not_not.mp hb8120))
          refine p_aload 575 r_c218_574 rfl rfl ?_
          refine p_iconst 576 r_c218_575 rfl ?_
          refine p_laX 577 (Int64.ofInt (m8111 413 0)) r_c218_576 rfl kl413 (rgD rfl) (congrArg Int64.ofInt rfl) (fun hx8125 => ?_)
          refine p_iload 579 r_c218_577 rfl rfl ?_
          refine p_i2l 580 r_c218_579 rfl ?_
          refine p_lcmp 581 r_c218_580 rfl ?_
          refine p_if 586 584 r_c218_581 rfl rfl (yz_eq (rg_to _)) (fun hb8126 k8127 hk8127 => ?_) (fun hb8126 k8128 hk8128 => ?_)
          · have hX8129 := hX8124.trans (if_pos hb8126)
            exact tJ218_t0_586 (f := f) (by omega) hL hLr gx4 hR8112 (fun y0 y1 y2 m' n' e' h0 hR' k' hk' => Hn y0 y1 y2 m' n' (hX8129.trans e') h0 hR' k' (by omega)) (fun y0 y1 y2 m' n' e' h0 hR' k' hk' => He y0 y1 y2 m' n' (hX8129.trans e') h0 hR' k' (by omega)) (fun r' m' e' => Hr r' m' (hX8129.trans e'))
          · have hX8130 := hX8124.trans (if_neg hb8126)
            refine p_iconst 585 r_c218_584 rfl ?_
            exact p_ireturn r_c218_585 (Hr _ _ hX8130 (rgD rfl) ⟨_, hR8112⟩ _)
      · have hX8131 := hX8110.trans (if_neg hb8116)
        refine p_iconst 568 r_c218_567 rfl ?_
        exact p_ireturn r_c218_568 (Hr _ _ hX8131 (rgD rfl) ⟨_, hR8112⟩ _)
    have hX8132 := hX8020.trans (if_neg hk8021)
    by_cases hk8133 : iAnd ((xs (x4).toNat).toInt) 15 = 13
    · have hX8134 := hX8132.trans (if_pos hk8133)
      refine p_top 13 hk8133 ?_
      refine p_tsw 589 r_c218_39 (rgD rfl) (by decide) rfl rfl ?_
      refine p_aload 590 r_c218_589 rfl rfl ?_
      refine p_aload 591 r_c218_590 rfl rfl ?_
      refine p_iload 593 r_c218_591 rfl rfl ?_
      refine p_iconst 594 r_c218_593 rfl ?_
      refine p_iadd 595 r_c218_594 rfl ?_
      refine p_script 596 r_c218_595 rfl hL (rg_wr _) (fun hx8135 => ?_)
      refine p_top (xs (wr (x4 + 1)).toNat).toInt rfl ?_
      refine p_aload 597 r_c218_596 rfl rfl ?_
      refine p_cS 600 [.ref 0, yI ((xs (wr (x4 + 1)).toNat).toInt), .ref 413] [] r_c218_597 rfl rfl rfl (fun k' hk' d' => d216 (f := f) (by omega) (rg_to _) hR) (fun r8186 m8188 hF8184 hg8185 hR8189 n8137 k8136 hk8136 => ?_)
      have hX8187 := hX8134.trans (bI_s hF8184)
      refine p_istore 602 r_c218_600 rfl rfl ?_
      refine p_aload 603 r_c218_602 rfl rfl ?_
      refine p_aload 604 r_c218_603 rfl rfl ?_
      refine p_iload 606 r_c218_604 rfl rfl ?_
      refine p_iconst 607 r_c218_606 rfl ?_
      refine p_iadd 608 r_c218_607 rfl ?_
      refine p_script 609 r_c218_608 rfl hL (rg_wr _) (fun hx8190 => ?_)
      refine p_top (xs (wr (x4 + 1)).toNat).toInt rfl ?_
      refine p_cS 612 [.ref 376, yI ((xs (wr (x4 + 1)).toNat).toInt)] [] r_c218_609 rfl rfl rfl (fun k' hk' d' => d217 (f := f) (by omega) (rg_to _) hR8189) (fun r8268 m8270 hF8266 hg8267 hR8271 n8192 k8191 hk8191 => ?_)
      have hX8269 := hX8187.trans (bI_s hF8266)
      refine p_istore 614 r_c218_612 rfl rfl ?_
      refine p_goto 617 r_c218_614 rfl ?_
      exact tJ218_t0_617 (f := f) (by omega) hL hLr gx4 hR8271 (fun y0 y1 y2 m' n' e' h0 hR' k' hk' => Hn y0 y1 y2 m' n' (hX8269.trans e') h0 hR' k' (by omega)) (fun y0 y1 y2 m' n' e' h0 hR' k' hk' => He y0 y1 y2 m' n' (hX8269.trans e') h0 hR' k' (by omega)) (fun r' m' e' => Hr r' m' (hX8269.trans e'))
    have hX8272 := hX8132.trans (if_neg hk8133)
    refine p_tswd 617 r_c218_39 (rg_to _) (by omega) rfl ?_
    exact tJ218_t0_617 (f := f) (by omega) hL hLr gx4 hR (fun y0 y1 y2 m' n' e' h0 hR' k' hk' => Hn y0 y1 y2 m' n' (hX8272.trans e') h0 hR' k' (by omega)) (fun y0 y1 y2 m' n' e' h0 hR' k' hk' => He y0 y1 y2 m' n' (hX8272.trans e') h0 hR' k' (by omega)) (fun r' m' e' => Hr r' m' (hX8272.trans e'))
def FL (f : Nat) (L : Nat) (xs : Nat → Int32) (x4 : Int) (m : yM) : Option (Int × yM) := (bL (yloop (fun (l : Int) ml => B218_t0_23 f L xs l ml) f x4 m) (fun l8273 m8279 => (some (1, m8279))) (fun r mr => some (r, mr)))
set_option maxRecDepth 100000 in
theorem tFL {L : Nat} {xs : Nat → Int32} {Q : xO → yM → Nat → Prop} {k d n : Nat} {c : yS3} {f : Nat} {x4 : Int} {m : yM} {j5 j6 : Option Value} (hk : k ≤ f) (hL : zLn (gZ L xs) ≤ 100000) (hLr : rg (L : Int)) (gx4 : rg x4) (hR : RM c m) (Hr : ∀ r m', FL f L xs x4 m = some (r, m') → rg r → (∃ c, RM c m') → ∀ n', Q (.inl (some (yI r))) m' n') : PW (gZ L xs) k 218 d 23 [some (.retAddr 0), some (.ref 0), some (.ref 376), some (.ref 413), some (yI x4), j5, j6] [] m n Q := by
  have hX : FL f L xs x4 m = FL f L xs x4 m := rfl
  refine PW.loop (K := k) (pce := 623) (fun (l : Int) ml => B218_t0_23 f L xs l ml) (fun (l : Int) j => [some (.retAddr 0), some (.ref 0), some (.ref 376), some (.ref 413), some (yI l), j 5, j 6]) (fun (l : Int) => rg l) (fun m' => ∃ c, RM c m') (fun r' m' => rg r' → (∃ c, RM c m') → ∀ n' : Nat, Q (.inl (some (yI r'))) m' n') (fun k' hk' l j m' n' hl hI Hn' He' Hr' => tB218_t0_23 (f := f) (by omega) hL hLr hl (hI.choose_spec) (fun y0 y1 y2 m2 n2 e h0 hR2 => Hn' y0 (fun q => ([none, none, none, none, none, y1, y2] : List (Option Value)).getD q none) m2 n2 e h0 hR2) (fun y0 y1 y2 m2 n2 e h0 hR2 => He' y0 (fun q => ([none, none, none, none, none, y1, y2] : List (Option Value)).getD q none) m2 n2 e h0 hR2) Hr') f k (by omega) (Nat.le_refl _) x4 (fun q => ([some (.retAddr 0), some (.ref 0), some (.ref 376), some (.ref 413), some (yI x4), j5, j6] : xL).getD q none) _ _ gx4 ⟨_, hR⟩ (fun l8273 j8276 m8279 n8278 e8275 hl8274 hR8280 k8277 hk8277 => ?_) (fun r' m' e' => ?_)
  · have hX8281 := hX.trans (bL_l e8275)
    obtain ⟨c8282, hR8283⟩ := hR8280
    refine p_iconst 624 r_c218_623 rfl ?_
    exact p_ireturn r_c218_624 (Hr _ _ hX8281 (rgD rfl) ⟨_, hR8283⟩ _)
  · exact Hr r' m' (hX.trans (bL_r e'))
end
section
/-! TOOLS for the functions of the methods -/
section BE
variable {α β γ : Type}
theorem bI_e {o : Option (α × yM)} {g : α → yM → Option β} {b : β} (h : bI o g = some b) : ∃ r m, o = some (r, m) ∧ g r m = some b := by
  unfold bI at h
  split at h
  · cases h
  · exact ⟨_, _, rfl, h⟩
theorem bU_e {o : Option yM} {g : yM → Option β} {b : β} (h : bU o g = some b) : ∃ m, o = some m ∧ g m = some b := by
  unfold bU at h
  split at h
  · cases h
  · exact ⟨_, rfl, h⟩
theorem bP_e {o : Option α} {g : α → Option β} {b : β} (h : bP o g = some b) : ∃ r, o = some r ∧ g r = some b := by
  unfold bP at h
  split at h
  · cases h
  · exact ⟨_, rfl, h⟩
theorem bT_e {o : Option ((α ⊕ Nat) × yM)} {g : α → yM → Option β} {t : Nat → yM → Option β} {b : β} (h : bT o g t = some b) : (∃ r m, o = some (.inl r, m) ∧ g r m = some b) ∨ (∃ e m, o = some (.inr e, m) ∧ t e m = some b) := by
  unfold bT at h
  split at h
  · cases h
  · exact Or.inl ⟨_, _, rfl, h⟩
  · exact Or.inr ⟨_, _, rfl, h⟩
theorem bL_e {o : Option ((α × yM) ⊕ (γ × yM))} {g : α → yM → Option β} {t : γ → yM → Option β} {b : β} (h : bL o g t = some b) : (∃ l m, o = some (.inl (l, m)) ∧ g l m = some b) ∨ (∃ r m, o = some (.inr (r, m)) ∧ t r m = some b) := by
  unfold bL at h
  split at h
  · cases h
  · exact Or.inl ⟨_, _, rfl, h⟩
  · exact Or.inr ⟨_, _, rfl, h⟩
theorem bQ_e {o : Option (α ⊕ γ)} {g : α → Option β} {t : γ → Option β} {b : β} (h : bQ o g t = some b) : (∃ l, o = some (.inl l) ∧ g l = some b) ∨ (∃ r, o = some (.inr r) ∧ t r = some b) := by
  unfold bQ at h
  split at h
  · cases h
  · exact Or.inl ⟨_, rfl, h⟩
  · exact Or.inr ⟨_, rfl, h⟩
/-- what a loop keeps holds where it ends -/
theorem yloop_inv {B : α → yM → Option ((α × yM) ⊕ ((α × yM) ⊕ (γ × yM)))} (I : α → yM → Prop) (hs : ∀ l m l' m', I l m → B l m = some (.inl (l', m')) → I l' m') : ∀ (f : Nat) (l : α) (m : yM) (r : (α × yM) ⊕ (γ × yM)), I l m → yloop B f l m = some r → ∃ l' m', I l' m' ∧ B l' m' = some (.inr r) := by
  intro f
  induction f with
  | zero => intro l m r _ h; cases h
  | succ f ih =>
    intro l m r hI h
    simp only [yloop] at h
    split at h
    · cases h
    · rename_i l' m' e
      exact ih l' m' r (hs l m l' m' hI e) h
    · rename_i r' e
      cases h
      exact ⟨l, m, hI, e⟩
theorem ploop_inv {B : α → Option (α ⊕ (α ⊕ γ))} (I : α → Prop) (hs : ∀ l l', I l → B l = some (.inl l') → I l') : ∀ (f : Nat) (l : α) (r : α ⊕ γ), I l → ploop B f l = some r → ∃ l', I l' ∧ B l' = some (.inr r) := by
  intro f
  induction f with
  | zero => intro l r _ h; cases h
  | succ f ih =>
    intro l r hI h
    simp only [ploop] at h
    split at h
    · cases h
    · rename_i l' e
      exact ih l' r (hs l l' hI e) h
    · rename_i r' e
      cases h
      exact ⟨l, hI, e⟩
end BE
theorem wr_i {x : Int} (h1 : -2147483648 ≤ x) (h2 : x < 2147483648) : wr x = x := wr_id ⟨h1, h2⟩
theorem ite1 {c : Prop} [Decidable c] {α : Type} {a b x : α} (h : (if c then a else b) = x) : (c ∧ a = x) ∨ (¬ c ∧ b = x) := by
  split at h
  · exact Or.inl ⟨‹_›, h⟩
  · exact Or.inr ⟨‹_›, h⟩
/-! NAMES: letters as numbers 1 to 26; the class counts them by 32, the model by 27 -/
def nE (b : Int) (s : Nat → Int) : Nat → Int
  | 0 => 0
  | k + 1 => b * nE b s k + s k
def nL (s : Nat → Int) (k : Nat) : Prop := ∀ j, j < k → 1 ≤ s j ∧ s j ≤ 26
theorem nL.le {s : Nat → Int} {k j : Nat} (h : nL s k) (hj : j ≤ k) : nL s j := fun i hi => h i (by omega)
theorem nE_pos {b : Int} {s : Nat → Int} (hb : 27 ≤ b) : ∀ {k : Nat}, nL s k → 0 ≤ nE b s k ∧ (0 < k → 0 < nE b s k)
  | 0, _ => ⟨Int.le_refl _, fun h => absurd h (by omega)⟩
  | k + 1, h => by
    have h1 := nE_pos (b := b) hb (h.le (Nat.le_succ k))
    have h2 := h k (by omega)
    have h3 : 0 ≤ b * nE b s k := Int.mul_nonneg (by omega) h1.1
    simp only [nE]
    omega
theorem nE_inj {b : Int} {s t : Nat → Int} (hb : 27 ≤ b) : ∀ {k j : Nat}, nL s k → nL t j → nE b s k = nE b t j → k = j ∧ ∀ i, i < k → s i = t i
  | 0, 0, _, _, _ => ⟨rfl, fun i hi => absurd hi (by omega)⟩
  | 0, j + 1, _, ht, e => by
    have := (nE_pos hb ht).2 (by omega)
    simp only [nE] at e this
    omega
  | k + 1, 0, hs, _, e => by
    have := (nE_pos hb hs).2 (by omega)
    simp only [nE] at e this
    omega
  | k + 1, j + 1, hs, ht, e => by
    have h1 := hs k (by omega)
    have h2 := ht j (by omega)
    simp only [nE] at e
    have e1 : (b * nE b s k + s k) % b = s k := by
      rw [Int.add_comm, Int.add_mul_emod_self_left]
      exact Int.emod_eq_of_lt (by omega) (by omega)
    have e2 : (b * nE b t j + t j) % b = t j := by
      rw [Int.add_comm, Int.add_mul_emod_self_left]
      exact Int.emod_eq_of_lt (by omega) (by omega)
    have e3 : s k = t j := by rw [← e1, e, e2]
    have e4 : nE b s k = nE b t j := by
      have : b * nE b s k = b * nE b t j := by omega
      exact Int.eq_of_mul_eq_mul_left (by omega) this
    obtain ⟨r1, r2⟩ := nE_inj hb (hs.le (Nat.le_succ k)) (ht.le (Nat.le_succ j)) e4
    subst r1
    refine ⟨rfl, fun i hi => ?_⟩
    by_cases q : i = k
    · subst q; exact e3
    · exact r2 i (by omega)
theorem nE_eq {b : Int} {s t : Nat → Int} : ∀ {k : Nat}, (∀ i, i < k → s i = t i) → nE b s k = nE b t k
  | 0, _ => rfl
  | k + 1, h => by
    simp only [nE]
    rw [nE_eq (fun i hi => h i (by omega)), h k (by omega)]
/-- a name of the class, and the same name of the model -/
def Nm (c t : Int) : Prop := ∃ (s : Nat → Int) (k : Nat), 1 ≤ k ∧ k ≤ 6 ∧ nL s k ∧ c = nE 32 s k ∧ t = nE 27 s k
theorem Nm.eq {c t c' t' : Int} (h : Nm c t) (h' : Nm c' t') : c = c' ↔ t = t' := by
  obtain ⟨s, k, k1, k2, hs, rfl, rfl⟩ := h
  obtain ⟨s', k', k1', k2', hs', rfl, rfl⟩ := h'
  constructor
  · intro e
    obtain ⟨r1, r2⟩ := nE_inj (by decide) hs hs' e
    subst r1
    exact nE_eq r2
  · intro e
    obtain ⟨r1, r2⟩ := nE_inj (by decide) hs hs' e
    subst r1
    exact nE_eq r2
theorem nE_le {b : Int} {s : Nat → Int} (hb : 27 ≤ b) : ∀ {k : Nat}, nL s k → nE b s k < b ^ k
  | 0, _ => by simp [nE]
  | k + 1, h => by
    have h1 := nE_le (b := b) hb (h.le (Nat.le_succ k))
    have h2 := h k (by omega)
    simp only [nE]
    have h3 : b * (nE b s k + 1) ≤ b * b ^ k := Int.mul_le_mul_of_nonneg_left (by omega) (by omega)
    have h4 : b ^ (k + 1) = b * b ^ k := by rw [Int.pow_succ, Int.mul_comm]
    rw [h4]
    rw [Int.mul_add] at h3
    omega
theorem Nm.pos {c t : Int} (h : Nm c t) : 0 < c ∧ c < 1073741824 ∧ 0 < t ∧ t < 387420489 := by
  obtain ⟨s, k, k1, k2, hs, rfl, rfl⟩ := h
  have a1 := (nE_pos (b := 32) (by decide) hs).2 (by omega)
  have a2 := (nE_pos (b := 27) (by decide) hs).2 (by omega)
  have b1 := nE_le (b := 32) (by decide) hs
  have b2 := nE_le (b := 27) (by decide) hs
  have c1 : (32 : Int) ^ k ≤ 32 ^ 6 := by
    rcases (show k = 1 ∨ k = 2 ∨ k = 3 ∨ k = 4 ∨ k = 5 ∨ k = 6 by omega) with rfl | rfl | rfl | rfl | rfl | rfl <;> decide
  have c2 : (27 : Int) ^ k ≤ 27 ^ 6 := by
    rcases (show k = 1 ∨ k = 2 ∨ k = 3 ∨ k = 4 ∨ k = 5 ∨ k = 6 by omega) with rfl | rfl | rfl | rfl | rfl | rfl <;> decide
  have d1 : (32 : Int) ^ 6 = 1073741824 := by decide
  have d2 : (27 : Int) ^ 6 = 387420489 := by decide
  omega
end
section
/-! TOKENS OF THE CLASS -/
def ltr (x : Int) : Prop := 97 ≤ x ∧ x ≤ 122
def sgn (x : Int) : Prop := x = 123 ∨ x = 125 ∨ x = 40 ∨ x = 41 ∨ x = 61 ∨ x = 46 ∨ x = 44 ∨ x = 59 ∨ x = 58
theorem F31_0 (x : Int) : F31 x = 0 ↔ ¬ ltr x := by
  unfold F31 ltr
  split
  · simp; omega
  · split
    · simp; omega
    · simp; omega
theorem F34_0 (x : Int) : F34 x = 0 ↔ ¬ sgn x := by
  unfold F34 sgn
  by_cases h1 : x = 123
  · simp [h1]
  by_cases h2 : x = 125
  · simp [h2]
  by_cases h3 : x = 40
  · simp [h3]
  by_cases h4 : x = 41
  · simp [h4]
  by_cases h5 : x = 61
  · simp [h5]
  by_cases h6 : x = 46
  · simp [h6]
  by_cases h7 : x = 44
  · simp [h7]
  by_cases h8 : x = 59
  · simp [h8]
  by_cases h9 : x = 58
  · simp [h9]
  simp [h1, h2, h3, h4, h5, h6, h7, h8, h9]
theorem F97_0 (x : Int) : F97 x = 0 ↔ ¬ sgn x := F34_0 x
theorem F98_0 (x : Int) : F98 x = 0 ↔ ¬ ltr x := F31_0 x
/-- the letters of a word from the place p on, as numbers -/
def lts (tx : Int → Int) (p : Int) : Nat → Int := fun q => tx (p + q) - 96
def TokB (tx : Int → Int) (e k p w : Int) : Prop :=
  ((∀ t, p ≤ t → t < e → ltr (tx t)) ∧ ((e - p ≤ 6 ∧ k = 11 ∧ w = nE 32 (lts tx p) (e - p).toNat) ∨ (6 < e - p ∧ k = 12))) ∨ (e = p + 1 ∧ sgn (tx p) ∧ k = tx p) ∨ (e = p + 1 ∧ ¬ ltr (tx p) ∧ ¬ sgn (tx p) ∧ tx p ≠ 32 ∧ k = 12)
def TokA (tx : Int → Int) (len a e k p w : Int) : Prop :=
  a ≤ p ∧ p < e ∧ e ≤ len ∧ (∀ t, a ≤ t → t < p → tx t = 32) ∧ TokB tx e k p w
def WMax (tx : Int → Int) (len e p : Int) : Prop := ltr (tx p) → e = len ∨ ¬ ltr (tx e)
def SpI (tx : Int → Int) (len x3 x4 x5 : Int) (m : yM) : Prop :=
  ∃ (c : Nat) (en : Nat → Int), m 3 4 = c ∧ en 0 = 0 ∧ en c = x3 ∧ 0 ≤ x5 ∧ x5 ≤ len ∧ 0 ≤ x3 ∧ x3 ≤ x5 ∧ 0 ≤ x4 ∧ (c : Int) ≤ x5 ∧ (∀ t, x3 ≤ t → t < x5 → tx t = 32) ∧ (∀ j, j < c → TokA tx len (en j) (en (j + 1)) (m 5 j) (m 6 j) (m 7 j)) ∧ (∀ j, j < c → WMax tx len (en (j + 1)) (m 6 j) ∨ (j + 1 = c ∧ 0 < x4)) ∧ (0 < x4 → 0 < c ∧ x3 = x5 ∧ m 6 (c - 1) = x5 - x4 ∧ ltr (tx (x5 - x4))) ∧ (∀ t, 0 ≤ t → t < len → m 1 t.toNat = tx t)
def upf (f : Nat → Int) (k : Nat) (v : Int) : Nat → Int := fun j => if j = k then v else f j
theorem upf_eq (f : Nat → Int) (k : Nat) (v : Int) : upf f k v k = v := if_pos rfl
theorem upf_ne {f : Nat → Int} {k j : Nat} {v : Int} (h : j ≠ k) : upf f k v j = f j := if_neg h
theorem lts_succ (tx : Int → Int) (p e : Int) (hp : p ≤ e) : nE 32 (lts tx p) (e + 1 - p).toNat = 32 * nE 32 (lts tx p) (e - p).toNat + (tx e - 96) := by
  have h1 : (e + 1 - p).toNat = (e - p).toNat + 1 := by omega
  rw [h1]
  simp only [nE]
  congr 1
  unfold lts
  congr 2
  omega
theorem lts_nL {tx : Int → Int} {p e : Int} (h : ∀ t, p ≤ t → t < e → ltr (tx t)) : nL (lts tx p) (e - p).toNat := by
  intro j hj
  have := h (p + j) (by omega) (by omega)
  unfold ltr at this
  unfold lts
  omega
theorem F7_n {w c : Int} (hw : 0 ≤ w ∧ w < 33554432) (hc : ltr c) : F7 w c = 32 * w + (c - 96) := by
  unfold ltr at hc
  unfold F7
  rw [wr_i (x := w * 32) (by omega) (by omega), wr_i (x := c - 97) (by omega) (by omega), wr_i (x := c - 97 + 1) (by omega) (by omega), wr_i (by omega) (by omega)]
  omega
theorem nE5 {s : Nat → Int} {k : Nat} (h : nL s k) (hk : k ≤ 5) : 0 ≤ nE 32 s k ∧ nE 32 s k < 33554432 := by
  have h1 := (nE_pos (b := 32) (by decide) h).1
  have h2 := nE_le (b := 32) (by decide) h
  have h3 : (32 : Int) ^ k ≤ 32 ^ 5 := by
    rcases (show k = 0 ∨ k = 1 ∨ k = 2 ∨ k = 3 ∨ k = 4 ∨ k = 5 by omega) with rfl | rfl | rfl | rfl | rfl | rfl <;> decide
  have h4 : (32 : Int) ^ 5 = 33554432 := by decide
  omega
/-- a token more -/
theorem SpI.add {tx : Int → Int} {len x3 x4 x5 : Int} {m : yM} (h : SpI tx len x3 x4 x5 m) (hl : len ≤ 320) (hx : x5 < len) (h4 : x4 = 0 ∨ ¬ ltr (tx x5)) (k w : Int) (hk : TokB tx (x5 + 1) k x5 w) (x4' : Int) (h4' : (x4' = 0 ∧ ¬ ltr (tx x5)) ∨ (x4' = 1 ∧ ltr (tx x5))) : SpI tx len (x5 + 1) x4' (x5 + 1) (yup (yup (yup (yup m 5 (m 3 4).toNat k) 6 (m 3 4).toNat x5) 7 (m 3 4).toNat w) 3 4 (wr (m 3 4 + 1))) := by
  obtain ⟨c, en, e1, e2, e3, e4, e5, e6, e7, e8, e9, e10, e11, e12, e13, e14⟩ := h
  have ec : (m 3 4).toNat = c := by omega
  rw [ec, e1, wr_i (by omega) (by omega)]
  have r5 : ∀ j, j ≠ c → (yup (yup (yup (yup m 5 c k) 6 c x5) 7 c w) 3 4 ((c : Int) + 1)) 5 j = m 5 j := fun j hj => by
    rw [yup_na (by decide), yup_na (by decide), yup_na (by decide), yup_nk hj]
  have r6 : ∀ j, j ≠ c → (yup (yup (yup (yup m 5 c k) 6 c x5) 7 c w) 3 4 ((c : Int) + 1)) 6 j = m 6 j := fun j hj => by
    rw [yup_na (by decide), yup_na (by decide), yup_nk hj, yup_na (by decide)]
  have r7 : ∀ j, j ≠ c → (yup (yup (yup (yup m 5 c k) 6 c x5) 7 c w) 3 4 ((c : Int) + 1)) 7 j = m 7 j := fun j hj => by
    rw [yup_na (by decide), yup_nk hj, yup_na (by decide), yup_na (by decide)]
  have s5 : (yup (yup (yup (yup m 5 c k) 6 c x5) 7 c w) 3 4 ((c : Int) + 1)) 5 c = k := by
    rw [yup_na (by decide), yup_na (by decide), yup_na (by decide), yup_eq]
  have s6 : (yup (yup (yup (yup m 5 c k) 6 c x5) 7 c w) 3 4 ((c : Int) + 1)) 6 c = x5 := by
    rw [yup_na (by decide), yup_na (by decide), yup_eq]
  have s7 : (yup (yup (yup (yup m 5 c k) 6 c x5) 7 c w) 3 4 ((c : Int) + 1)) 7 c = w := by
    rw [yup_na (by decide), yup_eq]
  refine ⟨c + 1, upf en (c + 1) (x5 + 1), ?_, ?_, upf_eq _ _ _, by omega, by omega, by omega, by omega, by omega, by omega, fun t h1 h2 => by omega, fun j hj => ?_, fun j hj => ?_, fun h0 => ⟨by omega, rfl, ?_, ?_⟩, fun t h1 h2 => ?_⟩
  · rw [yup_eq]; omega
  · rw [upf_ne (by omega)]; exact e2
  · by_cases q : j = c
    · subst q
      rw [upf_ne (by omega), upf_eq, s5, s6, s7, e3]
      exact ⟨e7, by omega, by omega, e10, hk⟩
    · rw [upf_ne (by omega), upf_ne (by omega), r5 j q, r6 j q, r7 j q]
      exact e11 j (by omega)
  · by_cases q : j = c
    · subst q
      rw [upf_eq, s6]
      by_cases q2 : ltr (tx x5)
      · rcases h4' with ⟨-, z⟩ | ⟨z, -⟩
        · exact absurd q2 z
        · exact Or.inr ⟨rfl, by omega⟩
      · exact Or.inl (fun q3 => absurd q3 q2)
    · rw [upf_ne (by omega), r6 j q]
      rcases e12 j (by omega) with q2 | ⟨q2, q3⟩
      · exact Or.inl q2
      · refine Or.inl (fun _ => Or.inr ?_)
        have h5 := (e13 q3).2.1
        rw [q2, e3, h5]
        rcases h4 with q4 | q4
        · omega
        · exact q4
  · have : c + 1 - 1 = c := by omega
    rw [this, s6]
    omega
  · rcases h4' with ⟨q, -⟩ | ⟨q, q2⟩
    · omega
    · rw [q, show x5 + 1 - 1 = x5 by omega]
      exact q2
  · rw [yup_na (by decide), yup_na (by decide), yup_na (by decide), yup_na (by decide)]
    exact e14 t h1 h2
/-- a letter more of the last word -/
theorem SpI.more {tx : Int → Int} {len x3 x4 x5 : Int} {m : yM} (h : SpI tx len x3 x4 x5 m) (hl : len ≤ 320) (hx : x5 < len) (h4 : 0 < x4) (hc : ltr (tx x5)) (w : Int) (hw : x4 + 1 ≤ 6 → w = F7 (m 7 (wr (m 3 4 - 1)).toNat) (tx x5)) : (6 < x4 + 1 → SpI tx len (x5 + 1) (x4 + 1) (x5 + 1) (yup (yup m 7 (wr (m 3 4 - 1)).toNat w) 5 (wr (m 3 4 - 1)).toNat 12)) ∧ (x4 + 1 ≤ 6 → SpI tx len (x5 + 1) (x4 + 1) (x5 + 1) (yup m 7 (wr (m 3 4 - 1)).toNat w)) := by
  obtain ⟨c, en, e1, e2, e3, e4, e5, e6, e7, e8, e9, e10, e11, e12, e13, e14⟩ := h
  obtain ⟨d1, d2, d3, d4⟩ := e13 h4
  have ec : (wr (m 3 4 - 1)).toNat = c - 1 := by rw [e1, wr_i (by omega) (by omega)]; omega
  rw [ec] at hw ⊢
  have T := e11 (c - 1) (by omega)
  rw [show c - 1 + 1 = c by omega, e3] at T
  obtain ⟨t1, t2, t3, t4, t5⟩ := T
  have L : ∀ t, m 6 (c - 1) ≤ t → t < x5 → ltr (tx t) := by
    rcases t5 with ⟨q, -⟩ | ⟨q1, q2, -⟩ | ⟨q1, q2, -⟩
    · rw [d2] at q; exact q
    · rw [d3] at q2
      unfold ltr at d4
      unfold sgn at q2
      omega
    · rw [d3] at q2
      exact absurd d4 q2
  have L2 : ∀ t, m 6 (c - 1) ≤ t → t < x5 + 1 → ltr (tx t) := fun t h1 h2 => by
    by_cases q : t = x5
    · rw [q]; exact hc
    · exact L t h1 (by omega)
  have key : ∀ (k' : Int) (m' : yM), m' 3 4 = m 3 4 → (∀ j, j ≠ c - 1 → m' 5 j = m 5 j ∧ m' 7 j = m 7 j) → (∀ j, m' 6 j = m 6 j) → (∀ j, m' 1 j = m 1 j) → TokB tx (x5 + 1) (m' 5 (c - 1)) (m 6 (c - 1)) (m' 7 (c - 1)) → SpI tx len (x5 + 1) (x4 + 1) (x5 + 1) m' := by
    intro k' m' f1 f2 f3 f4 f5
    refine ⟨c, upf en c (x5 + 1), f1.trans e1, ?_, upf_eq _ _ _, by omega, by omega, by omega, by omega, by omega, by omega, fun t h1 h2 => by omega, fun j hj => ?_, fun j hj => ?_, fun h0 => ⟨d1, rfl, ?_, ?_⟩, fun t h1 h2 => ?_⟩
    · rw [upf_ne (by omega)]; exact e2
    · by_cases q : j = c - 1
      · subst q
        rw [upf_ne (by omega), show c - 1 + 1 = c by omega, upf_eq, f3]
        exact ⟨t1, by omega, by omega, t4, f5⟩
      · rw [upf_ne (by omega), upf_ne (by omega), (f2 j q).1, (f2 j q).2, f3]
        exact e11 j hj
    · by_cases q : j = c - 1
      · exact Or.inr ⟨by omega, by omega⟩
      · rw [upf_ne (by omega), f3]
        rcases e12 j hj with q2 | ⟨q2, q3⟩
        · exact Or.inl q2
        · omega
    · rw [f3, d3]; omega
    · rw [show x5 + 1 - (x4 + 1) = x5 - x4 by omega]; exact d4
    · rw [f4]; exact e14 t h1 h2
  constructor
  · intro h6
    refine key 12 _ ?_ (fun j hj => ⟨?_, ?_⟩) (fun j => ?_) (fun j => ?_) ?_
    · rw [yup_na (by decide), yup_na (by decide)]
    · rw [yup_nk hj, yup_na (by decide)]
    · rw [yup_na (by decide), yup_nk hj]
    · rw [yup_na (by decide), yup_na (by decide)]
    · rw [yup_na (by decide), yup_na (by decide)]
    · rw [yup_eq]
      exact Or.inl ⟨L2, Or.inr ⟨by omega, rfl⟩⟩
  · intro h6
    refine key 11 _ ?_ (fun j hj => ⟨?_, ?_⟩) (fun j => ?_) (fun j => ?_) ?_
    · rw [yup_na (by decide)]
    · rw [yup_na (by decide)]
    · rw [yup_nk hj]
    · rw [yup_na (by decide)]
    · rw [yup_na (by decide)]
    · rw [yup_eq, yup_na (by decide)]
      have hK : m 5 (c - 1) = 11 ∧ m 7 (c - 1) = nE 32 (lts tx (m 6 (c - 1))) (x5 - m 6 (c - 1)).toNat := by
        rcases t5 with ⟨-, q⟩ | ⟨q1, q2, -⟩ | ⟨q1, q2, -⟩
        · rcases q with ⟨-, q1, q2⟩ | ⟨q1, q2⟩
          · rw [d2] at q2; exact ⟨q1, q2⟩
          · omega
        · rw [d3] at q2
          unfold ltr at d4
          unfold sgn at q2
          omega
        · rw [d3] at q2
          exact absurd d4 q2
      have hn := nE5 (lts_nL L) (by omega)
      refine Or.inl ⟨L2, Or.inl ⟨by omega, hK.1, ?_⟩⟩
      rw [hw h6, hK.2, F7_n hn hc, lts_succ tx _ _ (by omega)]
/-- a blank more -/
theorem SpI.blank {tx : Int → Int} {len x3 x4 x5 : Int} {m : yM} (h : SpI tx len x3 x4 x5 m) (hx : x5 < len) (hc : tx x5 = 32) : SpI tx len x3 0 (x5 + 1) m := by
  obtain ⟨c, en, e1, e2, e3, e4, e5, e6, e7, e8, e9, e10, e11, e12, e13, e14⟩ := h
  refine ⟨c, en, e1, e2, e3, by omega, by omega, by omega, by omega, by omega, by omega, fun t h1 h2 => ?_, e11, fun j hj => ?_, fun h0 => by omega, e14⟩
  · by_cases q : t = x5
    · rw [q]; exact hc
    · exact e10 t h1 (by omega)
  · rcases e12 j hj with q2 | ⟨q2, q3⟩
    · exact Or.inl q2
    · refine Or.inl (fun _ => Or.inr ?_)
      have h5 := (e13 q3).2.1
      rw [q2, e3, h5, hc]
      unfold ltr
      omega
theorem J36_80_e {f : Nat} {x2 x3 x4 x5 x6 : Int} {m : yM} {l' : Int × Int × Int} {m' : yM} (h : J36_80 f x2 x3 x4 x5 x6 m = some (.inl (l', m'))) : m' = m ∧ l' = (if x6 = 32 then x3 else wr (x5 + 1), x4, wr (x5 + 1)) := by
  unfold J36_80 J36_95 at h
  split at h
  · rename_i q
    cases h
    exact ⟨rfl, by rw [if_pos q]⟩
  · rename_i q
    cases h
    exact ⟨rfl, by rw [if_neg q]⟩
theorem J36_80_n {f : Nat} {x2 x3 x4 x5 x6 : Int} {m : yM} {r : ((Int × Int × Int) × yM) ⊕ (Unit × yM)} (h : J36_80 f x2 x3 x4 x5 x6 m = some (.inr r)) : False := by
  unfold J36_80 J36_95 at h
  split at h <;> cases h
theorem B36_s {tx : Int → Int} {len : Int} (hl : len ≤ 320) (h32 : ∀ t, 0 ≤ t → t < len → 32 ≤ tx t ∧ tx t ≤ 126) {f : Nat} {x3 x4 x5 : Int} {m : yM} (h : SpI tx len x3 x4 x5 m) {l' : Int × Int × Int} {m' : yM} (hB : B36_13 f len x3 x4 x5 m = some (.inl (l', m'))) : SpI tx len l'.1 l'.2.1 l'.2.2 m' := by
  have h0 := h
  obtain ⟨c, en, e1, e2, e3, e4, e5, e6, e7, e8, e9, e10, e11, e12, e13, e14⟩ := h0
  unfold B36_13 at hB
  rcases ite1 hB with ⟨hx, hB⟩ | ⟨-, hB⟩
  · rw [e14 x5 e4 hx] at hB
    have w5 : wr (x5 + 1) = x5 + 1 := wr_i (by omega) (by omega)
    rcases ite1 hB with ⟨hc, hB⟩ | ⟨hc, hB⟩
    · rw [F31_0] at hc
      rcases ite1 hB with ⟨hc2, hB⟩ | ⟨hc2, hB⟩
      · obtain ⟨rfl, rfl⟩ := J36_80_e hB
        simp only [if_pos hc2, w5]
        exact h.blank hx hc2
      · have hk : ∀ k, TokB tx (x5 + 1) k x5 0 → J36_75 f len x3 0 x5 (tx x5) k m = some (.inl (l', m')) → SpI tx len l'.1 l'.2.1 l'.2.2 m' := by
          intro k hk hB
          unfold J36_75 at hB
          obtain ⟨m1, h1, hB⟩ := bU_e hB
          obtain ⟨rfl, rfl⟩ := J36_80_e hB
          unfold F32 at h1
          cases h1
          simp only [if_neg hc2, w5]
          exact h.add hl hx (Or.inr hc) k 0 hk 0 (Or.inl ⟨rfl, hc⟩)
        rcases ite1 hB with ⟨hc3, hB⟩ | ⟨hc3, hB⟩
        · rw [F34_0] at hc3
          exact hk 12 (Or.inr (Or.inr ⟨rfl, hc, hc3, hc2, rfl⟩)) hB
        · rw [F34_0, Classical.not_not] at hc3
          exact hk (tx x5) (Or.inr (Or.inl ⟨rfl, hc3, rfl⟩)) hB
    · rw [F31_0, Classical.not_not] at hc
      have hc2 : tx x5 ≠ 32 := by unfold ltr at hc; omega
      obtain ⟨m1, h1, hB⟩ := bU_e hB
      obtain ⟨rfl, rfl⟩ := J36_80_e hB
      have hx4 : x4 ≤ x5 := by
        by_cases q : 0 < x4
        · obtain ⟨d1, d2, d3, d4⟩ := e13 q
          have T := e11 (c - 1) (by omega)
          have := T.1
          by_cases q2 : 0 ≤ x5 - x4
          · omega
          · have q3 : en (c - 1) ≤ m 6 (c - 1) := T.1
            have q4 : ∀ j, j ≤ c → 0 ≤ en j := by
              intro j
              induction j with
              | zero => intro _; omega
              | succ j ih =>
                intro hj
                have := e11 j (by omega)
                have := ih (by omega)
                have := (e11 j (by omega)).1
                have := (e11 j (by omega)).2.1
                omega
            have := q4 (c - 1) (by omega)
            omega
        · omega
      have w4 : wr (x4 + 1) = x4 + 1 := wr_i (by omega) (by omega)
      rw [w4] at h1
      simp only [if_neg hc2, w5, w4]
      unfold F33 at h1
      rcases ite1 h1 with ⟨q, h1⟩ | ⟨q, h1⟩
      · obtain ⟨m2, h2, h1⟩ := bU_e h1
        unfold F32 at h2
        cases h2
        unfold J33_12 at h1
        rw [if_neg (by omega)] at h1
        have ec : (m 3 4).toNat = c := by omega
        have ew : wr (m 3 4 + 1) = (c : Int) + 1 := by rw [e1]; exact wr_i (by omega) (by omega)
        have q0 : x4 = 0 := by omega
        have a1 : (wr (yup (yup (yup (yup m 5 (m 3 4).toNat 11) 6 (m 3 4).toNat x5) 7 (m 3 4).toNat 0) 3 4 (wr (m 3 4 + 1)) 3 4 - 1)).toNat = (m 3 4).toNat := by
          rw [yup_eq, ew, wr_i (by omega) (by omega), ec]
          omega
        rw [a1] at h1
        have a2 : yup (yup (yup (yup m 5 (m 3 4).toNat 11) 6 (m 3 4).toNat x5) 7 (m 3 4).toNat 0) 3 4 (wr (m 3 4 + 1)) 7 (m 3 4).toNat = 0 := by
          rw [yup_na (by decide), yup_eq]
        rw [a2] at h1
        cases h1
        have S := h.add hl hx (Or.inl q0) 11 (F7 0 (tx x5)) (Or.inl ⟨fun t t1 t2 => by rw [show t = x5 by omega]; exact hc, Or.inl ⟨by omega, rfl, ?_⟩⟩) 1 (Or.inr ⟨rfl, hc⟩)
        · rw [q0]
          have a3 : yup (yup (yup (yup (yup m 5 (m 3 4).toNat 11) 6 (m 3 4).toNat x5) 7 (m 3 4).toNat 0) 3 4 (wr (m 3 4 + 1))) 7 (m 3 4).toNat (F7 0 (tx x5)) = yup (yup (yup (yup m 5 (m 3 4).toNat 11) 6 (m 3 4).toNat x5) 7 (m 3 4).toNat (F7 0 (tx x5))) 3 4 (wr (m 3 4 + 1)) := by
            funext b j
            unfold yup
            by_cases z1 : b = 7 ∧ j = (m 3 4).toNat
            · rw [if_pos z1, if_neg (by omega), if_pos z1]
            · rw [if_neg z1, if_neg z1, if_neg z1]
          rw [a3]
          exact S
        · rw [F7_n ⟨by omega, by omega⟩ hc, show (x5 + 1 - x5).toNat = 1 by omega]
          simp only [nE, lts]
          have : x5 + ((0 : Nat) : Int) = x5 := by omega
          rw [this]
      · unfold J33_12 at h1
        have M := h.more hl hx (by omega) hc (F7 (m 7 (wr (m 3 4 - 1)).toNat) (tx x5)) (fun _ => rfl)
        rcases ite1 h1 with ⟨q2, h1⟩ | ⟨q2, h1⟩
        · cases h1
          exact M.1 q2
        · cases h1
          exact M.2 (by omega)
  · cases hB
/-! the words that are no names -/
def kw (j : Int) : Int := if j = 1 then 3540595 else if j = 2 then 6591876 else if j = 3 then 4262 else if j = 4 then 14519 else if j = 5 then 480652 else if j = 6 then 294 else if j = 7 then 176741 else if j = 8 then 24388997 else if j = 9 then 609900110 else 663859
def KW (m : yM) : Prop := ∀ j : Int, 1 ≤ j → j ≤ 10 → m 4 j.toNat = kw j
theorem kw_inj {i j : Int} (hi : 1 ≤ i ∧ i ≤ 10) (hj : 1 ≤ j ∧ j ≤ 10) (h : kw i = kw j) : i = j := by
  have : ∀ a : Fin 10, ∀ b : Fin 10, kw ((a : Nat) + 1 : Int) = kw ((b : Nat) + 1 : Int) → a = b := by decide +kernel
  have h2 := this ⟨(i - 1).toNat, by omega⟩ ⟨(j - 1).toNat, by omega⟩ (by
    have e1 : (((i - 1).toNat : Nat) : Int) + 1 = i := by omega
    have e2 : (((j - 1).toNat : Nat) : Int) + 1 = j := by omega
    simp only [e1, e2]
    exact h)
  have h3 := congrArg Fin.val h2
  simp only at h3
  omega
/-- the kind of a word -/
def KdB (k w : Int) : Prop := 1 ≤ k ∧ k ≤ 11 ∧ ∀ j : Int, 1 ≤ j → j ≤ 10 → (k = j ↔ w = kw j)
/-- what tellWords does to a kind -/
def KdT (k k' w : Int) : Prop := (k ≠ 11 ∧ k' = k) ∨ (k = 11 ∧ KdB k' w)
theorem B35_12_r {f : Nat} {x1 : Int} {m0 : yM} (h0 : 0 ≤ x1) (hK : KW m0) (h11 : m0 5 x1.toNat = 11) {g : Nat} {r : (Int × yM) ⊕ (Unit × yM)} (h : yloop (fun (l : Int) m => B35_12 f x1 l m) g 1 m0 = some r) : ∃ k l, r = .inl (l, yup m0 5 x1.toNat k) ∧ KdB k (m0 7 x1.toNat) := by
  obtain ⟨l', m', hI, hB⟩ := yloop_inv (fun (l : Int) m => 1 ≤ l ∧ l ≤ 11 ∧ ((m = m0 ∧ ∀ j : Int, 1 ≤ j → j < l → m0 7 x1.toNat ≠ kw j) ∨ (∃ k, 1 ≤ k ∧ k ≤ 10 ∧ m = yup m0 5 x1.toNat k ∧ m0 7 x1.toNat = kw k))) (fun l m l' m' hI hB => by
    obtain ⟨i1, i2, hI⟩ := hI
    simp only [B35_12, J35_54] at hB
    rcases ite1 hB with ⟨hx, hB⟩ | ⟨-, hB⟩
    · have w1 : wr (l + 1) = l + 1 := wr_i (by omega) (by omega)
      rcases hI with ⟨rfl, hI⟩ | ⟨k, k1, k2, rfl, k3⟩
      · rw [if_pos h11] at hB
        rw [hK l i1 (by omega)] at hB
        rcases ite1 hB with ⟨hc, hB⟩ | ⟨hc, hB⟩
        · cases hB
          exact ⟨by omega, by omega, Or.inr ⟨l, i1, by omega, rfl, hc.symm⟩⟩
        · cases hB
          refine ⟨by omega, by omega, Or.inl ⟨rfl, fun j j1 j2 => ?_⟩⟩
          by_cases q : j = l
          · rw [q]; exact fun e => hc e.symm
          · exact hI j j1 (by omega)
      · rw [yup_eq, if_neg (by omega)] at hB
        cases hB
    · cases hB) g 1 m0 r ⟨by omega, by omega, Or.inl ⟨rfl, fun j j1 j2 => by omega⟩⟩ h
  obtain ⟨i1, i2, hI⟩ := hI
  simp only [B35_12, J35_54] at hB
  rcases hI with ⟨rfl, hI⟩ | ⟨k, k1, k2, rfl, k3⟩
  · rcases ite1 hB with ⟨hx, hB⟩ | ⟨hx, hB⟩
    · rw [if_pos h11] at hB
      rcases ite1 hB with ⟨-, hB⟩ | ⟨-, hB⟩ <;> cases hB
    · cases hB
      refine ⟨11, l', ?_, by omega, by omega, fun j j1 j2 => ⟨fun e => by omega, fun e => absurd e (hI j j1 (by omega))⟩⟩
      congr 2
      funext b j
      unfold yup
      split
      · rename_i q
        rw [q.1, q.2, h11]
      · rfl
  · have : r = .inl (l', yup m0 5 x1.toNat k) := by
      rcases ite1 hB with ⟨hx, hB⟩ | ⟨hx, hB⟩
      · rw [yup_eq, if_neg (by omega)] at hB
        cases hB
        rfl
      · cases hB
        rfl
    refine ⟨k, l', this, by omega, by omega, fun j j1 j2 => ⟨fun e => by rw [← e]; exact k3, fun e => kw_inj (by omega) (by omega) (by rw [← k3, e])⟩⟩
theorem B35_12_n {f : Nat} {x1 : Int} {m0 : yM} (h11 : m0 5 x1.toNat ≠ 11) {g : Nat} {r : (Int × yM) ⊕ (Unit × yM)} (h : yloop (fun (l : Int) m => B35_12 f x1 l m) g 1 m0 = some r) : r = .inl (1, m0) := by
  cases g with
  | zero => cases h
  | succ g =>
    simp only [yloop, B35_12] at h
    rw [if_pos (by decide), if_neg h11] at h
    cases h
    rfl
theorem F35_r {f : Nat} {m m' : yM} {n : Nat} (hn : m 3 4 = n) (hn2 : n ≤ 321) (hK : KW m) (h : F35 f m = some m') : (∀ j, j < n → KdT (m 5 j) (m' 5 j) (m 7 j)) ∧ (∀ a q, a ≠ 5 → m' a q = m a q) ∧ (∀ j, n ≤ j → m' 5 j = m 5 j) := by
  unfold F35 at h
  have key : ∀ {r : (Int × yM) ⊕ (Unit × yM)}, yloop (fun (l : Int) m => B35_2 f l m) f 0 m = some r → ∃ l m1, r = .inl (l, m1) ∧ (∀ j, j < n → KdT (m 5 j) (m1 5 j) (m 7 j)) ∧ (∀ a q, a ≠ 5 → m1 a q = m a q) ∧ (∀ j, n ≤ j → m1 5 j = m 5 j) := by
    intro r h
    obtain ⟨l', m1, hI, hB⟩ := yloop_inv (fun (l : Int) m1 => 0 ≤ l ∧ l ≤ n ∧ (∀ j : Nat, (j : Int) < l → KdT (m 5 j) (m1 5 j) (m 7 j)) ∧ (∀ a q, a ≠ 5 → m1 a q = m a q) ∧ (∀ j : Nat, l ≤ j → m1 5 j = m 5 j)) (fun l m1 l' m2 hI hB => by
      obtain ⟨i1, i2, i3, i4, i5⟩ := hI
      simp only [B35_2] at hB
      rcases ite1 hB with ⟨hx, hB⟩ | ⟨-, hB⟩
      · rw [i4 3 4 (by decide), hn] at hx
        have hK1 : KW m1 := fun j j1 j2 => by rw [i4 4 _ (by decide)]; exact hK j j1 j2
        have e5 : m1 5 l.toNat = m 5 l.toNat := i5 l.toNat (by omega)
        have e7 : m1 7 l.toNat = m 7 l.toNat := i4 7 l.toNat (by decide)
        have w1 : wr (l + 1) = l + 1 := wr_i (by omega) (by omega)
        rcases bL_e hB with ⟨l2, m3, h1, hB⟩ | ⟨r2, m3, h1, hB⟩
        · simp only [J35_60] at hB
          cases hB
          rw [w1]
          by_cases q : m1 5 l.toNat = 11
          · obtain ⟨k, l3, hr, hk⟩ := B35_12_r i1 hK1 q h1
            cases hr
            refine ⟨by omega, by omega, fun j hj => ?_, fun a q ha => ?_, fun j hj => ?_⟩
            · by_cases z : j = l.toNat
              · rw [z, yup_eq]
                exact Or.inr ⟨by rw [← e5]; exact q, by rw [← e7]; exact hk⟩
              · rw [yup_nk z]
                exact i3 j (by omega)
            · rw [yup_na ha]
              exact i4 a q ha
            · rw [yup_nk (by omega)]
              exact i5 j (by omega)
          · have hr := B35_12_n q h1
            cases hr
            refine ⟨by omega, by omega, fun j hj => ?_, i4, fun j hj => i5 j (by omega)⟩
            by_cases z : j = l.toNat
            · rw [z, e5]
              exact Or.inl ⟨by rw [← e5]; exact q, rfl⟩
            · exact i3 j (by omega)
        · simp at hB
      · cases hB) f 0 m r ⟨by omega, by omega, fun j hj => by omega, fun a q _ => rfl, fun j _ => rfl⟩ h
    obtain ⟨i1, i2, i3, i4, i5⟩ := hI
    simp only [B35_2] at hB
    rcases ite1 hB with ⟨hx, hB⟩ | ⟨hx, hB⟩
    · exfalso
      rcases bL_e hB with ⟨l2, m3, h1, hB⟩ | ⟨r2, m3, h1, hB⟩
      · simp only [J35_60] at hB
        cases hB
      · have hK1 : KW m1 := fun j j1 j2 => by rw [i4 4 _ (by decide)]; exact hK j j1 j2
        by_cases q : m1 5 l'.toNat = 11
        · obtain ⟨k, l3, hr, hk⟩ := B35_12_r i1 hK1 q h1
          cases hr
        · have hr := B35_12_n q h1
          cases hr
    · rw [i4 3 4 (by decide), hn] at hx
      cases hB
      exact ⟨l', m1, rfl, fun j hj => i3 j (by omega), i4, fun j hj => i5 j (by omega)⟩
  rcases bL_e h with ⟨l, m1, h1, h2⟩ | ⟨r, m1, h1, h2⟩
  · obtain ⟨l2, m2, hr, k⟩ := key h1
    cases hr
    cases h2
    exact k
  · obtain ⟨l2, m2, hr, k⟩ := key h1
    cases hr
end
section
/-! TOKENS: what the class has split, and how the model comes to the same ones -/
def TokG (tx : Int → Int) (e k p w : Int) : Prop :=
  ((∀ t, p ≤ t → t < e → ltr (tx t)) ∧ ((e - p ≤ 6 ∧ w = nE 32 (lts tx p) (e - p).toNat ∧ KdB k w) ∨ (6 < e - p ∧ k = 12))) ∨ (e = p + 1 ∧ sgn (tx p) ∧ k = tx p) ∨ (e = p + 1 ∧ ¬ ltr (tx p) ∧ ¬ sgn (tx p) ∧ tx p ≠ 32 ∧ k = 12)
def TokF (tx : Int → Int) (len a e k p w : Int) : Prop :=
  a ≤ p ∧ p < e ∧ e ≤ len ∧ (∀ t, a ≤ t → t < p → tx t = 32) ∧ WMax tx len e p ∧ TokG tx e k p w
def TOK (tx : Int → Int) (len : Int) (n : Nat) (en tk tp tn : Nat → Int) : Prop :=
  en 0 = 0 ∧ (∀ j, j < n → TokF tx len (en j) (en (j + 1)) (tk j) (tp j) (tn j)) ∧ tk n = 0 ∧ tp n = en n ∧ 0 ≤ en n ∧ en n ≤ len ∧ (∀ t, en n ≤ t → t < len → tx t = 32) ∧ (n : Int) ≤ len
theorem B36_f {f : Nat} {x2 x3 x4 x5 : Int} {m : yM} {l' : Int × Int × Int} {m' : yM} (hB : B36_13 f x2 x3 x4 x5 m = some (.inl (l', m'))) : ∀ a q, a ≠ 3 → a ≠ 5 → a ≠ 6 → a ≠ 7 → m' a q = m a q := by
  intro a q h3 h5 h6 h7
  unfold B36_13 at hB
  rcases ite1 hB with ⟨-, hB⟩ | ⟨-, hB⟩
  · rcases ite1 hB with ⟨-, hB⟩ | ⟨-, hB⟩
    · rcases ite1 hB with ⟨-, hB⟩ | ⟨-, hB⟩
      · obtain ⟨rfl, -⟩ := J36_80_e hB
        rfl
      · have key : ∀ k, J36_75 f x2 x3 0 x5 (m 1 x5.toNat) k m = some (.inl (l', m')) → m' a q = m a q := by
          intro k hB
          unfold J36_75 at hB
          obtain ⟨m1, h1, hB⟩ := bU_e hB
          obtain ⟨rfl, -⟩ := J36_80_e hB
          unfold F32 at h1
          cases h1
          rw [yup_na h3, yup_na h7, yup_na h6, yup_na h5]
        rcases ite1 hB with ⟨-, hB⟩ | ⟨-, hB⟩
        · exact key _ hB
        · exact key _ hB
    · obtain ⟨m1, h1, hB⟩ := bU_e hB
      obtain ⟨rfl, -⟩ := J36_80_e hB
      unfold F33 at h1
      have key : ∀ {m0 m1 : yM}, J33_12 f (m 1 x5.toNat) (wr (x4 + 1)) m0 = some m1 → m1 a q = m0 a q := by
        intro m0 m1 h
        unfold J33_12 at h
        rcases ite1 h with ⟨-, h⟩ | ⟨-, h⟩
        · cases h
          rw [yup_na h5, yup_na h7]
        · cases h
          rw [yup_na h7]
      rcases ite1 h1 with ⟨-, h1⟩ | ⟨-, h1⟩
      · obtain ⟨m2, h2, h1⟩ := bU_e h1
        rw [key h1]
        unfold F32 at h2
        cases h2
        rw [yup_na h3, yup_na h7, yup_na h6, yup_na h5]
      · exact key h1
  · cases hB
theorem B36_x {f : Nat} {x2 x3 x4 x5 : Int} {m : yM} {r : ((Int × Int × Int) × yM) ⊕ (Unit × yM)} (hB : B36_13 f x2 x3 x4 x5 m = some (.inr r)) : ¬ x5 < x2 ∧ r = .inl ((x3, x4, x5), m) := by
  unfold B36_13 at hB
  rcases ite1 hB with ⟨-, hB⟩ | ⟨h, hB⟩
  · exfalso
    rcases ite1 hB with ⟨-, hB⟩ | ⟨-, hB⟩
    · rcases ite1 hB with ⟨-, hB⟩ | ⟨-, hB⟩
      · exact J36_80_n hB
      · rcases ite1 hB with ⟨-, hB⟩ | ⟨-, hB⟩
        · unfold J36_75 at hB
          obtain ⟨m1, h1, hB⟩ := bU_e hB
          exact J36_80_n hB
        · unfold J36_75 at hB
          obtain ⟨m1, h1, hB⟩ := bU_e hB
          exact J36_80_n hB
    · obtain ⟨m1, h1, hB⟩ := bU_e hB
      exact J36_80_n hB
  · cases hB
    exact ⟨h, rfl⟩
theorem F36_r {f : Nat} {len : Int} {m m' : yM} (h0 : 0 ≤ len) (hl : len ≤ 320) (h32 : ∀ t, 0 ≤ t → t < len → 32 ≤ m 1 t.toNat ∧ m 1 t.toNat ≤ 126) (hK : KW m) (h : F36 f len m = some m') : (∃ n en, TOK (fun t => m 1 t.toNat) len n en (m' 5) (m' 6) (m' 7)) ∧ (∀ a q, a ≠ 3 → a ≠ 5 → a ≠ 6 → a ≠ 7 → m' a q = m a q) := by
  unfold F36 at h
  have key : ∀ {r : ((Int × Int × Int) × yM) ⊕ (Unit × yM)}, yloop (fun (l : Int × Int × Int) m => B36_13 f len l.1 l.2.1 l.2.2 m) f (0, 0, 0) (yup m 3 4 0) = some r → ∃ l m1, r = .inl (l, m1) ∧ SpI (fun t => m 1 t.toNat) len l.1 l.2.1 len m1 ∧ (∀ a q, a ≠ 3 → a ≠ 5 → a ≠ 6 → a ≠ 7 → m1 a q = m a q) := by
    intro r h
    obtain ⟨l', m1, hI, hB⟩ := yloop_inv (fun (l : Int × Int × Int) m1 => SpI (fun t => m 1 t.toNat) len l.1 l.2.1 l.2.2 m1 ∧ (∀ a q, a ≠ 3 → a ≠ 5 → a ≠ 6 → a ≠ 7 → m1 a q = m a q)) (fun l m1 l' m2 hI hB => ⟨B36_s hl h32 hI.1 hB, fun a q h3 h5 h6 h7 => (B36_f hB a q h3 h5 h6 h7).trans (hI.2 a q h3 h5 h6 h7)⟩) f (0, 0, 0) _ r ⟨⟨0, fun _ => 0, yup_eq _ _ _ _, rfl, rfl, Int.le_refl _, h0, Int.le_refl _, Int.le_refl _, Int.le_refl _, Int.le_refl _, fun t h1 h2 => by have h1 : (0 : Int) ≤ t := h1; have h2 : t < (0 : Int) := h2; omega, fun j hj => by omega, fun j hj => by omega, fun q => by have q : (0 : Int) < 0 := q; omega, fun t h1 h2 => yup_na (by decide)⟩, fun a q h3 _ _ _ => yup_na h3⟩ h
    obtain ⟨hx, hr⟩ := B36_x hB
    have e5 : l'.2.2 = len := by
      obtain ⟨c, en, e1, e2, e3, e4, e5, -⟩ := hI.1
      omega
    refine ⟨_, m1, hr, ?_, hI.2⟩
    have := hI.1
    rw [e5] at this
    exact this
  rcases bL_e h with ⟨l, m1, h1, h⟩ | ⟨r, m1, h1, h⟩
  · obtain ⟨l2, m2, hr, hS, hF⟩ := key h1
    cases hr
    obtain ⟨m3, h3, h⟩ := bU_e h
    obtain ⟨m4, h4, h⟩ := bU_e h
    cases h
    unfold F32 at h3
    cases h3
    obtain ⟨c, en, e1, e2, e3, e4, e5, e6, e7, e8, e9, e10, e11, e12, e13, e14⟩ := hS
    have ec : (m1 3 4).toNat = c := by omega
    have ew : wr (m1 3 4 + 1) = (c : Int) + 1 := by rw [e1]; exact wr_i (by omega) (by omega)
    rw [ec, ew] at h4
    have hK2 : KW (yup (yup (yup (yup m1 5 c 0) 6 c l.1) 7 c 0) 3 4 ((c : Int) + 1)) := fun j j1 j2 => by
      rw [yup_na (by decide), yup_na (by decide), yup_na (by decide), yup_na (by decide), hF 4 _ (by decide) (by decide) (by decide) (by decide)]
      exact hK j j1 j2
    obtain ⟨k1, k2, k3⟩ := F35_r (n := c + 1) (by rw [yup_eq]; omega) (by omega) hK2 h4
    have r5 : ∀ j, j ≠ c → yup (yup (yup (yup m1 5 c 0) 6 c l.1) 7 c 0) 3 4 ((c : Int) + 1) 5 j = m1 5 j := fun j hj => by
      rw [yup_na (by decide), yup_na (by decide), yup_na (by decide), yup_nk hj]
    have r6 : ∀ j, j ≠ c → m' 6 j = m1 6 j := fun j hj => by
      rw [k2 6 j (by decide), yup_na (by decide), yup_na (by decide), yup_nk hj, yup_na (by decide)]
    have r7 : ∀ j, j ≠ c → m' 7 j = m1 7 j := fun j hj => by
      rw [k2 7 j (by decide), yup_na (by decide), yup_nk hj, yup_na (by decide), yup_na (by decide)]
    have q7 : ∀ j, j ≠ c → yup (yup (yup (yup m1 5 c 0) 6 c l.1) 7 c 0) 3 4 ((c : Int) + 1) 7 j = m1 7 j := fun j hj => by
      rw [yup_na (by decide), yup_nk hj, yup_na (by decide), yup_na (by decide)]
    refine ⟨⟨c, en, e2, fun j hj => ?_, ?_, ?_, by omega, by omega, ?_, e9⟩, fun a q h3 h5 h6 h7 => ?_⟩
    · obtain ⟨t1, t2, t3, t4, t5⟩ := e11 j hj
      have K := k1 j (by omega)
      rw [r5 j (by omega), q7 j (by omega)] at K
      rw [r6 j (by omega), r7 j (by omega)]
      refine ⟨t1, t2, t3, t4, ?_, ?_⟩
      · rcases e12 j hj with q | ⟨q, q2⟩
        · exact q
        · intro _
          left
          rw [q, e3]
          exact (e13 q2).2.1
      · rcases t5 with ⟨q, q2⟩ | ⟨q1, q2, q3⟩ | ⟨q1, q2, q3, q4, q5⟩
        · refine Or.inl ⟨q, ?_⟩
          rcases q2 with ⟨q3, q4, q5⟩ | ⟨q3, q4⟩
          · rcases K with ⟨z, -⟩ | ⟨-, z⟩
            · exact absurd q4 z
            · exact Or.inl ⟨q3, q5, z⟩
          · rcases K with ⟨-, z⟩ | ⟨z, -⟩
            · exact Or.inr ⟨q3, by rw [z]; exact q4⟩
            · omega
        · rcases K with ⟨-, z⟩ | ⟨z, -⟩
          · exact Or.inr (Or.inl ⟨q1, q2, by rw [z]; exact q3⟩)
          · rw [q3] at z
            unfold sgn at q2
            omega
        · rcases K with ⟨-, z⟩ | ⟨z, -⟩
          · exact Or.inr (Or.inr ⟨q1, q2, q3, q4, by rw [z]; exact q5⟩)
          · omega
    · have K := k1 c (by omega)
      have z0 : yup (yup (yup (yup m1 5 c 0) 6 c l.1) 7 c 0) 3 4 ((c : Int) + 1) 5 c = 0 := by
        rw [yup_na (by decide), yup_na (by decide), yup_na (by decide), yup_eq]
      rw [z0] at K
      rcases K with ⟨-, z⟩ | ⟨z, -⟩
      · exact z
      · omega
    · rw [k2 6 c (by decide), yup_na (by decide), yup_na (by decide), yup_eq, e3]
    · rw [e3]
      exact e10
    · rw [k2 a q h5, yup_na h3, yup_na h7, yup_na h6, yup_na h5]
      exact hF a q h3 h5 h6 h7
  · obtain ⟨l2, m2, hr, -⟩ := key h1
    cases hr
/-- the model's token is the class's: kind and name against kind and token -/
def Lk (k w kd tok : Int) : Prop := (KdB k w ∧ kd = 1 ∧ Nm w tok) ∨ (k = 12 ∧ kd = 3) ∨ (sgn k ∧ kd = 2 ∧ tok = k)
theorem TOK.mono {tx : Int → Int} {len : Int} {n : Nat} {en tk tp tn : Nat → Int} (h : TOK tx len n en tk tp tn) : ∀ j, j ≤ n → 0 ≤ en j ∧ en j ≤ len := by
  obtain ⟨h1, h2, h3, h4, h5, h6, h7, h8⟩ := h
  intro j
  induction j with
  | zero => intro _; omega
  | succ j ih =>
    intro hj
    have := h2 j (by omega)
    have := ih (by omega)
    have := (h2 j (by omega)).1
    have := (h2 j (by omega)).2.1
    have := (h2 j (by omega)).2.2.1
    omega
theorem B99_13_r {f g : Nat} {tx : Int → Int} {len a p : Int} {m0 : yM} (h1 : m0 376 1 = len) (hl : len ≤ 320) (ht : ∀ t, 0 ≤ t → t < len → m0 377 t.toNat = tx t) (ha : 0 ≤ a) (hap : a ≤ p) (hp : p ≤ len) (hb : ∀ t, a ≤ t → t < p → tx t = 32) (hn : p = len ∨ tx p ≠ 32) {r : (Int × yM) ⊕ (Unit × yM)} (h : yloop (fun (l : Int) m => B99_13 f l m) g a m0 = some r) : r = .inl (p, m0) := by
  obtain ⟨l', m1, hI, hB⟩ := yloop_inv (fun (l : Int) m1 => m1 = m0 ∧ a ≤ l ∧ l ≤ p) (fun l m1 l' m2 hI hB => by
    obtain ⟨rfl, i1, i2⟩ := hI
    simp only [B99_13] at hB
    rcases ite1 hB with ⟨hx, hB⟩ | ⟨-, hB⟩
    · rw [h1] at hx
      rcases ite1 hB with ⟨hc, hB⟩ | ⟨-, hB⟩
      · rw [ht l (by omega) hx] at hc
        cases hB
        rw [wr_i (by omega) (by omega)]
        refine ⟨rfl, by omega, ?_⟩
        by_cases q : l = p
        · rw [q] at hc hx
          rcases hn with z | z
          · omega
          · exact absurd hc z
        · omega
      · cases hB
    · cases hB) g a m0 r ⟨rfl, by omega, by omega⟩ h
  obtain ⟨rfl, i1, i2⟩ := hI
  simp only [B99_13] at hB
  rcases ite1 hB with ⟨hx, hB⟩ | ⟨hx, hB⟩
  · rw [h1] at hx
    rcases ite1 hB with ⟨hc, hB⟩ | ⟨hc, hB⟩
    · cases hB
    · rw [ht l' (by omega) hx] at hc
      cases hB
      have : l' = p := by
        by_cases q : l' = p
        · exact q
        · exact absurd (hb l' i1 (by omega)) hc
      rw [this]
  · rw [h1] at hx
    cases hB
    have : l' = p := by omega
    rw [this]
theorem nE27_succ (tx : Int → Int) (p e : Int) (hp : p ≤ e) : nE 27 (lts tx p) (e + 1 - p).toNat = 27 * nE 27 (lts tx p) (e - p).toNat + (tx e - 96) := by
  have h1 : (e + 1 - p).toNat = (e - p).toNat + 1 := by omega
  rw [h1]
  simp only [nE]
  congr 1
  unfold lts
  congr 2
  omega
theorem nE27_5 {s : Nat → Int} {k : Nat} (h : nL s k) (hk : k ≤ 5) : 0 ≤ nE 27 s k ∧ nE 27 s k < 14348907 := by
  have h1 := (nE_pos (b := 27) (by decide) h).1
  have h2 := nE_le (b := 27) (by decide) h
  have h3 : (27 : Int) ^ k ≤ 27 ^ 5 := by
    rcases (show k = 0 ∨ k = 1 ∨ k = 2 ∨ k = 3 ∨ k = 4 ∨ k = 5 by omega) with rfl | rfl | rfl | rfl | rfl | rfl <;> decide
  have h4 : (27 : Int) ^ 5 = 14348907 := by decide
  omega
theorem B99_107_r {f g : Nat} {tx : Int → Int} {len e p : Int} {m0 : yM} (h1 : m0 376 1 = len) (hl : len ≤ 320) (ht : ∀ t, 0 ≤ t → t < len → m0 377 t.toNat = tx t) (hp : 0 ≤ p) (hpe : p < e) (he : e ≤ len) (hL : ∀ t, p ≤ t → t < e → ltr (tx t)) (hM : e = len ∨ ¬ ltr (tx e)) (h4 : m0 376 4 = 0) {r : ((Int × Int) × yM) ⊕ (Unit × yM)} (h : yloop (fun (l : Int × Int) m => B99_107 f l.1 l.2 m) g (p, 0) m0 = some r) : ∃ tok, r = .inl ((e, e - p), yup m0 376 4 tok) ∧ (e - p ≤ 6 → tok = nE 27 (lts tx p) (e - p).toNat) := by
  have hid : m0 = yup m0 376 4 0 := by
    funext b j
    unfold yup
    split
    · rename_i q
      rw [q.1, q.2, h4]
    · rfl
  have yy : ∀ u v, yup (yup m0 376 4 u) 376 4 v = yup m0 376 4 v := fun u v => by
    funext b j
    unfold yup
    split <;> rfl
  obtain ⟨l', m1, hI, hB⟩ := yloop_inv (fun (l : Int × Int) m1 => p ≤ l.1 ∧ l.1 ≤ e ∧ l.2 = l.1 - p ∧ ∃ tok, m1 = yup m0 376 4 tok ∧ (l.1 - p ≤ 6 → tok = nE 27 (lts tx p) (l.1 - p).toNat)) (fun l m1 l' m2 hI hB => by
    obtain ⟨i1, i2, i3, tok, rfl, i4⟩ := hI
    simp only [B99_107, J99_156] at hB
    rw [show yup m0 376 4 tok 376 1 = len from (yup_nk (by decide)).trans h1] at hB
    rcases ite1 hB with ⟨hx, hB⟩ | ⟨-, hB⟩
    · rw [show yup m0 376 4 tok 377 l.1.toNat = tx l.1 from (yup_na (by decide)).trans (ht l.1 (by omega) hx)] at hB
      rcases ite1 hB with ⟨-, hB⟩ | ⟨hc, hB⟩
      · cases hB
      · rw [F98_0, Classical.not_not] at hc
        have hlt : l.1 < e := by
          by_cases q : l.1 = e
          · rw [q] at hc hx
            rcases hM with z | z
            · omega
            · exact absurd hc z
          · omega
        have w1 : wr (l.1 + 1) = l.1 + 1 := wr_i (by omega) (by omega)
        have w2 : wr (l.2 + 1) = l.2 + 1 := wr_i (by omega) (by omega)
        rw [w1, w2] at hB
        have hc2 := hc
        unfold ltr at hc2
        rcases ite1 hB with ⟨h6, hB⟩ | ⟨h6, hB⟩
        · have hn := nE27_5 (lts_nL (tx := tx) (p := p) (e := l.1) (fun t t1 t2 => hL t t1 (by omega))) (by omega)
          have e4 := i4 (by omega)
          rw [show yup m0 376 4 tok 376 4 = tok from yup_eq _ _ _ _, e4, wr_i (x := 27 * nE 27 (lts tx p) (l.1 - p).toNat) (by omega) (by omega), wr_i (x := 27 * nE 27 (lts tx p) (l.1 - p).toNat + tx l.1) (by omega) (by omega), wr_i (x := 27 * nE 27 (lts tx p) (l.1 - p).toNat + tx l.1 - 97) (by omega) (by omega), wr_i (by omega) (by omega), yy] at hB
          cases hB
          refine ⟨by omega, by omega, by omega, _, rfl, fun _ => ?_⟩
          rw [nE27_succ tx p l.1 i1]
          omega
        · cases hB
          exact ⟨by omega, by omega, by omega, tok, rfl, fun q => by omega⟩
    · cases hB) g (p, 0) m0 r ⟨Int.le_refl _, by omega, by omega, 0, hid, fun _ => by simp [nE]⟩ h
  obtain ⟨i1, i2, i3, tok, rfl, i4⟩ := hI
  have fin : r = .inl (l', yup m0 376 4 tok) ∧ l'.1 = e := by
    simp only [B99_107, J99_156] at hB
    rw [show yup m0 376 4 tok 376 1 = len from (yup_nk (by decide)).trans h1] at hB
    rcases ite1 hB with ⟨hx, hB⟩ | ⟨hx, hB⟩
    · rw [show yup m0 376 4 tok 377 l'.1.toNat = tx l'.1 from (yup_na (by decide)).trans (ht l'.1 (by omega) hx)] at hB
      rcases ite1 hB with ⟨hc, hB⟩ | ⟨hc, hB⟩
      · rw [F98_0] at hc
        cases hB
        refine ⟨rfl, ?_⟩
        by_cases q : l'.1 = e
        · exact q
        · exact absurd (hL l'.1 i1 (by omega)) hc
      · rcases ite1 hB with ⟨-, hB⟩ | ⟨-, hB⟩ <;> cases hB
    · cases hB
      exact ⟨rfl, by omega⟩
  refine ⟨tok, ?_, ?_⟩
  · rw [fin.1]
    have : l' = (e, e - p) := by
      apply Prod.ext
      · exact fin.2
      · rw [i3, fin.2]
    rw [this]
  · rw [← fin.2]
    exact i4
theorem F99_r {f : Nat} {tx : Int → Int} {len : Int} {n : Nat} {en tk tp tn : Nat → Int} (T : TOK tx len n en tk tp tn) (hl : len ≤ 320) {m m' : yM} (h1 : m 376 1 = len) (ht : ∀ t, 0 ≤ t → t < len → m 377 t.toNat = tx t) {i : Nat} (hi : i ≤ n) (h6 : m 376 6 = en i) (h : F99 f m = some m') : (∀ a q, ¬ (a = 376 ∧ 3 ≤ q ∧ q ≤ 7) → m' a q = m a q) ∧ ((i = n ∧ m' 376 3 = 0 ∧ m' 376 7 = tp n ∧ m' 376 6 = en n) ∨ (i < n ∧ m' 376 5 = tp i ∧ m' 376 6 = en (i + 1) ∧ Lk (tk i) (tn i) (m' 376 3) (m' 376 4))) := by
  have M := T.mono
  obtain ⟨T1, T2, T3, T4, T5, T6, T7, T8⟩ := T
  unfold F99 at h
  rw [h6] at h
  have g1 : yup m 376 7 (en i) 376 1 = len := (yup_nk (by decide)).trans h1
  have gt : ∀ t, 0 ≤ t → t < len → yup m 376 7 (en i) 377 t.toNat = tx t := fun t t1 t2 => (yup_na (by decide)).trans (ht t t1 t2)
  by_cases q : i = n
  · subst q
    have L : ∀ {r : (Int × yM) ⊕ (Unit × yM)}, yloop (fun (l : Int) m => B99_13 f l m) f (en i) (yup m 376 7 (en i)) = some r → r = .inl (len, yup m 376 7 (en i)) := fun hh => B99_13_r g1 hl gt (by omega) (by omega) (by omega) T7 (Or.inl rfl) hh
    rcases bL_e h with ⟨l, m1, hh, h⟩ | ⟨r, m1, hh, h⟩
    · have e := L hh
      cases e
      simp only [J99_38] at h
      rw [if_pos g1.symm] at h
      cases h
      refine ⟨fun a q hq => ?_, Or.inl ⟨rfl, yup_eq _ _ _ _, ?_, ?_⟩⟩
      · rw [yup_ne (by omega), yup_ne (by omega), yup_ne (by omega)]
      · rw [yup_nk (by decide), yup_nk (by decide), yup_eq, T4]
      · rw [yup_nk (by decide), yup_nk (by decide), yup_nk (by decide), h6]
    · have e := L hh
      cases e
  · have hlt : i < n := by omega
    obtain ⟨t1, t2, t3, t4, t5, t6⟩ := T2 i hlt
    have m0 := M i hi
    have hp0 : 0 ≤ tp i := by omega
    have hne : tx (tp i) ≠ 32 := by
      rcases t6 with ⟨z, -⟩ | ⟨-, z, -⟩ | ⟨-, -, -, z, -⟩
      · have := z (tp i) (by omega) (by omega)
        unfold ltr at this
        omega
      · unfold sgn at z
        omega
      · exact z
    have L : ∀ {r : (Int × yM) ⊕ (Unit × yM)}, yloop (fun (l : Int) m => B99_13 f l m) f (en i) (yup m 376 7 (en i)) = some r → r = .inl (tp i, yup m 376 7 (en i)) := fun hh => B99_13_r g1 hl gt (by omega) (by omega) (by omega) t4 (Or.inr hne) hh
    rcases bL_e h with ⟨l, m1, hh, h⟩ | ⟨r, m1, hh, h⟩
    · have e := L hh
      cases e
      simp only [J99_38] at h
      rw [if_neg (by rw [g1]; omega), gt (tp i) hp0 (by omega)] at h
      have w1 : wr (tp i + 1) = tp i + 1 := wr_i (by omega) (by omega)
      have key : ∀ kd, (kd = 3 ∧ ¬ sgn (tx (tp i))) ∨ (kd = 2 ∧ sgn (tx (tp i))) → J99_77 f (tp i) (tx (tp i)) kd (yup (yup m 376 7 (en i)) 376 5 (tp i)) = some m' → (∀ a q, ¬ (a = 376 ∧ 3 ≤ q ∧ q ≤ 7) → m' a q = m a q) ∧ (i < n ∧ m' 376 5 = tp i ∧ m' 376 6 = en (i + 1) ∧ Lk (tk i) (tn i) (m' 376 3) (m' 376 4)) := by
        intro kd hkd h
        unfold J99_77 at h
        rw [w1] at h
        rcases ite1 h with ⟨hc, h⟩ | ⟨hc, h⟩
        · rw [F98_0] at hc
          cases h
          refine ⟨fun a q hq => ?_, hlt, ?_, ?_, ?_⟩
          · rw [yup_ne (by omega), yup_ne (by omega), yup_ne (by omega), yup_ne (by omega), yup_ne (by omega)]
          · rw [yup_nk (by decide), yup_nk (by decide), yup_nk (by decide), yup_eq]
          · rw [yup_eq]
            rcases t6 with ⟨z, -⟩ | ⟨z, -⟩ | ⟨z, -⟩
            · exact absurd (z (tp i) (by omega) (by omega)) hc
            · exact z.symm
            · exact z.symm
          · rw [yup_nk (by decide), yup_nk (by decide), yup_eq, yup_nk (by decide), yup_eq]
            rcases t6 with ⟨z, -⟩ | ⟨-, z2, z3⟩ | ⟨-, -, z2, -, z3⟩
            · exact absurd (z (tp i) (by omega) (by omega)) hc
            · rcases hkd with ⟨k1, k2⟩ | ⟨k1, -⟩
              · exact absurd z2 k2
              · exact Or.inr (Or.inr ⟨by rw [z3]; exact z2, k1, z3.symm⟩)
            · rcases hkd with ⟨k1, -⟩ | ⟨k1, k2⟩
              · exact Or.inr (Or.inl ⟨z3, k1⟩)
              · exact absurd k2 z2
        · rw [F98_0, Classical.not_not] at hc
          have W : (∀ t, tp i ≤ t → t < en (i + 1) → ltr (tx t)) ∧ ((en (i + 1) - tp i ≤ 6 ∧ tn i = nE 32 (lts tx (tp i)) (en (i + 1) - tp i).toNat ∧ KdB (tk i) (tn i)) ∨ (6 < en (i + 1) - tp i ∧ tk i = 12)) := by
            rcases t6 with z | ⟨-, z2, -⟩ | ⟨-, z2, -⟩
            · exact z
            · unfold ltr at hc
              unfold sgn at z2
              omega
            · exact absurd hc z2
          have L2 : ∀ {r : ((Int × Int) × yM) ⊕ (Unit × yM)}, yloop (fun (l : Int × Int) m => B99_107 f l.1 l.2 m) f (tp i, 0) (yup (yup (yup (yup (yup (yup m 376 7 (en i)) 376 5 (tp i)) 376 3 kd) 376 4 (tx (tp i))) 376 6 (tp i + 1)) 376 4 0) = some r → _ := fun hh => B99_107_r (tx := tx) (len := len) (e := en (i + 1)) (p := tp i) (by rw [yup_nk (by decide), yup_nk (by decide), yup_nk (by decide), yup_nk (by decide), yup_nk (by decide), yup_nk (by decide)]; exact h1) hl (fun t u1 u2 => by rw [yup_na (by decide), yup_na (by decide), yup_na (by decide), yup_na (by decide), yup_na (by decide), yup_na (by decide)]; exact ht t u1 u2) hp0 t2 t3 W.1 (t5 hc) (yup_eq _ _ _ _) hh
          rcases bL_e h with ⟨l, m1, hh2, h⟩ | ⟨r, m1, hh2, h⟩
          · obtain ⟨tok, e2, e3⟩ := L2 hh2
            cases e2
            simp only [J99_165, J99_182] at h
            have fr : ∀ (v : Int) (a q : Nat), ¬ (a = 376 ∧ 3 ≤ q ∧ q ≤ 7) → yup (yup (yup (yup (yup (yup (yup (yup (yup m 376 7 (en i)) 376 5 (tp i)) 376 3 kd) 376 4 (tx (tp i))) 376 6 (tp i + 1)) 376 4 0) 376 4 tok) 376 6 (en (i + 1))) 376 3 v a q = m a q := fun v a q hq => by
              rw [yup_ne (by omega), yup_ne (by omega), yup_ne (by omega), yup_ne (by omega), yup_ne (by omega), yup_ne (by omega), yup_ne (by omega), yup_ne (by omega), yup_ne (by omega)]
            rcases ite1 h with ⟨h7, h⟩ | ⟨h7, h⟩
            · cases h
              refine ⟨fr 3, hlt, ?_, ?_, ?_⟩
              · rw [yup_nk (by decide), yup_nk (by decide), yup_nk (by decide), yup_nk (by decide), yup_nk (by decide), yup_nk (by decide), yup_nk (by decide), yup_eq]
              · rw [yup_nk (by decide), yup_eq]
              · rw [yup_eq]
                rcases W.2 with ⟨z, -⟩ | ⟨-, z⟩
                · omega
                · exact Or.inr (Or.inl ⟨z, rfl⟩)
            · cases h
              refine ⟨fr 1, hlt, ?_, ?_, ?_⟩
              · rw [yup_nk (by decide), yup_nk (by decide), yup_nk (by decide), yup_nk (by decide), yup_nk (by decide), yup_nk (by decide), yup_nk (by decide), yup_eq]
              · rw [yup_nk (by decide), yup_eq]
              · rw [yup_eq, yup_nk (by decide), yup_nk (by decide), yup_eq]
                rcases W.2 with ⟨z1, z2, z3⟩ | ⟨z, -⟩
                · refine Or.inl ⟨z3, rfl, lts tx (tp i), (en (i + 1) - tp i).toNat, by omega, by omega, lts_nL W.1, z2, e3 (by omega)⟩
                · omega
          · obtain ⟨tok, e2, e3⟩ := L2 hh2
            cases e2
      rcases ite1 h with ⟨hc, h⟩ | ⟨hc, h⟩
      · rw [F97_0] at hc
        have := key 3 (Or.inl ⟨rfl, hc⟩) h
        exact ⟨this.1, Or.inr this.2⟩
      · rw [F97_0, Classical.not_not] at hc
        have := key 2 (Or.inr ⟨rfl, hc⟩) h
        exact ⟨this.1, Or.inr this.2⟩
    · have e := L hh
      cases e
end
section
/-! THE TWO READERS: what stands between class and model while a text is read. tk, tp, tn: kinds, places and names of the class's tokens; A: the class's program, p: the model's -/
section RD
variable (tx : Int → Int) (len : Int) (n : Nat) (en tk tp tn : Nat → Int) (A p : Nat)
/-- the class looks at the token i -/
def CT (i : Nat) (mc : yM) : Prop := mc 2 2 = i ∧ (∀ j, mc 5 j = tk j) ∧ (∀ j, mc 6 j = tp j) ∧ (∀ j, mc 7 j = tn j)
/-- what the model knows of the token i -/
def MK (i : Nat) (mm : yM) : Prop := (i = n ∧ mm 376 3 = 0 ∧ mm 376 7 = tp n ∧ mm 376 6 = en n) ∨ (i < n ∧ mm 376 5 = tp i ∧ mm 376 6 = en (i + 1) ∧ Lk (tk i) (tn i) (mm 376 3) (mm 376 4))
/-- the model looks at the token i, nothing is wrong -/
def MT (i : Nat) (mm : yM) : Prop := mm 376 1 = len ∧ (∀ t, 0 ≤ t → t < len → mm 377 t.toNat = tx t) ∧ mm 376 18 = 1 - (p : Int) ∧ mm 376 8 = -1 ∧ MK n en tk tp tn i mm
end RD
section RD1
variable {tx : Int → Int} {len : Int} {n : Nat} {en tk tp tn : Nat → Int} {A p : Nat}
theorem MK.z {i : Nat} {mm : yM} (T : TOK tx len n en tk tp tn) (h : MK n en tk tp tn i mm) : i ≤ n ∧ (tk i = 0 ↔ i = n) := by
  rcases h with ⟨rfl, -⟩ | ⟨h1, h2, h3, h4⟩
  · exact ⟨Nat.le_refl _, fun _ => rfl, fun _ => T.2.2.1⟩
  · refine ⟨by omega, fun e => ?_, fun e => by omega⟩
    rcases h4 with ⟨q, -⟩ | ⟨q, -⟩ | ⟨q, -⟩
    · have := q.1; omega
    · omega
    · unfold sgn at q; omega
/-- a sign -/
theorem MK.mark {i : Nat} {mm : yM} (T : TOK tx len n en tk tp tn) (h : MK n en tk tp tn i mm) {c : Int} (hc : sgn c) : F117 c mm = (if tk i = c then 1 else 0) := by
  unfold F117
  have hc2 := hc
  unfold sgn at hc2
  rcases h with ⟨rfl, h3, -⟩ | ⟨h1, h2, h3, h4⟩
  · rw [if_neg (by omega), T.2.2.1, if_neg (by omega)]
  · rcases h4 with ⟨q, q2, -⟩ | ⟨q, q2⟩ | ⟨q, q2, q3⟩
    · have := q.1; have := q.2.1
      rw [if_neg (by omega), if_neg (by omega)]
    · rw [if_neg (by omega), if_neg (by omega)]
    · rw [if_pos q2, q3]
/-- the model's words -/
def kw27 (j : Int) : Int := if j = 1 then F101 99 108 97 115 115 0 else if j = 2 then F101 102 105 101 108 100 0 else if j = 3 then F101 100 101 102 0 0 0 else if j = 4 then F101 110 101 119 0 0 0 else if j = 5 then F101 110 117 108 108 0 0 else if j = 6 then F101 105 102 0 0 0 0 else if j = 7 then F101 101 108 115 101 0 0 else if j = 8 then F101 119 104 105 108 101 0 else if j = 9 then F101 114 101 116 117 114 110 else F101 116 104 105 115 0 0
def kwl (j : Int) : List Int := if j = 1 then [3, 12, 1, 19, 19] else if j = 2 then [6, 9, 5, 12, 4] else if j = 3 then [4, 5, 6] else if j = 4 then [14, 5, 23] else if j = 5 then [14, 21, 12, 12] else if j = 6 then [9, 6] else if j = 7 then [5, 12, 19, 5] else if j = 8 then [23, 8, 9, 12, 5] else if j = 9 then [18, 5, 20, 21, 18, 14] else [20, 8, 9, 19]
theorem kw_Nm {j : Int} (h1 : 1 ≤ j) (h2 : j ≤ 10) : Nm (kw j) (kw27 j) := by
  have : ∀ a : Fin 10, 1 ≤ (kwl ((a : Nat) + 1 : Int)).length ∧ (kwl ((a : Nat) + 1 : Int)).length ≤ 6 ∧ (∀ q : Fin 6, (q : Nat) < (kwl ((a : Nat) + 1 : Int)).length → 1 ≤ (kwl ((a : Nat) + 1 : Int)).getD q 0 ∧ (kwl ((a : Nat) + 1 : Int)).getD q 0 ≤ 26) ∧ kw ((a : Nat) + 1 : Int) = nE 32 (fun q => (kwl ((a : Nat) + 1 : Int)).getD q 0) (kwl ((a : Nat) + 1 : Int)).length ∧ kw27 ((a : Nat) + 1 : Int) = nE 27 (fun q => (kwl ((a : Nat) + 1 : Int)).getD q 0) (kwl ((a : Nat) + 1 : Int)).length := by decide +kernel
  have h := this ⟨(j - 1).toNat, by omega⟩
  have e : (((j - 1).toNat : Nat) : Int) + 1 = j := by omega
  simp only [e] at h
  obtain ⟨a1, a2, a3, a4, a5⟩ := h
  exact ⟨_, _, a1, a2, fun q hq => a3 ⟨q, by omega⟩ hq, a4, a5⟩
theorem MK.is {i : Nat} {mm : yM} (T : TOK tx len n en tk tp tn) (h : MK n en tk tp tn i mm) {j : Int} (h1 : 1 ≤ j) (h2 : j ≤ 10) : F102 (kw27 j) mm = (if tk i = j then 1 else 0) := by
  unfold F102
  rcases h with ⟨rfl, h3, -⟩ | ⟨h0, h2', h3, h4⟩
  · rw [if_neg (by omega), T.2.2.1, if_neg (by omega)]
  · rcases h4 with ⟨q, q2, q3⟩ | ⟨q, q2⟩ | ⟨q, q2, q3⟩
    · rw [if_pos q2]
      have e1 := q.2.2 j h1 h2
      have e2 := q3.eq (kw_Nm h1 h2)
      by_cases z : tk i = j
      · rw [if_pos z, if_pos (e2.mp (e1.mp z))]
      · rw [if_neg z, if_neg (fun w => z (e1.mpr (e2.mpr w)))]
    · rw [if_neg (by omega), if_neg (by omega)]
    · unfold sgn at q
      rw [if_neg (by omega), if_neg (by omega)]
theorem kw27_1 : kw27 1 = F101 99 108 97 115 115 0 := by simp [kw27]
theorem MK.isClass {i : Nat} {mm : yM} (T : TOK tx len n en tk tp tn) (h : MK n en tk tp tn i mm) : F103 mm = (if tk i = 1 then 1 else 0) := by
  have e := h.is T (j := 1) (by decide) (by decide)
  rw [kw27_1] at e
  exact e
theorem kw27_2 : kw27 2 = F101 102 105 101 108 100 0 := by simp [kw27]
theorem MK.isField {i : Nat} {mm : yM} (T : TOK tx len n en tk tp tn) (h : MK n en tk tp tn i mm) : F106 mm = (if tk i = 2 then 1 else 0) := by
  have e := h.is T (j := 2) (by decide) (by decide)
  rw [kw27_2] at e
  exact e
theorem kw27_3 : kw27 3 = F101 100 101 102 0 0 0 := by simp [kw27]
theorem MK.isDef {i : Nat} {mm : yM} (T : TOK tx len n en tk tp tn) (h : MK n en tk tp tn i mm) : F107 mm = (if tk i = 3 then 1 else 0) := by
  have e := h.is T (j := 3) (by decide) (by decide)
  rw [kw27_3] at e
  exact e
theorem kw27_4 : kw27 4 = F101 110 101 119 0 0 0 := by simp [kw27]
theorem MK.isNew {i : Nat} {mm : yM} (T : TOK tx len n en tk tp tn) (h : MK n en tk tp tn i mm) : F108 mm = (if tk i = 4 then 1 else 0) := by
  have e := h.is T (j := 4) (by decide) (by decide)
  rw [kw27_4] at e
  exact e
theorem kw27_5 : kw27 5 = F101 110 117 108 108 0 0 := by simp [kw27]
theorem MK.isNull {i : Nat} {mm : yM} (T : TOK tx len n en tk tp tn) (h : MK n en tk tp tn i mm) : F109 mm = (if tk i = 5 then 1 else 0) := by
  have e := h.is T (j := 5) (by decide) (by decide)
  rw [kw27_5] at e
  exact e
theorem kw27_6 : kw27 6 = F101 105 102 0 0 0 0 := by simp [kw27]
theorem MK.isIf {i : Nat} {mm : yM} (T : TOK tx len n en tk tp tn) (h : MK n en tk tp tn i mm) : F110 mm = (if tk i = 6 then 1 else 0) := by
  have e := h.is T (j := 6) (by decide) (by decide)
  rw [kw27_6] at e
  exact e
theorem kw27_7 : kw27 7 = F101 101 108 115 101 0 0 := by simp [kw27]
theorem MK.isElse {i : Nat} {mm : yM} (T : TOK tx len n en tk tp tn) (h : MK n en tk tp tn i mm) : F111 mm = (if tk i = 7 then 1 else 0) := by
  have e := h.is T (j := 7) (by decide) (by decide)
  rw [kw27_7] at e
  exact e
theorem kw27_8 : kw27 8 = F101 119 104 105 108 101 0 := by simp [kw27]
theorem MK.isWhile {i : Nat} {mm : yM} (T : TOK tx len n en tk tp tn) (h : MK n en tk tp tn i mm) : F112 mm = (if tk i = 8 then 1 else 0) := by
  have e := h.is T (j := 8) (by decide) (by decide)
  rw [kw27_8] at e
  exact e
theorem kw27_9 : kw27 9 = F101 114 101 116 117 114 110 := by simp [kw27]
theorem MK.isReturn {i : Nat} {mm : yM} (T : TOK tx len n en tk tp tn) (h : MK n en tk tp tn i mm) : F113 mm = (if tk i = 9 then 1 else 0) := by
  have e := h.is T (j := 9) (by decide) (by decide)
  rw [kw27_9] at e
  exact e
theorem kw27_10 : kw27 10 = F101 116 104 105 115 0 0 := by simp [kw27]
theorem MK.isThis {i : Nat} {mm : yM} (T : TOK tx len n en tk tp tn) (h : MK n en tk tp tn i mm) : F114 mm = (if tk i = 10 then 1 else 0) := by
  have e := h.is T (j := 10) (by decide) (by decide)
  rw [kw27_10] at e
  exact e
theorem ite10 {c : Prop} [Decidable c] : (if c then (1 : Int) else 0) = 0 ↔ ¬ c := by
  split
  · simp [*]
  · simp [*]
theorem MK.isName {i : Nat} {mm : yM} (T : TOK tx len n en tk tp tn) (h : MK n en tk tp tn i mm) : F115 mm = (if tk i = 11 then 1 else 0) := by
  have k3 : mm 376 3 = 1 ↔ (1 ≤ tk i ∧ tk i ≤ 11) := by
    rcases h with ⟨rfl, h3, -⟩ | ⟨h0, h2', h3, h4⟩
    · rw [T.2.2.1]; omega
    · rcases h4 with ⟨q, q2, q3⟩ | ⟨q, q2⟩ | ⟨q, q2, q3⟩
      · have := q.1; have := q.2.1; omega
      · omega
      · unfold sgn at q; omega
  unfold F115
  rw [h.isClass T, h.isField T, h.isDef T, h.isNew T, h.isNull T, h.isIf T, h.isElse T, h.isWhile T, h.isReturn T, h.isThis T]
  by_cases z : mm 376 3 = 1
  · rw [if_pos z]
    have z2 := k3.mp z
    by_cases z3 : tk i = 11
    · simp only [z3]
      simp
    · rw [if_neg z3]
      rcases (show tk i = 1 ∨ tk i = 2 ∨ tk i = 3 ∨ tk i = 4 ∨ tk i = 5 ∨ tk i = 6 ∨ tk i = 7 ∨ tk i = 8 ∨ tk i = 9 ∨ tk i = 10 by omega) with e | e | e | e | e | e | e | e | e | e <;> simp [e]
  · rw [if_neg z, if_neg (fun e => z (k3.mpr (by omega)))]
theorem MK.name {i : Nat} {mm : yM} (h : MK n en tk tp tn i mm) (hk : 1 ≤ tk i ∧ tk i ≤ 11) (h0 : tk n = 0) : Nm (tn i) (mm 376 4) := by
  rcases h with ⟨rfl, h3, -⟩ | ⟨h0, h2', h3, h4⟩
  · omega
  · rcases h4 with ⟨q, q2, q3⟩ | ⟨q, q2⟩ | ⟨q, q2, q3⟩
    · exact q3
    · omega
    · unfold sgn at q; omega
/-- the token that is looked at; nothing else -/
theorem MT.fr {i : Nat} {mm mm' : yM} (h : MT tx len n en tk tp tn p i mm) (e : ∀ q, q = 1 ∨ (3 ≤ q ∧ q ≤ 8) ∨ q = 18 → mm' 376 q = mm 376 q) (e2 : ∀ q, mm' 377 q = mm 377 q) : MT tx len n en tk tp tn p i mm' := by
  obtain ⟨h1, h2, h3, h4, h5⟩ := h
  refine ⟨by rw [e 1 (by omega)]; exact h1, fun t t1 t2 => by rw [e2]; exact h2 t t1 t2, by rw [e 18 (by omega)]; exact h3, by rw [e 8 (by omega)]; exact h4, ?_⟩
  unfold MK at h5 ⊢
  rw [e 3 (by omega), e 4 (by omega), e 5 (by omega), e 6 (by omega), e 7 (by omega)]
  exact h5
theorem MT.next {f i : Nat} {mm mm' : yM} (T : TOK tx len n en tk tp tn) (hl : len ≤ 320) (h : MT tx len n en tk tp tn p i mm) (hi : tk i ≠ 0) (hn : F99 f mm = some mm') : MT tx len n en tk tp tn p (i + 1) mm' ∧ (∀ a q, ¬ (a = 376 ∧ 3 ≤ q ∧ q ≤ 7) → mm' a q = mm a q) := by
  obtain ⟨h1, h2, h3, h4, h5⟩ := h
  have hz := h5.z T
  have h6 : mm 376 6 = en (i + 1) := by
    rcases h5 with ⟨q, -⟩ | ⟨-, -, q, -⟩
    · exact absurd (hz.2.mpr q) hi
    · exact q
  have hin : i ≠ n := fun q => hi (hz.2.mpr q)
  have r := F99_r T hl h1 h2 (i := i + 1) (by omega) h6 hn
  refine ⟨⟨by rw [r.1 376 1 (by omega)]; exact h1, fun t t1 t2 => by rw [r.1 377 _ (by omega)]; exact h2 t t1 t2, by rw [r.1 376 18 (by omega)]; exact h3, by rw [r.1 376 8 (by omega)]; exact h4, r.2⟩, r.1⟩
theorem MT.pp {i : Nat} {mm : yM} (h : MT tx len n en tk tp tn p i mm) (hp : p ≤ 1) : F96 mm = p := by
  unfold F96
  rw [h.2.2.1, wr_i (by omega) (by omega)]
  omega
/-- the model goes on, or stops here: then the place is the class's -/
theorem MT.goOn {f i : Nat} {g : Int} {r : Int} {mm mm' : yM} (T : TOK tx len n en tk tp tn) (hl : len ≤ 320) (h : MT tx len n en tk tp tn p i mm) (hi : g ≠ 0 → tk i ≠ 0) (hn : F105 f g mm = some (r, mm')) : (g ≠ 0 ∧ r = 1 ∧ MT tx len n en tk tp tn p (i + 1) mm' ∧ (∀ a q, ¬ (a = 376 ∧ 3 ≤ q ∧ q ≤ 7) → mm' a q = mm a q)) ∨ (g = 0 ∧ r = 0 ∧ mm' = yup mm 376 8 (tp i)) := by
  have h4 := h.2.2.2.1
  unfold F105 at hn
  rcases ite1 hn with ⟨h0, hn⟩ | ⟨h0, hn⟩
  · right
    obtain ⟨m1, e1, hn⟩ := bU_e hn
    unfold F104 J104_26 at e1
    rw [if_pos (by omega)] at e1
    have e2 : m1 = yup mm 376 8 (tp i) := by
      rcases h.2.2.2.2 with ⟨rfl, q1, q2, -⟩ | ⟨q0, q1, q2, q3⟩
      · rw [if_pos q1, q2] at e1
        cases e1
        rfl
      · rw [if_neg (by
          rcases q3 with ⟨-, z, -⟩ | ⟨-, z⟩ | ⟨-, z, -⟩ <;> omega), q1] at e1
        cases e1
        rfl
    subst e2
    have hp0 : 0 ≤ tp i := by
      have M := T.mono
      rcases h.2.2.2.2 with ⟨rfl, -⟩ | ⟨q0, -⟩
      · rw [T.2.2.2.1]; exact T.2.2.2.2.1
      · have := (T.2.1 i q0).1
        have := M i (by omega)
        omega
    unfold J105_8 at hn
    rw [yup_eq, if_neg (by omega)] at hn
    cases hn
    exact ⟨h0, rfl, rfl⟩
  · left
    unfold J105_8 at hn
    rw [if_pos (by omega)] at hn
    obtain ⟨m1, e1, hn⟩ := bU_e hn
    cases hn
    have := h.next T hl (hi h0) e1
    exact ⟨h0, rfl, this.1, this.2⟩
theorem MT.tp0 {i : Nat} {mm : yM} (T : TOK tx len n en tk tp tn) (h : MT tx len n en tk tp tn p i mm) : 0 ≤ tp i := by
  have M := T.mono
  rcases h.2.2.2.2 with ⟨rfl, -⟩ | ⟨q0, -⟩
  · rw [T.2.2.2.1]; exact T.2.2.2.2.1
  · have := (T.2.1 i q0).1
    have := M i (by omega)
    omega
theorem MT.mark {f i : Nat} {c : Int} {r : Int} {mm mm' : yM} (T : TOK tx len n en tk tp tn) (hl : len ≤ 320) (h : MT tx len n en tk tp tn p i mm) (hc : sgn c) (hn : F118 f c mm = some (r, mm')) : (tk i = c ∧ r = 1 ∧ MT tx len n en tk tp tn p (i + 1) mm' ∧ (∀ a q, ¬ (a = 376 ∧ 3 ≤ q ∧ q ≤ 7) → mm' a q = mm a q)) ∨ (tk i ≠ c ∧ r = 0 ∧ mm' = yup mm 376 8 (tp i)) := by
  unfold F118 at hn
  obtain ⟨r1, m1, e1, hn⟩ := bI_e hn
  cases hn
  rw [h.2.2.2.2.mark T hc] at e1
  have hc2 := hc
  unfold sgn at hc2
  rcases h.goOn T hl (fun z => by
    have : tk i = c := by
      by_cases q : tk i = c
      · exact q
      · rw [if_neg q] at z; exact absurd rfl z
    omega) e1 with ⟨z, z1, z2⟩ | ⟨z, z1⟩
  · left
    refine ⟨?_, z1, z2⟩
    by_cases q : tk i = c
    · exact q
    · rw [if_neg q] at z; exact absurd rfl z
  · right
    refine ⟨?_, z1⟩
    exact ite10.mp z
/-- the class takes a token, or refuses it -/
theorem CT.take {f i : Nat} {k r : Int} {mc mc' : yM} (hi : (i : Int) ≤ 400) (h : CT tk tp tn i mc) (hn : F37 f k mc = some (r, mc')) : (tk i = k ∧ r = 1 ∧ mc' = yup mc 2 2 ((i : Int) + 1)) ∨ (tk i ≠ k ∧ r = 0 ∧ mc' = yup mc 2 4 (tp i)) := by
  obtain ⟨h1, h2, h3, h4⟩ := h
  unfold F37 at hn
  have e : (mc 2 2).toNat = i := by omega
  rw [e, h2, h3, h1, wr_i (by omega) (by omega)] at hn
  rcases ite1 hn with ⟨q, hn⟩ | ⟨q, hn⟩
  · cases hn
    exact Or.inl ⟨q, rfl, rfl⟩
  · cases hn
    exact Or.inr ⟨q, rfl, rfl⟩
theorem CT.kind {i : Nat} {mc : yM} (h : CT tk tp tn i mc) : F38 mc = tk i := by
  unfold F38
  rw [h.2.1, h.1]
  simp
theorem CT.nam {i : Nat} {mc : yM} (h : CT tk tp tn i mc) : F39 mc = tn i := by
  unfold F39
  rw [h.2.2.2, h.1]
  simp
theorem CT.plc {i : Nat} {mc : yM} (h : CT tk tp tn i mc) : mc 6 (mc 2 2).toNat = tp i := by
  rw [h.2.2.1, h.1]
  simp
theorem CT.fr {i : Nat} {mc mc' : yM} (h : CT tk tp tn i mc) (e : mc' 2 2 = mc 2 2) (e2 : ∀ a q, a = 5 ∨ a = 6 ∨ a = 7 → mc' a q = mc a q) : CT tk tp tn i mc' := by
  obtain ⟨h1, h2, h3, h4⟩ := h
  exact ⟨e.trans h1, fun j => (e2 5 j (by omega)).trans (h2 j), fun j => (e2 6 j (by omega)).trans (h3 j), fun j => (e2 7 j (by omega)).trans (h4 j)⟩
theorem CT.at {i i' : Nat} {mc mc' : yM} (h : CT tk tp tn i mc) (e : mc' 2 2 = i') (e2 : ∀ a q, a = 5 ∨ a = 6 ∨ a = 7 → mc' a q = mc a q) : CT tk tp tn i' mc' := by
  obtain ⟨h1, h2, h3, h4⟩ := h
  exact ⟨e, fun j => (e2 5 j (by omega)).trans (h2 j), fun j => (e2 6 j (by omega)).trans (h3 j), fun j => (e2 7 j (by omega)).trans (h4 j)⟩
end RD1
end
section
/-! LOOKING UP: the first of a row -/
def IX (N : Int) (P : Nat → Prop) (r : Int) : Prop := (r = -1 ∧ ∀ k : Nat, (k : Int) < N → ¬ P k) ∨ (∃ k : Nat, r = k ∧ (k : Int) < N ∧ P k ∧ ∀ j : Nat, j < k → ¬ P j)
theorem IX.eq {N : Int} {P Q : Nat → Prop} {r r' : Int} (h : IX N P r) (h' : IX N Q r') (e : ∀ k : Nat, (k : Int) < N → (P k ↔ Q k)) : r = r' := by
  rcases h with ⟨h1, h2⟩ | ⟨k, h1, h2, h3, h4⟩
  · rcases h' with ⟨g1, g2⟩ | ⟨k', g1, g2, g3, g4⟩
    · omega
    · exact absurd ((e k' g2).mpr g3) (h2 k' g2)
  · rcases h' with ⟨g1, g2⟩ | ⟨k', g1, g2, g3, g4⟩
    · exact absurd ((e k h2).mp h3) (g2 k h2)
    · have : k = k' := by
        rcases Nat.lt_trichotomy k k' with q | q | q
        · exact absurd ((e k h2).mp h3) (g4 k q)
        · exact q
        · exact absurd ((e k' g2).mpr g3) (h4 k' q)
      omega
theorem IX.lt {N : Int} {P : Nat → Prop} {r : Int} (h : IX N P r) : r = -1 ∨ (0 ≤ r ∧ r < N ∧ P r.toNat) := by
  rcases h with ⟨h1, -⟩ | ⟨k, h1, h2, h3, -⟩
  · exact Or.inl h1
  · exact Or.inr ⟨by omega, by omega, by rw [h1]; exact h3⟩
theorem IX.no {N : Int} {P : Nat → Prop} (h : IX N P (-1)) : ∀ k : Nat, (k : Int) < N → ¬ P k := by
  rcases h with ⟨-, h2⟩ | ⟨k, h1, -⟩
  · exact h2
  · omega
theorem IX.mp {N : Int} {P Q : Nat → Prop} {r : Int} (h : IX N P r) (e : ∀ k : Nat, (k : Int) < N → (P k ↔ Q k)) : IX N Q r := by
  rcases h with ⟨h1, h2⟩ | ⟨k, h1, h2, h3, h4⟩
  · exact Or.inl ⟨h1, fun k hk q => h2 k hk ((e k hk).mpr q)⟩
  · exact Or.inr ⟨k, h1, h2, (e k h2).mp h3, fun j hj q => h4 j hj ((e j (by omega)).mpr q)⟩
/-- a search loop, as both sides have it -/
theorem find_r {N : Int} {P : Nat → Prop} {B : Int → Option (Int ⊕ (Int ⊕ Int))} (hN : N ≤ 1000) (h0 : 0 ≤ N) (hB : ∀ l : Int, 0 ≤ l → l ≤ N → (l < N ∧ P l.toNat ∧ B l = some (.inr (.inr l))) ∨ (l < N ∧ ¬ P l.toNat ∧ B l = some (.inl (wr (l + 1)))) ∨ (¬ l < N ∧ B l = some (.inr (.inl l)))) {f : Nat} {r : Int ⊕ Int} (h : ploop B f 0 = some r) : (∃ k, r = .inr k ∧ 0 ≤ k ∧ IX N P k) ∨ (∃ l, r = .inl l ∧ IX N P (-1)) := by
  obtain ⟨l', hI, hE⟩ := ploop_inv (fun l : Int => 0 ≤ l ∧ l ≤ N ∧ ∀ j : Nat, (j : Int) < l → ¬ P j) (fun l l' hI hE => by
    obtain ⟨i1, i2, i3⟩ := hI
    rcases hB l i1 i2 with ⟨b1, b2, b3⟩ | ⟨b1, b2, b3⟩ | ⟨b1, b3⟩
    · rw [b3] at hE; cases hE
    · rw [b3] at hE
      cases hE
      rw [wr_i (by omega) (by omega)]
      refine ⟨by omega, by omega, fun j hj => ?_⟩
      by_cases q : (j : Int) = l
      · have : l.toNat = j := by omega
        rw [← this]; exact b2
      · exact i3 j (by omega)
    · rw [b3] at hE; cases hE) f 0 r ⟨by omega, h0, fun j hj => by omega⟩ h
  obtain ⟨i1, i2, i3⟩ := hI
  rcases hB l' i1 i2 with ⟨b1, b2, b3⟩ | ⟨b1, b2, b3⟩ | ⟨b1, b3⟩
  · rw [b3] at hE
    cases hE
    exact Or.inl ⟨l', rfl, i1, Or.inr ⟨l'.toNat, by omega, by omega, b2, fun j hj => i3 j (by omega)⟩⟩
  · rw [b3] at hE; cases hE
  · rw [b3] at hE
    cases hE
    exact Or.inr ⟨l', rfl, Or.inl ⟨rfl, fun k hk => i3 k (by omega)⟩⟩
theorem F40_6_r {f a : Nat} {x1 x2 r : Int} {m : yM} (h0 : 0 ≤ x1) (h1 : x1 ≤ 1000) (h : F40_6 f a x1 x2 m = some r) : IX x1 (fun k => m a k = x2) r := by
  unfold F40_6 at h
  have K := fun {r : Int ⊕ Int} (hh : ploop (fun (l : Int) => B40_6_2 f a x1 x2 l m) f 0 = some r) => find_r (P := fun k => m a k = x2) h1 h0 (fun l l1 l2 => by
    unfold B40_6_2
    by_cases q : l < x1
    · by_cases q2 : m a l.toNat = x2
      · exact Or.inl ⟨q, q2, by rw [if_pos q, if_pos q2]⟩
      · exact Or.inr (Or.inl ⟨q, q2, by rw [if_pos q, if_neg q2]⟩)
    · exact Or.inr (Or.inr ⟨q, by rw [if_neg q]⟩)) hh
  rcases bQ_e h with ⟨l, e1, h⟩ | ⟨l, e1, h⟩
  · rcases K e1 with ⟨k, z, -⟩ | ⟨k, z, z2⟩
    · cases z
    · cases h; exact z2
  · rcases K e1 with ⟨k, z, -, z2⟩ | ⟨k, z, z2⟩
    · cases z; cases h; exact z2
    · cases z
theorem F40_8_r {f a : Nat} {x1 x2 r : Int} {m : yM} (h0 : 0 ≤ x1) (h1 : x1 ≤ 1000) (h : F40_8 f a x1 x2 m = some r) : IX x1 (fun k => m a k = x2) r := F40_6_r h0 h1 h
theorem F41_r {f A : Nat} {x1 r : Int} {m : yM} (h0 : 0 ≤ m A 9) (h1 : m A 9 ≤ 6) (h : F41 f A x1 m = some r) : IX (m A 9) (fun k => m (A + 1) k = x1) r := by
  unfold F41 at h
  obtain ⟨r1, e1, h⟩ := bP_e h
  cases h
  exact F40_6_r h0 (by omega) e1
theorem F46_r {f A : Nat} {x1 r : Int} {m : yM} (h0 : 0 ≤ m A 11) (h1 : m A 11 ≤ 8) (h : F46 f A x1 m = some r) : IX (m A 11) (fun k => m (A + 4) k = x1) r := by
  unfold F46 at h
  obtain ⟨r1, e1, h⟩ := bP_e h
  cases h
  exact F40_8_r h0 (by omega) e1
theorem F116_r {f p : Nat} {x2 r : Int} {m : yM} (hp : p ≤ 1) (h0 : 0 ≤ m 383 p) (h1 : m 383 p ≤ 6) (h : F116 f p x2 m = some r) : IX (m 383 p) (fun k => m 391 (6 * p + k) = x2) r := by
  unfold F116 at h
  have K := fun {r : Int ⊕ Int} (hh : ploop (fun (l : Int) => B116_2 f p x2 l m) f 0 = some r) => find_r (P := fun k => m 391 (6 * p + k) = x2) (N := m 383 p) (by omega) h0 (fun l l1 l2 => by
    unfold B116_2
    have e : (wr (wr (6 * (p : Int)) + l)).toNat = 6 * p + l.toNat := by
      rw [wr_i (x := 6 * (p : Int)) (by omega) (by omega), wr_i (by omega) (by omega)]
      omega
    rw [e, show ((p : Int)).toNat = p from Int.toNat_natCast p]
    by_cases q : l < m 383 p
    · by_cases q2 : m 391 (6 * p + l.toNat) = x2
      · exact Or.inl ⟨q, q2, by rw [if_pos q, if_pos q2]⟩
      · exact Or.inr (Or.inl ⟨q, q2, by rw [if_pos q, if_neg q2]⟩)
    · exact Or.inr (Or.inr ⟨q, by rw [if_neg q]⟩)) hh
  rcases bQ_e h with ⟨l, e1, h⟩ | ⟨l, e1, h⟩
  · rcases K e1 with ⟨k, z, -⟩ | ⟨k, z, z2⟩
    · cases z
    · cases h; exact z2
  · rcases K e1 with ⟨k, z, -, z2⟩ | ⟨k, z, z2⟩
    · cases z; cases h; exact z2
    · cases z
theorem F120_r {f p : Nat} {x2 r : Int} {m : yM} (hp : p ≤ 1) (h0 : 0 ≤ m 385 p) (h1 : m 385 p ≤ 8) (h : F120 f p x2 m = some r) : IX (m 385 p) (fun k => m 394 (8 * p + k) = x2) r := by
  unfold F120 at h
  have K := fun {r : Int ⊕ Int} (hh : ploop (fun (l : Int) => B120_2 f p x2 l m) f 0 = some r) => find_r (P := fun k => m 394 (8 * p + k) = x2) (N := m 385 p) (by omega) h0 (fun l l1 l2 => by
    unfold B120_2
    have e : (wr (wr (8 * (p : Int)) + l)).toNat = 8 * p + l.toNat := by
      rw [wr_i (x := 8 * (p : Int)) (by omega) (by omega), wr_i (by omega) (by omega)]
      omega
    rw [e, show ((p : Int)).toNat = p from Int.toNat_natCast p]
    by_cases q : l < m 385 p
    · by_cases q2 : m 394 (8 * p + l.toNat) = x2
      · exact Or.inl ⟨q, q2, by rw [if_pos q, if_pos q2]⟩
      · exact Or.inr (Or.inl ⟨q, q2, by rw [if_pos q, if_neg q2]⟩)
    · exact Or.inr (Or.inr ⟨q, by rw [if_neg q]⟩)) hh
  rcases bQ_e h with ⟨l, e1, h⟩ | ⟨l, e1, h⟩
  · rcases K e1 with ⟨k, z, -⟩ | ⟨k, z, z2⟩
    · cases z
    · cases h; exact z2
  · rcases K e1 with ⟨k, z, -, z2⟩ | ⟨k, z, z2⟩
    · cases z; cases h; exact z2
    · cases z
theorem F50_r {f A : Nat} {x1 x2 r : Int} {m : yM} (h0 : 0 ≤ m A 10) (h1 : m A 10 ≤ 10) (h : F50 f A x1 x2 m = some r) : IX (m A 10) (fun k => m (A + 10 + k) 1 = x1 ∧ m (A + 10 + k) 0 = x2) r := by
  unfold F50 at h
  have K := fun {r : Int ⊕ Int} (hh : ploop (fun (l : Int) => B50_2 f A x1 x2 l m) f 0 = some r) => find_r (P := fun k => m (A + 10 + k) 1 = x1 ∧ m (A + 10 + k) 0 = x2) (N := m A 10) (by omega) h0 (fun l l1 l2 => by
    unfold B50_2 J50_38
    by_cases q : l < m A 10
    · by_cases q2 : m (A + 10 + l.toNat) 1 = x1
      · by_cases q3 : m (A + 10 + l.toNat) 0 = x2
        · exact Or.inl ⟨q, ⟨q2, q3⟩, by rw [if_pos q, if_pos q2, if_pos q3]⟩
        · exact Or.inr (Or.inl ⟨q, fun z => q3 z.2, by rw [if_pos q, if_pos q2, if_neg q3]⟩)
      · exact Or.inr (Or.inl ⟨q, fun z => q2 z.1, by rw [if_pos q, if_neg q2]⟩)
    · exact Or.inr (Or.inr ⟨q, by rw [if_neg q]⟩)) hh
  rcases bQ_e h with ⟨l, e1, h⟩ | ⟨l, e1, h⟩
  · rcases K e1 with ⟨k, z, -⟩ | ⟨k, z, z2⟩
    · cases z
    · cases h; exact z2
  · rcases K e1 with ⟨k, z, -, z2⟩ | ⟨k, z, z2⟩
    · cases z; cases h; exact z2
    · cases z
/-- the model's inner loop of declared -/
theorem B123_11_r {f g p : Nat} {x3 x4 x5 : Int} {m : yM} (hp : p ≤ 1) (h0 : 0 ≤ m 384 p) (h1 : m 384 p ≤ 10) {r : Int ⊕ Int} (h : ploop (fun (l : Int) => B123_11 f p x3 x4 x5 l m) g 0 = some r) : (∃ k, r = .inr k ∧ 0 ≤ k ∧ IX (m 384 p) (fun k => m 396 (10 * p + k) = x5 ∧ m 395 (10 * p + k) = x3) k) ∨ (∃ l, r = .inl l ∧ IX (m 384 p) (fun k => m 396 (10 * p + k) = x5 ∧ m 395 (10 * p + k) = x3) (-1)) := by
  refine find_r (N := m 384 p) (by omega) h0 (fun l l1 l2 => ?_) h
  unfold B123_11 J123_58
  have e : (wr (wr (10 * (p : Int)) + l)).toNat = 10 * p + l.toNat := by
    rw [wr_i (x := 10 * (p : Int)) (by omega) (by omega), wr_i (by omega) (by omega)]
    omega
  rw [e, show ((p : Int)).toNat = p from Int.toNat_natCast p]
  by_cases q : l < m 384 p
  · by_cases q2 : m 396 (10 * p + l.toNat) = x5
    · by_cases q3 : m 395 (10 * p + l.toNat) = x3
      · exact Or.inl ⟨q, ⟨q2, q3⟩, by rw [if_pos q, if_pos q2, if_pos q3]⟩
      · exact Or.inr (Or.inl ⟨q, fun z => q3 z.2, by rw [if_pos q, if_pos q2, if_neg q3]⟩)
    · exact Or.inr (Or.inl ⟨q, fun z => q2 z.1, by rw [if_pos q, if_neg q2]⟩)
  · exact Or.inr (Or.inr ⟨q, by rw [if_neg q]⟩)
theorem F123_own {f p : Nat} {x2 x3 r : Int} {m : yM} (hp : p ≤ 1) (hx : 0 ≤ x2) (h0 : 0 ≤ m 384 p) (h1 : m 384 p ≤ 10) (h : F123 f p x2 x3 1 m = some r) : IX (m 384 p) (fun k => m 396 (10 * p + k) = x2 ∧ m 395 (10 * p + k) = x3) r := by
  unfold F123 at h
  have K : ∀ {r : Int ⊕ Int}, ploop (fun (l : Int) => B123_3 f p x3 1 l m) f x2 = some r → (∃ k, r = .inr k ∧ IX (m 384 p) (fun k => m 396 (10 * p + k) = x2 ∧ m 395 (10 * p + k) = x3) k) ∨ (∃ l, r = .inl l ∧ IX (m 384 p) (fun k => m 396 (10 * p + k) = x2 ∧ m 395 (10 * p + k) = x3) (-1)) := by
    intro r hh
    cases f with
    | zero => cases hh
    | succ f =>
      simp only [ploop] at hh
      split at hh
      · cases hh
      · rename_i l' e
        simp only [B123_3] at e
        rw [if_neg (by omega)] at e
        rcases bQ_e e with ⟨l, e1, e⟩ | ⟨l, e1, e⟩
        · rw [if_neg (by decide)] at e
          unfold J123_85 at e
          cases e
          rcases B123_11_r hp h0 h1 e1 with ⟨k, z, -⟩ | ⟨k, z, z2⟩
          · cases z
          · cases f with
            | zero => cases hh
            | succ f =>
              simp only [ploop, B123_3] at hh
              rw [if_pos (by decide)] at hh
              cases hh
              exact Or.inr ⟨_, rfl, z2⟩
        · cases e
      · rename_i r' e
        cases hh
        simp only [B123_3] at e
        rw [if_neg (by omega)] at e
        rcases bQ_e e with ⟨l, e1, e⟩ | ⟨l, e1, e⟩
        · rw [if_neg (by decide)] at e
          unfold J123_85 at e
          cases e
        · cases e
          rcases B123_11_r hp h0 h1 e1 with ⟨k, z, -, z2⟩ | ⟨k, z, z2⟩
          · cases z
            exact Or.inl ⟨_, rfl, z2⟩
          · cases z
  rcases bQ_e h with ⟨l, e1, h⟩ | ⟨l, e1, h⟩
  · rcases K e1 with ⟨k, z, -⟩ | ⟨k, z, z2⟩
    · cases z
    · cases h; exact z2
  · rcases K e1 with ⟨k, z, z2⟩ | ⟨k, z, z2⟩
    · cases z; cases h; exact z2
    · cases z
end
