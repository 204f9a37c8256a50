/-! FUNCTIONS OF THE METHODS: printed by wip/fn/dc.py -/
def F198 (f : Nat) (A : Nat) (m : yM) : Option ((Unit ⊕ Nat) × yM) := (bU (F92 f (yup m 169 4 (pX A))) (fun m6773 => (bT (F186 f 0 (yup (yup m6773 169 5 0) 169 6 0)) (fun r6816 m6818 => (if 0 ≤ (m6818 A 17) ∧ (m6818 A 17) < ((10 : Nat) : Int) then (bT (F187 f 0 m6818) (fun r6864 m6866 => (if 252 ≤ r6864 ∧ r6864 < 256 then (bU (F188_48 f r6864 (F57 (A + 10 + (m6818 A 17).toNat) m6866) r6816 m6866) (fun m6894 => (bT (F197 f A f (m6894 (A + 10 + (m6818 A 17).toNat) 4) (m6894 (A + 10 + (m6818 A 17).toNat) 5) 0 m6894) (fun r7355 m7357 => (some (.inl (), m7357))) (fun e' m7357 => (some (.inr e', m7357)))))) else none)) (fun e' m6866 => (some (.inr e', m6866)))) else none)) (fun e' m6818 => (some (.inr e', m6818))))))
set_option maxRecDepth 100000 in
theorem d198 {L : Nat} {xs : Nat → Int32} {k d n : Nat} {c : yS3} {f : Nat} {A : Nat} {m : yM} (hk : k ≤ f) (hA : (A = 256 ∨ A = 316)) (hR : RM c m) : PC (gZ L xs) k d 198 [.ref 169, .ref A] m n (qEV (fun e => e = 10 ∨ e = 11 ∨ e = 12 ∨ e = 13) (c.1, c.2.1, pX A) (F198 f A m)) := by
  have hX : F198 f A m = F198 f A m := rfl
  have Hr : ∀ m', F198 f A m = some (.inl (), m') → RM (c.1, c.2.1, pX A) m' → ∀ n' : Nat, (qEV (fun e => e = 10 ∨ e = 11 ∨ e = 12 ∨ e = 13) (c.1, c.2.1, pX A) (F198 f A m)) (.inl none) m' n' := fun m' e h n' => Or.inl ⟨rfl, h, e⟩
  have Ht : ∀ e m', F198 f A m = some (.inr e, m') → (fun e => e = 10 ∨ e = 11 ∨ e = 12 ∨ e = 13) e → RM (c.1, c.2.1, pX A) m' → ∀ x n' : Nat, (qEV (fun e => e = 10 ∨ e = 11 ∨ e = 12 ∨ e = 13) (c.1, c.2.1, pX A) (F198 f A m)) (.inr (e, x)) m' n' := fun e m' e1 h1 h2 x n' => Or.inr ⟨e, x, rfl, h1, h2, e1⟩
  refine PC.mk [some (.ref 169), some (.ref A), none, none] kn198 rfl ?_
  refine p_aload 1 c198_0 rfl rfl ?_
  refine p_aload 2 c198_1 rfl rfl ?_
  refine p_put 5 (x := pX A) c198_2 rfl kf169_4 (pX_sv hA) ?_
  have hR6766 := RM.s169 hR (pX_01 A)
  refine p_aload 6 c198_5 rfl rfl ?_
  refine p_cV 9 [.ref 169] [] c198_6 rfl rfl rfl (fun k' hk' d' => d92 (f := f) (by omega) hR6766) (fun m6773 hF6769 hR6774 n6768 k6767 hk6767 => ?_)
  have hX6772 := hX.trans (bU_s hF6769)
  refine p_aload 10 c198_9 rfl rfl ?_
  refine p_iconst 11 c198_10 rfl ?_
  refine p_putI 14 c198_11 rfl kf169_5 ?_
  have hR6775 := hR6774.up 169 5 (v := 0) (nselD rfl) (rgD rfl)
  refine p_aload 15 c198_14 rfl rfl ?_
  refine p_iconst 16 c198_15 rfl ?_
  refine p_putI 19 c198_16 rfl kf169_6 ?_
  have hR6776 := hR6775.up 169 6 (v := 0) (nselD rfl) (rgD rfl)
  refine p_aload 20 c198_19 rfl rfl ?_
  refine p_iconst 21 c198_20 rfl ?_
  refine p_cTI 24 [.ref 169, yI 0] [] c198_21 rfl rfl rfl (fun k' hk' d' => d186 (f := f) (by omega) (rgD rfl) hR6776) (fun r6816 m6818 hF6814 hg6815 hR6819 n6778 k6777 hk6777 => ?_) (fun e' q6823 m6818 n' hF6814 hE6821 hR6822 => ?_)
  · have hX6817 := hX6772.trans (bT_l hF6814)
    refine p_istore 25 c198_24 rfl rfl ?_
    refine p_aload 26 c198_25 rfl rfl ?_
    refine p_getV 29 (.ref A) c198_26 rfl kf169_4 (pX_of hA hR6819.2.2.2.2.2 (rfl : ((c.1, c.2.1, pX A) : yS3).2.2 = pX A)) ?_
    refine p_getR 32 c198_29 rfl (kP_5 hA) ?_
    refine p_aload 33 c198_32 rfl rfl ?_
    refine p_getV 36 (.ref A) c198_33 rfl kf169_4 (pX_of hA hR6819.2.2.2.2.2 (rfl : ((c.1, c.2.1, pX A) : yS3).2.2 = pX A)) ?_
    refine p_getX 39 (m6818 A 17) c198_36 rfl (kP_17 hA) rfl ?_
    refine p_aaX 40 c198_39 rfl (kPr_6 hA) (hR6819.rg _ _) (fun hx6824 => ?_)
    have hX6825 := hX6817.trans (if_pos hx6824)
    refine p_astore 41 c198_40 rfl rfl ?_
    refine p_aload 42 c198_41 rfl rfl ?_
    refine p_aload 43 c198_42 rfl rfl ?_
    refine p_iconst 44 c198_43 rfl ?_
    refine p_cTA 47 [.ref 169, yI 0] [.ref 169] c198_44 rfl rfl rfl (fun k' hk' d' => d187 (f := f) (by omega) (rgD rfl) hR6819) (fun r6864 m6866 hF6862 hg6863 hR6867 n6827 k6826 hk6826 => ?_) (fun e' q6871 m6866 n' hF6862 hE6869 hR6870 => ?_)
    · have hX6865 := hX6825.trans (bT_l hF6862)
      have := hg6863.2
      have hX6872 := hX6865.trans (if_pos hg6863.2)
      refine p_aload 48 c198_47 rfl rfl ?_
      refine p_cX 51 [.ref (A + 10 + (m6818 A 17).toNat)] [.ref r6864, .ref 169] c198_48 rfl rfl rfl (fun k' hk' d' => d57 (kMr hA hx6824) hR6867) (fun hg6875 n6874 k6873 hk6873 => ?_)
      refine p_iload 52 c198_51 rfl rfl ?_
      refine p_cV 55 [.ref 169, .ref r6864, yI (F57 (A + 10 + (m6818 A 17).toNat) m6866), yI r6816] [] c198_52 rfl rfl rfl (fun k' hk' d' => d188_48 (f := f) (by omega) hg6863.1 (by omega) hg6875 hg6815 hR6867) (fun m6894 hF6890 hR6895 n6877 k6876 hk6876 => ?_)
      have hX6893 := hX6872.trans (bU_s hF6890)
      refine p_aload 56 c198_55 rfl rfl ?_
      refine p_aload 57 c198_56 rfl rfl ?_
      refine p_getX 60 (m6894 (A + 10 + (m6818 A 17).toNat) 4) c198_57 rfl (kM_4 (kMr hA hx6824)) rfl ?_
      refine p_aload 61 c198_60 rfl rfl ?_
      refine p_getX 64 (m6894 (A + 10 + (m6818 A 17).toNat) 5) c198_61 rfl (kM_5 (kMr hA hx6824)) rfl ?_
      refine p_iconst 65 c198_64 rfl ?_
      refine p_cTI 68 [.ref 169, yI (m6894 (A + 10 + (m6818 A 17).toNat) 4), yI (m6894 (A + 10 + (m6818 A 17).toNat) 5), yI 0] [] c198_65 rfl rfl rfl (fun k' hk' d' => d197 (f := f) (rfl : ((c.1, c.2.1, pX A) : yS3).2.2 = pX A) hA f k' (by omega) (by omega) _ _ _ _ _ _ (hR6895.rg _ _) (hR6895.rg _ _) (rgD rfl) hR6895) (fun r7355 m7357 hF7353 hg7354 hR7358 n6897 k6896 hk6896 => ?_) (fun e' q7362 m7357 n' hF7353 hE7360 hR7361 => ?_)
      · have hX7356 := hX6893.trans (bT_l hF7353)
        refine p_pop 69 c198_68 rfl rfl ?_
        exact p_return c198_69 (Hr _ hX7356 hR7358 _)
      · exact ⟨fun pq hpq => absurd ((khm rfl).symm.trans hpq) (by simp), fun _ => Ht e' m7357 (hX6893.trans (bT_r hF7353)) hE7360 hR7361 q7362 n'⟩
    · exact ⟨fun pq hpq => absurd ((khm rfl).symm.trans hpq) (by simp), fun _ => Ht e' m6866 (hX6825.trans (bT_r hF6862)) (by have q := hE6869; simp only at q ⊢; omega) hR6870 q6871 n'⟩
  · exact ⟨fun pq hpq => absurd ((khm rfl).symm.trans hpq) (by simp), fun _ => Ht e' m6818 (hX6772.trans (bT_r hF6814)) (by have q := hE6821; simp only at q ⊢; omega) hR6822 q6823 n'⟩
def F199 (f : Nat) (m : yM) : Option ((Int ⊕ Nat) × yM) := (if m (pA (m 0 4)) 17 = (-1) then (some (.inr 11, m)) else (bT (F198 f (pA (m 0 4)) m) (fun _ m7367 => (some (.inl (m7367 169 6), m7367))) (fun e' m7367 => (some (.inr e', m7367)))))
set_option maxRecDepth 100000 in
theorem d199 {L : Nat} {xs : Nat → Int32} {k d n : Nat} {c : yS3} {f : Nat} {m : yM} (hk : k ≤ f) (hR : RM c m) : PC (gZ L xs) k d 199 [.ref 0] m n (qEIe (fun e => e = 10 ∨ e = 11 ∨ e = 12 ∨ e = 13) (F199 f m)) := by
  have hX : F199 f m = F199 f m := rfl
  have Hr : ∀ r m', F199 f m = some (.inl r, m') → rg r → (∃ c, RM c m') → ∀ n' : Nat, (qEIe (fun e => e = 10 ∨ e = 11 ∨ e = 12 ∨ e = 13) (F199 f m)) (.inl (some (yI r))) m' n' := fun r m' e h1 h2 n' => Or.inl ⟨r, rfl, h1, h2, e⟩
  have Ht : ∀ e m', F199 f m = some (.inr e, m') → (fun e => e = 10 ∨ e = 11 ∨ e = 12 ∨ e = 13) e → (∃ c, RM c m') → ∀ x n' : Nat, (qEIe (fun e => e = 10 ∨ e = 11 ∨ e = 12 ∨ e = 13) (F199 f m)) (.inr (e, x)) m' n' := fun e m' e1 h1 h2 x n' => Or.inr ⟨e, x, rfl, h1, h2, e1⟩
  refine PC.mk [some (.ref 0)] kn199 rfl ?_
  refine p_aload 1 c199_0 rfl rfl ?_
  refine p_getV 4 (.ref (pA (m 0 4))) c199_1 rfl kf0_4 (pA_sv2 hR.2.1 rfl) ?_
  refine p_getX 7 (m (pA (m 0 4)) 17) c199_4 rfl (kP_17 (pA_is _)) rfl ?_
  refine p_iconst 8 c199_7 rfl ?_
  refine p_icmp 19 11 c199_8 rfl rfl (yc_ne (hR.rg _ _) (rgD rfl)) (fun hb6760 k6761 hk6761 => ?_) (fun hb6760 k6762 hk6762 => ?_)
  · have hX6763 := hX.trans (if_neg hb6760)
    refine p_aload 20 c199_19 rfl rfl ?_
    refine p_getR 23 c199_20 rfl kf0_3 ?_
    refine p_aload 24 c199_23 rfl rfl ?_
    refine p_getV 27 (.ref (pA (m 0 4))) c199_24 rfl kf0_4 (pA_sv2 hR.2.1 rfl) ?_
    refine p_cTV 30 [.ref 169, .ref (pA (m 0 4))] [] c199_27 rfl rfl rfl (fun k' hk' d' => d198 (f := f) (by omega) (pA_is _) hR) (fun m7367 hF7363 hR7368 n6765 k6764 hk6764 => ?_) (fun e' q7372 m7367 n' hF7363 hE7370 hR7371 => ?_)
    · have hX7366 := hX6763.trans (bT_l hF7363)
      refine p_aload 31 c199_30 rfl rfl ?_
      refine p_getR 34 c199_31 rfl kf0_3 ?_
      refine p_getX 37 (m7367 169 6) c199_34 rfl kf169_6 rfl ?_
      exact p_ireturn c199_37 (Hr _ _ hX7366 (hR7368.rg _ _) ⟨_, hR7368⟩ _)
    · exact ⟨fun pq hpq => absurd ((khm rfl).symm.trans hpq) (by simp), fun _ => Ht e' m7367 (hX6763.trans (bT_r hF7363)) hE7370 ⟨_, hR7371⟩ q7372 n'⟩
  · have hX7373 := hX.trans (if_pos (Classical.not_not.mp hb6760))
    exact p_throw c199_11 (fun x n' => Ht _ _ hX7373 (Or.inr (Or.inl rfl)) ⟨_, hR⟩ x n')
def F200 (f : Nat) (m : yM) : Option (Int × yM) := (bT (F199 f m) (fun r7376 m7378 => (some (0, yup m7378 413 0 ((i2l r7376).toInt)))) (fun e' m7378 => (if e' = 10 then (some (4, m7378)) else (if e' = 11 then (some (1, m7378)) else (if e' = 12 then (some (2, m7378)) else (if e' = 13 then (some (3, m7378)) else none))))))
set_option maxRecDepth 100000 in
theorem d200 {L : Nat} {xs : Nat → Int32} {k d n : Nat} {c : yS3} {f : Nat} {m : yM} (hk : k ≤ f) (hR : RM c m) : PC (gZ L xs) k d 200 [.ref 0, .ref 413] m n (qSe (F200 f m)) := by
  have hX : F200 f m = F200 f m := rfl
  have Hr : ∀ r m', F200 f m = some (r, m') → rg r → (∃ c, RM c m') → ∀ n' : Nat, (qSe (F200 f m)) (.inl (some (yI r))) m' n' := fun r m' e h1 h2 n' => ⟨r, rfl, h1, h2, e⟩
  refine PC.mk [some (.ref 0), some (.ref 413), none] kn200 rfl ?_
  refine p_aload 1 c200_0 rfl rfl ?_
  refine p_iconst 2 c200_1 rfl ?_
  refine p_aload 3 c200_2 rfl rfl ?_
  refine p_cTIe 6 [.ref 0] [yI 0, .ref 413] c200_3 rfl rfl rfl (fun k' hk' d' => d199 (f := f) (by omega) hR) (fun r7376 m7378 c7384 hF7374 hg7375 hR7379 n6759 k6758 hk6758 => ?_) (fun e' q7383 m7378 n' c7384 hF7374 hE7381 hR7382 => ?_)
  · have hX7377 := hX.trans (bT_l hF7374)
    refine p_i2l 7 c200_6 rfl ?_
    refine p_laS 8 c200_7 rfl kl413 (rgD rfl) (fun hx7385 => ?_)
    have hR7386 := hR7379.up 413 0 (v := (i2l r7376).toInt) (nselD rfl) (rg_i2l _)
    refine p_goto 23 c200_8 rfl ?_
    refine p_iconst 24 c200_23 rfl ?_
    exact p_ireturn c200_24 (Hr _ _ hX7377 (rgD rfl) ⟨_, hR7386⟩ _)
  · have hXe := hX.trans (bT_r hF7374)
    rcases hE7381 with rfl | rfl | rfl | rfl
    · have hX7387 := hXe.trans (if_pos rfl)
      refine ⟨fun pq hpq k7388 hk7388 => ?_, fun hno => absurd (r_kh200_3_10.symm.trans hno) (by simp)⟩
      have hpp : pq = 20 := by have := r_kh200_3_10.symm.trans hpq; simpa using this.symm
      subst hpp
      refine p_astore 21 c200_20 rfl rfl ?_
      refine p_iconst 22 c200_21 rfl ?_
      exact p_ireturn c200_22 (Hr _ _ hX7387 (rgD rfl) ⟨_, hR7382⟩ _)
    · have hX7389 := (hXe.trans (if_neg (by decide))).trans (if_pos rfl)
      refine ⟨fun pq hpq k7390 hk7390 => ?_, fun hno => absurd (r_kh200_3_11.symm.trans hno) (by simp)⟩
      have hpp : pq = 11 := by have := r_kh200_3_11.symm.trans hpq; simpa using this.symm
      subst hpp
      refine p_astore 12 c200_11 rfl rfl ?_
      refine p_iconst 13 c200_12 rfl ?_
      exact p_ireturn c200_13 (Hr _ _ hX7389 (rgD rfl) ⟨_, hR7382⟩ _)
    · have hX7391 := ((hXe.trans (if_neg (by decide))).trans (if_neg (by decide))).trans (if_pos rfl)
      refine ⟨fun pq hpq k7392 hk7392 => ?_, fun hno => absurd (r_kh200_3_12.symm.trans hno) (by simp)⟩
      have hpp : pq = 14 := by have := r_kh200_3_12.symm.trans hpq; simpa using this.symm
      subst hpp
      refine p_astore 15 c200_14 rfl rfl ?_
      refine p_iconst 16 c200_15 rfl ?_
      exact p_ireturn c200_16 (Hr _ _ hX7391 (rgD rfl) ⟨_, hR7382⟩ _)
    · have hX7393 := (((hXe.trans (if_neg (by decide))).trans (if_neg (by decide))).trans (if_neg (by decide))).trans (if_pos rfl)
      refine ⟨fun pq hpq k7394 hk7394 => ?_, fun hno => absurd (r_kh200_3_13.symm.trans hno) (by simp)⟩
      have hpp : pq = 17 := by have := r_kh200_3_13.symm.trans hpq; simpa using this.symm
      subst hpp
      refine p_astore 18 c200_17 rfl rfl ?_
      refine p_iconst 19 c200_18 rfl ?_
      exact p_ireturn c200_19 (Hr _ _ hX7393 (rgD rfl) ⟨_, hR7382⟩ _)
def B201_28 (f : Nat) (x2 : Int) (m : yM) : Option ((Int × yM) ⊕ ((Int × yM) ⊕ (Int × yM))) := (if x2 < 8 then (some (.inl ((wr (x2 + 1)), yup m 410 (wr ((wr (8 * (m 376 51))) + x2)).toNat 0))) else (some (.inr (.inl (x2, m)))))
set_option maxRecDepth 100000 in
theorem tB201_28 {L : Nat} {xs : Nat → Int32} {Q : xO → yM → Nat → Prop} {k d n : Nat} {c : yS3} {f : Nat} {x2 : Int} {m : yM} {j1 : Option Value} (hk : k ≤ f) (gx2 : rg x2) (hR : RM c m) (Hn : ∀ (y0 : Int) (z0 : Option Value) (m' : yM) (n' : Nat), B201_28 f x2 m = some (.inl (y0, m')) → rg y0 → RM c m' → ∀ k', k' < k → PW (gZ L xs) k' 201 d 28 [some (.ref 376), z0, some (yI y0)] [] m' n' Q) (He : ∀ (y0 : Int) (z0 : Option Value) (m' : yM) (n' : Nat), B201_28 f x2 m = some (.inr (.inl (y0, m'))) → rg y0 → RM c m' → ∀ k', k' ≤ k → PW (gZ L xs) k' 201 d 55 [some (.ref 376), z0, some (yI y0)] [] m' n' Q) (Hr : ∀ r m', B201_28 f x2 m = some (.inr (.inr (r, m'))) → rg r → RM c m' → ∀ n', Q (.inl (some (yI r))) m' n') : PW (gZ L xs) k 201 d 28 [some (.ref 376), j1, some (yI x2)] [] m n Q := by
  have hX : B201_28 f x2 m = B201_28 f x2 m := rfl
  refine p_iload 29 c201_28 rfl rfl ?_
  refine p_iconst 31 c201_29 rfl ?_
  refine p_icmp 55 34 c201_31 rfl rfl ((yc_ge gx2 (rgD rfl)).trans Int.not_lt.symm) (fun hb7448 k7449 hk7449 => ?_) (fun hb7448 k7450 hk7450 => ?_)
  · have hX7451 := hX.trans (if_neg hb7448)
    exact He _ _ _ _ hX7451 gx2 hR _ (by omega)
  · have hX7452 := hX.trans (if_pos (Classical.not_not.mp hb7448))
    refine p_aload 35 c201_34 rfl rfl ?_
    refine p_getR 38 c201_35 rfl kf376_50 ?_
    refine p_iconst 40 c201_38 rfl ?_
    refine p_aload 41 c201_40 rfl rfl ?_
    refine p_getX 44 (m 376 51) c201_41 rfl kf376_51 rfl ?_
    refine p_imul 45 c201_44 rfl ?_
    refine p_iload 46 c201_45 rfl rfl ?_
    refine p_iadd 47 c201_46 rfl ?_
    refine p_iconst 48 c201_47 rfl ?_
    refine p_iaS 49 c201_48 rfl ka410 (rg_wr _) 0 (nar0 (rgD rfl)) (fun hx7453 => ?_)
    have hR7454 := hR.up 410 (wr ((wr (8 * (m 376 51))) + x2)).toNat (v := 0) (nselA (by decide)) (rgD rfl)
    refine p_iinc 52 c201_49 rfl rfl rfl ?_
    refine p_gotoD 28 c201_52 rfl (fun k7455 hk7455 => ?_)
    exact Hn _ _ _ _ hX7452 (rg_wr _) hR7454 _ (by omega)
def F201 (f : Nat) (x1 : Int) (m : yM) : Option (Int × yM) := (if m 376 51 = 30 then (some (0, yup m 376 57 4)) else (bL (yloop (fun (l : Int) ml => B201_28 f l ml) f 0 (yup m 409 (m 376 51).toNat x1)) (fun l7456 m7462 => (some (wr ((m7462 376 51) + 1), yup m7462 376 51 (wr ((m7462 376 51) + 1))))) (fun r mr => some (r, mr))))
set_option maxRecDepth 100000 in
theorem d201 {L : Nat} {xs : Nat → Int32} {k d n : Nat} {c : yS3} {f : Nat} {x1 : Int} {m : yM} (hk : k ≤ f) (gx1 : rg x1) (hR : RM c m) : PC (gZ L xs) k d 201 [.ref 376, yI x1] m n (qS c (F201 f x1 m)) := by
  have hX : F201 f x1 m = F201 f x1 m := rfl
  have Hr : ∀ r m', F201 f x1 m = some (r, m') → rg r → RM c m' → ∀ n' : Nat, (qS c (F201 f x1 m)) (.inl (some (yI r))) m' n' := fun r m' e h1 h2 n' => ⟨r, rfl, h1, h2, e⟩
  refine PC.mk [some (.ref 376), some (yI x1), none] kn201 rfl ?_
  refine p_aload 1 c201_0 rfl rfl ?_
  refine p_getX 4 (m 376 51) c201_1 rfl kf376_51 rfl ?_
  refine p_iconst 6 c201_4 rfl ?_
  refine p_icmp 16 9 c201_6 rfl rfl (yc_ne (hR.rg _ _) (rgD rfl)) (fun hb7442 k7443 hk7443 => ?_) (fun hb7442 k7444 hk7444 => ?_)
  · have hX7445 := hX.trans (if_neg hb7442)
    refine p_aload 17 c201_16 rfl rfl ?_
    refine p_getR 20 c201_17 rfl kf376_49 ?_
    refine p_aload 21 c201_20 rfl rfl ?_
    refine p_getX 24 (m 376 51) c201_21 rfl kf376_51 rfl ?_
    refine p_iload 25 c201_24 rfl rfl ?_
    refine p_iaS 26 c201_25 rfl ka409 (hR.rg _ _) x1 (nar0 gx1) (fun hx7446 => ?_)
    have hR7447 := hR.up 409 (m 376 51).toNat (v := x1) (nselA (by decide)) gx1
    refine p_iconst 27 c201_26 rfl ?_
    refine p_istore 28 c201_27 rfl rfl ?_
    refine PW.loop (K := k7443) (pce := 55) (fun (l : Int) ml => B201_28 f l ml) (fun (l : Int) j => [some (.ref 376), j 1, some (yI l)]) (fun (l : Int) => rg l) (RM c) (fun r' m' => rg r' → RM c m' → ∀ n' : Nat, (qS c (F201 f x1 m)) (.inl (some (yI r'))) m' n') (fun k' hk' l j m' n' hl hI Hn' He' Hr' => tB201_28 (f := f) (by omega) hl hI (fun y0 y1 m2 n2 e h0 hR2 => Hn' y0 (fun q => ([none, y1, none] : List (Option Value)).getD q none) m2 n2 e h0 hR2) (fun y0 y1 m2 n2 e h0 hR2 => He' y0 (fun q => ([none, y1, none] : List (Option Value)).getD q none) m2 n2 e h0 hR2) Hr') f k7443 (by omega) (Nat.le_refl _) 0 (fun q => ([some (.ref 376), some (yI x1), some (yI 0)] : xL).getD q none) _ _ (rgD rfl) hR7447 (fun l7456 j7459 m7462 n7461 e7458 hl7457 hR7463 k7460 hk7460 => ?_) (fun r' m' e' => ?_)
    · have hX7464 := hX7445.trans (bL_l e7458)
      refine p_aload 56 c201_55 rfl rfl ?_
      refine p_dup 57 c201_56 rfl rfl ?_
      refine p_getX 60 (m7462 376 51) c201_57 rfl kf376_51 rfl ?_
      refine p_iconst 61 c201_60 rfl ?_
      refine p_iadd 62 c201_61 rfl ?_
      refine p_putI 65 c201_62 rfl kf376_51 ?_
      have hR7465 := hR7463.up 376 51 (v := wr ((m7462 376 51) + 1)) (nselD rfl) (rg_wr _)
      refine p_aload 66 c201_65 rfl rfl ?_
      refine p_getX 69 (wr ((m7462 376 51) + 1)) c201_66 rfl kf376_51 (yup_eq _ _ _ _) ?_
      exact p_ireturn c201_69 (Hr _ _ hX7464 (rg_wr _) hR7465 _)
    · exact Hr r' m' (hX7445.trans (bL_r e'))
  · have hX7466 := hX.trans (if_pos (Classical.not_not.mp hb7442))
    refine p_aload 10 c201_9 rfl rfl ?_
    refine p_iconst 11 c201_10 rfl ?_
    refine p_putI 14 c201_11 rfl kf376_57 ?_
    have hR7467 := hR.up 376 57 (v := 4) (nselD rfl) (rgD rfl)
    refine p_iconst 15 c201_14 rfl ?_
    exact p_ireturn c201_15 (Hr _ _ hX7466 (rgD rfl) hR7467 _)
def F202 (f : Nat) (x1 : Int) (x2 : Int) (m : yM) : Option yM := (if 0 < x2 then (some (yup (yup m 411 (wr ((wr (48 * (wr ((m 376 54) - 1)))) + x1)).toNat x2) 408 (wr ((wr (12 * x1)) + (m 409 (wr (x2 - 1)).toNat))).toNat 1)) else (some (yup m 411 (wr ((wr (48 * (wr ((m 376 54) - 1)))) + x1)).toNat x2)))
set_option maxRecDepth 100000 in
theorem d202 {L : Nat} {xs : Nat → Int32} {k d n : Nat} {c : yS3} {f : Nat} {x1 : Int} {x2 : Int} {m : yM} (hk : k ≤ f) (gx1 : rg x1) (gx2 : rg x2) (hR : RM c m) : PC (gZ L xs) k d 202 [.ref 376, yI x1, yI x2] m n (qV c (F202 f x1 x2 m)) := by
  have hX : F202 f x1 x2 m = F202 f x1 x2 m := rfl
  have Hr : ∀ m', F202 f x1 x2 m = some m' → RM c m' → ∀ n' : Nat, (qV c (F202 f x1 x2 m)) (.inl none) m' n' := fun m' e h n' => ⟨rfl, h, e⟩
  refine PC.mk [some (.ref 376), some (yI x1), some (yI x2)] kn202 rfl ?_
  refine p_aload 1 c202_0 rfl rfl ?_
  refine p_getR 4 c202_1 rfl kf376_52 ?_
  refine p_iconst 6 c202_4 rfl ?_
  refine p_aload 7 c202_6 rfl rfl ?_
  refine p_getX 10 (m 376 54) c202_7 rfl kf376_54 rfl ?_
  refine p_iconst 11 c202_10 rfl ?_
  refine p_isub 12 c202_11 rfl ?_
  refine p_imul 13 c202_12 rfl ?_
  refine p_iload 14 c202_13 rfl rfl ?_
  refine p_iadd 15 c202_14 rfl ?_
  refine p_iload 16 c202_15 rfl rfl ?_
  refine p_iaS 17 c202_16 rfl ka411 (rg_wr _) x2 (nar0 gx2) (fun hx7509 => ?_)
  have hR7510 := hR.up 411 (wr ((wr (48 * (wr ((m 376 54) - 1)))) + x1)).toNat (v := x2) (nselA (by decide)) gx2
  refine p_iload 18 c202_17 rfl rfl ?_
  refine p_if 40 21 c202_18 rfl rfl ((yz_le gx2).trans Int.not_lt.symm) (fun hb7511 k7512 hk7512 => ?_) (fun hb7511 k7513 hk7513 => ?_)
  · have hX7514 := hX.trans (if_neg hb7511)
    exact p_return c202_40 (Hr _ hX7514 hR7510 _)
  · have hX7515 := hX.trans (if_pos (Classical.not_not.mp hb7511))
    refine p_aload 22 c202_21 rfl rfl ?_
    refine p_getR 25 c202_22 rfl kf376_48 ?_
    refine p_iconst 27 c202_25 rfl ?_
    refine p_iload 28 c202_27 rfl rfl ?_
    refine p_imul 29 c202_28 rfl ?_
    refine p_aload 30 c202_29 rfl rfl ?_
    refine p_getR 33 c202_30 rfl kf376_49 ?_
    refine p_iload 34 c202_33 rfl rfl ?_
    refine p_iconst 35 c202_34 rfl ?_
    refine p_isub 36 c202_35 rfl ?_
    refine p_iaX 37 (m 409 (wr (x2 - 1)).toNat) c202_36 rfl ka409 (rg_wr _) (yup_na (by decide)) (fun hx7516 => ?_)
    refine p_iadd 38 c202_37 rfl ?_
    refine p_iconst 39 c202_38 rfl ?_
    refine p_iaS 40 c202_39 rfl ka408 (rg_wr _) 1 rfl (fun hx7517 => ?_)
    have hR7518 := hR7510.up 408 (wr ((wr (12 * x1)) + (m 409 (wr (x2 - 1)).toNat))).toNat (v := 1) (nselA (by decide)) (rgD rfl)
    exact p_return c202_40 (Hr _ hX7515 hR7518 _)
def B203_38 (f : Nat) (x1 : Int) (x2 : Int) (x3 : Int) (x4 : Int) (x6 : Int) (m : yM) : Option ((Int × yM) ⊕ ((Int × yM) ⊕ (Unit × yM))) := (if x6 < 48 then (some (.inl ((wr (x6 + 1)), yup m 411 (wr ((wr (48 * (wr ((m 376 54) - 1)))) + x6)).toNat 0))) else (some (.inr (.inl (x6, m)))))
set_option maxRecDepth 100000 in
theorem tB203_38 {L : Nat} {xs : Nat → Int32} {Q : xO → yM → Nat → Prop} {k d n : Nat} {c : yS3} {f : Nat} {x1 : Int} {x2 : Int} {x3 : Int} {x4 : Int} {x6 : Int} {m : yM} {j5 : Option Value} (hk : k ≤ f) (gx1 : rg x1) (gx2 : rg x2) (gx3 : rg x3) (gx4 : rg x4) (gx6 : rg x6) (hR : RM c m) (Hn : ∀ (y0 : Int) (z0 : Option Value) (m' : yM) (n' : Nat), B203_38 f x1 x2 x3 x4 x6 m = some (.inl (y0, m')) → rg y0 → RM c m' → ∀ k', k' < k → PW (gZ L xs) k' 203 d 38 [some (.ref 376), some (yI x1), some (yI x2), some (yI x3), some (yI x4), z0, some (yI y0)] [] m' n' Q) (He : ∀ (y0 : Int) (z0 : Option Value) (m' : yM) (n' : Nat), B203_38 f x1 x2 x3 x4 x6 m = some (.inr (.inl (y0, m'))) → rg y0 → RM c m' → ∀ k', k' ≤ k → PW (gZ L xs) k' 203 d 69 [some (.ref 376), some (yI x1), some (yI x2), some (yI x3), some (yI x4), z0, some (yI y0)] [] m' n' Q) (Hr : ∀ m', B203_38 f x1 x2 x3 x4 x6 m = some (.inr (.inr ((), m'))) → RM c m' → ∀ n', Q (.inl none) m' n') : PW (gZ L xs) k 203 d 38 [some (.ref 376), some (yI x1), some (yI x2), some (yI x3), some (yI x4), j5, some (yI x6)] [] m n Q := by
  have hX : B203_38 f x1 x2 x3 x4 x6 m = B203_38 f x1 x2 x3 x4 x6 m := rfl
  refine p_iload 40 c203_38 rfl rfl ?_
  refine p_iconst 42 c203_40 rfl ?_
  refine p_icmp 69 45 c203_42 rfl rfl ((yc_ge gx6 (rgD rfl)).trans Int.not_lt.symm) (fun hb7489 k7490 hk7490 => ?_) (fun hb7489 k7491 hk7491 => ?_)
  · have hX7492 := hX.trans (if_neg hb7489)
    exact He _ _ _ _ hX7492 gx6 hR _ (by omega)
  · have hX7493 := hX.trans (if_pos (Classical.not_not.mp hb7489))
    refine p_aload 46 c203_45 rfl rfl ?_
    refine p_getR 49 c203_46 rfl kf376_52 ?_
    refine p_iconst 51 c203_49 rfl ?_
    refine p_aload 52 c203_51 rfl rfl ?_
    refine p_getX 55 (m 376 54) c203_52 rfl kf376_54 rfl ?_
    refine p_iconst 56 c203_55 rfl ?_
    refine p_isub 57 c203_56 rfl ?_
    refine p_imul 58 c203_57 rfl ?_
    refine p_iload 60 c203_58 rfl rfl ?_
    refine p_iadd 61 c203_60 rfl ?_
    refine p_iconst 62 c203_61 rfl ?_
    refine p_iaS 63 c203_62 rfl ka411 (rg_wr _) 0 (nar0 (rgD rfl)) (fun hx7494 => ?_)
    have hR7495 := hR.up 411 (wr ((wr (48 * (wr ((m 376 54) - 1)))) + x6)).toNat (v := 0) (nselA (by decide)) (rgD rfl)
    refine p_iinc 66 c203_63 rfl rfl rfl ?_
    refine p_gotoD 38 c203_66 rfl (fun k7496 hk7496 => ?_)
    exact Hn _ _ _ _ hX7493 (rg_wr _) hR7495 _ (by omega)
def J203_148 (f : Nat) (x1 : Int) (m : yM) : Option yM := (some (yup m 376 55 (m 399 (wr ((wr (10 * (m 376 18))) + x1)).toNat)))
set_option maxRecDepth 100000 in
theorem tJ203_148 {L : Nat} {xs : Nat → Int32} {Q : xO → yM → Nat → Prop} {k d n : Nat} {c : yS3} {f : Nat} {x1 : Int} {m : yM} {j2 j3 j4 j5 j6 : Option Value} (hk : k ≤ f) (gx1 : rg x1) (hR : RM c m) (Hr : ∀ m', J203_148 f x1 m = some m' → RM c m' → ∀ n', Q (.inl none) m' n') : PW (gZ L xs) k 203 d 148 [some (.ref 376), some (yI x1), j2, j3, j4, j5, j6] [] m n Q := by
  have hX : J203_148 f x1 m = J203_148 f x1 m := rfl
  refine p_aload 149 c203_148 rfl rfl ?_
  refine p_aload 150 c203_149 rfl rfl ?_
  refine p_getR 153 c203_150 rfl kf376_36 ?_
  refine p_iconst 155 c203_153 rfl ?_
  refine p_aload 156 c203_155 rfl rfl ?_
  refine p_getX 159 (m 376 18) c203_156 rfl kf376_18 rfl ?_
  refine p_imul 160 c203_159 rfl ?_
  refine p_iload 161 c203_160 rfl rfl ?_
  refine p_iadd 162 c203_161 rfl ?_
  refine p_iaX 163 (m 399 (wr ((wr (10 * (m 376 18))) + x1)).toNat) c203_162 rfl ka399 (rg_wr _) rfl (fun hx7535 => ?_)
  refine p_putI 166 c203_163 rfl kf376_55 ?_
  have hR7536 := hR.up 376 55 (v := m 399 (wr ((wr (10 * (m 376 18))) + x1)).toNat) (nselD rfl) (hR.rg _ _)
  exact p_return c203_166 (Hr _ hX hR7536 _)
def J203_120 (f : Nat) (x1 : Int) (x4 : Int) (x6 : Int) (m : yM) : Option yM := (if 1 < m 397 (wr ((wr (10 * (m 376 18))) + x1)).toNat then (bU (F202 f (wr (x6 + 3)) x4 m) (fun m7544 => (J203_148 f x1 m7544))) else (J203_148 f x1 m))
set_option maxRecDepth 100000 in
theorem tJ203_120 {L : Nat} {xs : Nat → Int32} {Q : xO → yM → Nat → Prop} {k d n : Nat} {c : yS3} {f : Nat} {x1 : Int} {x4 : Int} {x6 : Int} {m : yM} {j2 j3 j5 : Option Value} (hk : k ≤ f) (gx1 : rg x1) (gx4 : rg x4) (gx6 : rg x6) (hR : RM c m) (Hr : ∀ m', J203_120 f x1 x4 x6 m = some m' → RM c m' → ∀ n', Q (.inl none) m' n') : PW (gZ L xs) k 203 d 120 [some (.ref 376), some (yI x1), j2, j3, some (yI x4), j5, some (yI x6)] [] m n Q := by
  have hX : J203_120 f x1 x4 x6 m = J203_120 f x1 x4 x6 m := rfl
  refine p_aload 121 c203_120 rfl rfl ?_
  refine p_getR 124 c203_121 rfl kf376_34 ?_
  refine p_iconst 126 c203_124 rfl ?_
  refine p_aload 127 c203_126 rfl rfl ?_
  refine p_getX 130 (m 376 18) c203_127 rfl kf376_18 rfl ?_
  refine p_imul 131 c203_130 rfl ?_
  refine p_iload 132 c203_131 rfl rfl ?_
  refine p_iadd 133 c203_132 rfl ?_
  refine p_iaX 134 (m 397 (wr ((wr (10 * (m 376 18))) + x1)).toNat) c203_133 rfl ka397 (rg_wr _) rfl (fun hx7530 => ?_)
  refine p_iconst 135 c203_134 rfl ?_
  refine p_icmp 148 138 c203_135 rfl rfl ((yc_le (hR.rg _ _) (rgD rfl)).trans Int.not_lt.symm) (fun hb7531 k7532 hk7532 => ?_) (fun hb7531 k7533 hk7533 => ?_)
  · have hX7534 := hX.trans (if_neg hb7531)
    exact tJ203_148 (f := f) (by omega) gx1 hR (fun m' e' => Hr m' (hX7534.trans e'))
  · have hX7537 := hX.trans (if_pos (Classical.not_not.mp hb7531))
    refine p_aload 139 c203_138 rfl rfl ?_
    refine p_iload 141 c203_139 rfl rfl ?_
    refine p_iconst 142 c203_141 rfl ?_
    refine p_iadd 143 c203_142 rfl ?_
    refine p_iload 145 c203_143 rfl rfl ?_
    refine p_cV 148 [.ref 376, yI (wr (x6 + 3)), yI x4] [] c203_145 rfl rfl rfl (fun k' hk' d' => d202 (f := f) (by omega) (rg_wr _) gx4 hR) (fun m7544 hF7540 hR7545 n7539 k7538 hk7538 => ?_)
    have hX7543 := hX7537.trans (bU_s hF7540)
    exact tJ203_148 (f := f) (by omega) gx1 hR7545 (fun m' e' => Hr m' (hX7543.trans e'))
def F203 (f : Nat) (x1 : Int) (x2 : Int) (x3 : Int) (x4 : Int) (x5 : Int) (m : yM) : Option yM := (if m 376 54 = 4 then (some (yup m 376 57 4)) else (bL (yloop (fun (l : Int) ml => B203_38 f x1 x2 x3 x4 l ml) f 0 (yup (yup m 412 (m 376 54).toNat x5) 376 54 (wr ((m 376 54) + 1)))) (fun l7497 m7503 => (bU (F202 f (wr ((m7503 398 (wr ((wr (10 * (m7503 376 18))) + x1)).toNat) + 1)) x2 m7503) (fun m7523 => (if 0 < m7523 397 (wr ((wr (10 * (m7523 376 18))) + x1)).toNat then (bU (F202 f (wr ((m7503 398 (wr ((wr (10 * (m7503 376 18))) + x1)).toNat) + 2)) x3 m7523) (fun m7553 => (J203_120 f x1 x4 (m7503 398 (wr ((wr (10 * (m7503 376 18))) + x1)).toNat) m7553))) else (J203_120 f x1 x4 (m7503 398 (wr ((wr (10 * (m7503 376 18))) + x1)).toNat) m7523))))) (fun _ mr => some mr)))
set_option maxRecDepth 100000 in
theorem d203 {L : Nat} {xs : Nat → Int32} {k d n : Nat} {c : yS3} {f : Nat} {x1 : Int} {x2 : Int} {x3 : Int} {x4 : Int} {x5 : Int} {m : yM} (hk : k ≤ f) (gx1 : rg x1) (gx2 : rg x2) (gx3 : rg x3) (gx4 : rg x4) (gx5 : rg x5) (hR : RM c m) : PC (gZ L xs) k d 203 [.ref 376, yI x1, yI x2, yI x3, yI x4, yI x5] m n (qV c (F203 f x1 x2 x3 x4 x5 m)) := by
  have hX : F203 f x1 x2 x3 x4 x5 m = F203 f x1 x2 x3 x4 x5 m := rfl
  have Hr : ∀ m', F203 f x1 x2 x3 x4 x5 m = some m' → RM c m' → ∀ n' : Nat, (qV c (F203 f x1 x2 x3 x4 x5 m)) (.inl none) m' n' := fun m' e h n' => ⟨rfl, h, e⟩
  refine PC.mk [some (.ref 376), some (yI x1), some (yI x2), some (yI x3), some (yI x4), some (yI x5), none] kn203 rfl ?_
  refine p_aload 1 c203_0 rfl rfl ?_
  refine p_getX 4 (m 376 54) c203_1 rfl kf376_54 rfl ?_
  refine p_iconst 5 c203_4 rfl ?_
  refine p_icmp 14 8 c203_5 rfl rfl (yc_ne (hR.rg _ _) (rgD rfl)) (fun hb7482 k7483 hk7483 => ?_) (fun hb7482 k7484 hk7484 => ?_)
  · have hX7485 := hX.trans (if_neg hb7482)
    refine p_aload 15 c203_14 rfl rfl ?_
    refine p_getR 18 c203_15 rfl kf376_53 ?_
    refine p_aload 19 c203_18 rfl rfl ?_
    refine p_getX 22 (m 376 54) c203_19 rfl kf376_54 rfl ?_
    refine p_iload 24 c203_22 rfl rfl ?_
    refine p_iaS 25 c203_24 rfl ka412 (hR.rg _ _) x5 (nar0 gx5) (fun hx7486 => ?_)
    have hR7487 := hR.up 412 (m 376 54).toNat (v := x5) (nselA (by decide)) gx5
    refine p_aload 26 c203_25 rfl rfl ?_
    refine p_dup 27 c203_26 rfl rfl ?_
    refine p_getX 30 (m 376 54) c203_27 rfl kf376_54 (yup_na (by decide)) ?_
    refine p_iconst 31 c203_30 rfl ?_
    refine p_iadd 32 c203_31 rfl ?_
    refine p_putI 35 c203_32 rfl kf376_54 ?_
    have hR7488 := hR7487.up 376 54 (v := wr ((m 376 54) + 1)) (nselD rfl) (rg_wr _)
    refine p_iconst 36 c203_35 rfl ?_
    refine p_istore 38 c203_36 rfl rfl ?_
    refine PW.loop (K := k7483) (pce := 69) (fun (l : Int) ml => B203_38 f x1 x2 x3 x4 l ml) (fun (l : Int) j => [some (.ref 376), some (yI x1), some (yI x2), some (yI x3), some (yI x4), j 5, some (yI l)]) (fun (l : Int) => rg l) (RM c) (fun (r' : Unit) m' => RM c m' → ∀ n' : Nat, (qV c (F203 f x1 x2 x3 x4 x5 m)) (.inl none) m' n') (fun k' hk' l j m' n' hl hI Hn' He' Hr' => tB203_38 (f := f) (by omega) gx1 gx2 gx3 gx4 hl hI (fun y0 y1 m2 n2 e h0 hR2 => Hn' y0 (fun q => ([none, none, none, none, none, y1, none] : List (Option Value)).getD q none) m2 n2 e h0 hR2) (fun y0 y1 m2 n2 e h0 hR2 => He' y0 (fun q => ([none, none, none, none, none, y1, none] : List (Option Value)).getD q none) m2 n2 e h0 hR2) (fun m2 e => Hr' () m2 e)) f k7483 (by omega) (Nat.le_refl _) 0 (fun q => ([some (.ref 376), some (yI x1), some (yI x2), some (yI x3), some (yI x4), some (yI x5), some (yI 0)] : xL).getD q none) _ _ (rgD rfl) hR7488 (fun l7497 j7500 m7503 n7502 e7499 hl7498 hR7504 k7501 hk7501 => ?_) (fun r' m' e' => ?_)
    · have hX7505 := hX7485.trans (bL_l e7499)
      refine p_aload 70 c203_69 rfl rfl ?_
      refine p_getR 73 c203_70 rfl kf376_35 ?_
      refine p_iconst 75 c203_73 rfl ?_
      refine p_aload 76 c203_75 rfl rfl ?_
      refine p_getX 79 (m7503 376 18) c203_76 rfl kf376_18 rfl ?_
      refine p_imul 80 c203_79 rfl ?_
      refine p_iload 81 c203_80 rfl rfl ?_
      refine p_iadd 82 c203_81 rfl ?_
      refine p_iaX 83 (m7503 398 (wr ((wr (10 * (m7503 376 18))) + x1)).toNat) c203_82 rfl ka398 (rg_wr _) rfl (fun hx7506 => ?_)
      refine p_istore 85 c203_83 rfl rfl ?_
      refine p_aload 86 c203_85 rfl rfl ?_
      refine p_iload 88 c203_86 rfl rfl ?_
      refine p_iconst 89 c203_88 rfl ?_
      refine p_iadd 90 c203_89 rfl ?_
      refine p_iload 91 c203_90 rfl rfl ?_
      refine p_cV 94 [.ref 376, yI (wr ((m7503 398 (wr ((wr (10 * (m7503 376 18))) + x1)).toNat) + 1)), yI x2] [] c203_91 rfl rfl rfl (fun k' hk' d' => d202 (f := f) (by omega) (rg_wr _) gx2 hR7504) (fun m7523 hF7519 hR7524 n7508 k7507 hk7507 => ?_)
      have hX7522 := hX7505.trans (bU_s hF7519)
      refine p_aload 95 c203_94 rfl rfl ?_
      refine p_getR 98 c203_95 rfl kf376_34 ?_
      refine p_iconst 100 c203_98 rfl ?_
      refine p_aload 101 c203_100 rfl rfl ?_
      refine p_getX 104 (m7523 376 18) c203_101 rfl kf376_18 rfl ?_
      refine p_imul 105 c203_104 rfl ?_
      refine p_iload 106 c203_105 rfl rfl ?_
      refine p_iadd 107 c203_106 rfl ?_
      refine p_iaX 108 (m7523 397 (wr ((wr (10 * (m7523 376 18))) + x1)).toNat) c203_107 rfl ka397 (rg_wr _) rfl (fun hx7525 => ?_)
      refine p_if 120 111 c203_108 rfl rfl ((yz_le (hR7524.rg _ _)).trans Int.not_lt.symm) (fun hb7526 k7527 hk7527 => ?_) (fun hb7526 k7528 hk7528 => ?_)
      · have hX7529 := hX7522.trans (if_neg hb7526)
        exact tJ203_120 (f := f) (by omega) gx1 gx4 (hR7504.rg _ _) hR7524 (fun m' e' => Hr m' (hX7529.trans e'))
      · have hX7546 := hX7522.trans (if_pos (Classical.not_not.mp hb7526))
        refine p_aload 112 c203_111 rfl rfl ?_
        refine p_iload 114 c203_112 rfl rfl ?_
        refine p_iconst 115 c203_114 rfl ?_
        refine p_iadd 116 c203_115 rfl ?_
        refine p_iload 117 c203_116 rfl rfl ?_
        refine p_cV 120 [.ref 376, yI (wr ((m7503 398 (wr ((wr (10 * (m7503 376 18))) + x1)).toNat) + 2)), yI x3] [] c203_117 rfl rfl rfl (fun k' hk' d' => d202 (f := f) (by omega) (rg_wr _) gx3 hR7524) (fun m7553 hF7549 hR7554 n7548 k7547 hk7547 => ?_)
        have hX7552 := hX7546.trans (bU_s hF7549)
        exact tJ203_120 (f := f) (by omega) gx1 gx4 (hR7504.rg _ _) hR7554 (fun m' e' => Hr m' (hX7552.trans e'))
    · exact Hr m' (hX7485.trans (bL_r e'))
  · have hX7555 := hX.trans (if_pos (Classical.not_not.mp hb7482))
    refine p_aload 9 c203_8 rfl rfl ?_
    refine p_iconst 10 c203_9 rfl ?_
    refine p_putI 13 c203_10 rfl kf376_57 ?_
    have hR7556 := hR.up 376 57 (v := 4) (nselD rfl) (rgD rfl)
    exact p_return c203_13 (Hr _ hX7555 hR7556 _)
def F205 (x1 : Int) (m : yM) : Int := (m 411 (wr ((wr (48 * (wr ((m 376 54) - 1)))) + x1)).toNat)
set_option maxRecDepth 100000 in
theorem d205 {L : Nat} {xs : Nat → Int32} {k d n : Nat} {c : yS3} {x1 : Int} {m : yM} (gx1 : rg x1) (hR : RM c m) : PC (gZ L xs) k d 205 [.ref 376, yI x1] m n (qX m (F205 x1 m)) := by
  have hX : F205 x1 m = F205 x1 m := rfl
  have Hr : ∀ r, F205 x1 m = r → rg r → ∀ n' : Nat, (qX m (F205 x1 m)) (.inl (some (yI r))) m n' := fun r e h n' => by subst e; exact ⟨rfl, h, rfl⟩
  refine PC.mk [some (.ref 376), some (yI x1)] kn205 rfl ?_
  refine p_aload 1 c205_0 rfl rfl ?_
  refine p_getR 4 c205_1 rfl kf376_52 ?_
  refine p_iconst 6 c205_4 rfl ?_
  refine p_aload 7 c205_6 rfl rfl ?_
  refine p_getX 10 (m 376 54) c205_7 rfl kf376_54 rfl ?_
  refine p_iconst 11 c205_10 rfl ?_
  refine p_isub 12 c205_11 rfl ?_
  refine p_imul 13 c205_12 rfl ?_
  refine p_iload 14 c205_13 rfl rfl ?_
  refine p_iadd 15 c205_14 rfl ?_
  refine p_iaX 16 (m 411 (wr ((wr (48 * (wr ((m 376 54) - 1)))) + x1)).toNat) c205_15 rfl ka411 (rg_wr _) rfl (fun hx7603 => ?_)
  exact p_ireturn c205_16 (Hr _ hX (hR.rg _ _) _)
def F206 (x1 : Int) (m : yM) : Int := (m 400 (wr ((wr (12 * (m 376 18))) + (m 409 (wr (x1 - 1)).toNat))).toNat)
set_option maxRecDepth 100000 in
theorem d206 {L : Nat} {xs : Nat → Int32} {k d n : Nat} {c : yS3} {x1 : Int} {m : yM} (gx1 : rg x1) (hR : RM c m) : PC (gZ L xs) k d 206 [.ref 376, yI x1] m n (qX m (F206 x1 m)) := by
  have hX : F206 x1 m = F206 x1 m := rfl
  have Hr : ∀ r, F206 x1 m = r → rg r → ∀ n' : Nat, (qX m (F206 x1 m)) (.inl (some (yI r))) m n' := fun r e h n' => by subst e; exact ⟨rfl, h, rfl⟩
  refine PC.mk [some (.ref 376), some (yI x1)] kn206 rfl ?_
  refine p_aload 1 c206_0 rfl rfl ?_
  refine p_getR 4 c206_1 rfl kf376_37 ?_
  refine p_iconst 6 c206_4 rfl ?_
  refine p_aload 7 c206_6 rfl rfl ?_
  refine p_getX 10 (m 376 18) c206_7 rfl kf376_18 rfl ?_
  refine p_imul 11 c206_10 rfl ?_
  refine p_aload 12 c206_11 rfl rfl ?_
  refine p_getR 15 c206_12 rfl kf376_49 ?_
  refine p_iload 16 c206_15 rfl rfl ?_
  refine p_iconst 17 c206_16 rfl ?_
  refine p_isub 18 c206_17 rfl ?_
  refine p_iaX 19 (m 409 (wr (x1 - 1)).toNat) c206_18 rfl ka409 (rg_wr _) rfl (fun hx7671 => ?_)
  refine p_iadd 20 c206_19 rfl ?_
  refine p_iaX 21 (m 400 (wr ((wr (12 * (m 376 18))) + (m 409 (wr (x1 - 1)).toNat))).toNat) c206_20 rfl ka400 (rg_wr _) rfl (fun hx7672 => ?_)
  exact p_ireturn c206_21 (Hr _ hX (hR.rg _ _) _)
def J208_54 (f : Nat) (x1 : Int) (x2 : Int) (x3 : Int) (xs1 : Int) (m : yM) : Option yM := (bI (F23 f xs1 1 m) (fun r7660 m7662 => (if r7660 = 0 then (some m7662) else (bP (F121 f (m7662 376 18) (F206 x3 m7662) (m7662 403 (wr (x1 + 4)).toNat) m7662) (fun r7679 => (bI (F23 f r7679 3 m7662) (fun r7685 m7687 => (if r7685 = 0 then (some m7687) else (if x2 = 0 then (some (yup m7687 410 (wr ((wr (8 * (wr (x3 - 1)))) + (m7687 403 (wr (x1 + 4)).toNat))).toNat (F205 (m7687 403 (wr (x1 + 3)).toNat) m7687))) else (bU (F202 f (m7687 403 (wr (x1 + 2)).toNat) (m7687 410 (wr ((wr (8 * (wr (x3 - 1)))) + (m7687 403 (wr (x1 + 4)).toNat))).toNat) m7687) (fun m7713 => (some m7713))))))))))))
set_option maxRecDepth 100000 in
theorem tJ208_54 {L : Nat} {xs : Nat → Int32} {Q : xO → yM → Nat → Prop} {k d n : Nat} {c : yS3} {f : Nat} {x1 : Int} {x2 : Int} {x3 : Int} {xs1 : Int} {m : yM} {j4 : Option Value} (hk : k ≤ f) (gx1 : rg x1) (gx2 : rg x2) (gx3 : rg x3) (gxs1 : rg xs1) (hR : RM c m) (Hr : ∀ m', J208_54 f x1 x2 x3 xs1 m = some m' → RM c m' → ∀ n', Q (.inl none) m' n') : PW (gZ L xs) k 208 d 54 [some (.ref 376), some (yI x1), some (yI x2), some (yI x3), j4] [yI xs1, .ref 376] m n Q := by
  have hX : J208_54 f x1 x2 x3 xs1 m = J208_54 f x1 x2 x3 xs1 m := rfl
  refine p_iconst 55 c208_54 rfl ?_
  refine p_cS 58 [.ref 376, yI xs1, yI 1] [] c208_55 rfl rfl rfl (fun k' hk' d' => d23 (f := f) (by omega) gxs1 (rgD rfl) hR) (fun r7660 m7662 hF7658 hg7659 hR7663 n7657 k7656 hk7656 => ?_)
  have hX7661 := hX.trans (bI_s hF7658)
  refine p_if 90 61 c208_58 rfl rfl (yz_eq hg7659) (fun hb7664 k7665 hk7665 => ?_) (fun hb7664 k7666 hk7666 => ?_)
  · have hX7667 := hX7661.trans (if_pos hb7664)
    exact p_return c208_90 (Hr _ hX7667 hR7663 _)
  · have hX7668 := hX7661.trans (if_neg hb7664)
    refine p_aload 62 c208_61 rfl rfl ?_
    refine p_aload 63 c208_62 rfl rfl ?_
    refine p_aload 64 c208_63 rfl rfl ?_
    refine p_getX 67 (m7662 376 18) c208_64 rfl kf376_18 rfl ?_
    refine p_aload 68 c208_67 rfl rfl ?_
    refine p_iload 69 c208_68 rfl rfl ?_
    refine p_cX 72 [.ref 376, yI x3] [yI (m7662 376 18), .ref 376, .ref 376] c208_69 rfl rfl rfl (fun k' hk' d' => d206 gx3 hR7663) (fun hg7673 n7670 k7669 hk7669 => ?_)
    refine p_aload 73 c208_72 rfl rfl ?_
    refine p_getR 76 c208_73 rfl kf376_40 ?_
    refine p_iload 77 c208_76 rfl rfl ?_
    refine p_iconst 78 c208_77 rfl ?_
    refine p_iadd 79 c208_78 rfl ?_
    refine p_iaX 80 (m7662 403 (wr (x1 + 4)).toNat) c208_79 rfl ka403 (rg_wr _) rfl (fun hx7674 => ?_)
    refine p_cO 83 [.ref 376, yI (m7662 376 18), yI (F206 x3 m7662), yI (m7662 403 (wr (x1 + 4)).toNat)] [.ref 376] c208_80 rfl rfl rfl (fun k' hk' d' => d121 (f := f) (by omega) (hR7663.rg _ _) hg7673 (hR7663.rg _ _) hR7663) (fun r7679 hF7677 hg7678 n7676 k7675 hk7675 => ?_)
    have hX7680 := hX7668.trans (bP_s hF7677)
    refine p_iconst 84 c208_83 rfl ?_
    refine p_cS 87 [.ref 376, yI r7679, yI 3] [] c208_84 rfl rfl rfl (fun k' hk' d' => d23 (f := f) (by omega) hg7678 (rgD rfl) hR7663) (fun r7685 m7687 hF7683 hg7684 hR7688 n7682 k7681 hk7681 => ?_)
    have hX7686 := hX7680.trans (bI_s hF7683)
    refine p_if 91 90 c208_87 rfl rfl (yz_ne hg7684) (fun hb7689 k7690 hk7690 => ?_) (fun hb7689 k7691 hk7691 => ?_)
    · have hX7692 := hX7686.trans (if_neg hb7689)
      refine p_iconst 93 c208_91 rfl ?_
      refine p_iload 94 c208_93 rfl rfl ?_
      refine p_iconst 95 c208_94 rfl ?_
      refine p_isub 96 c208_95 rfl ?_
      refine p_imul 97 c208_96 rfl ?_
      refine p_aload 98 c208_97 rfl rfl ?_
      refine p_getR 101 c208_98 rfl kf376_40 ?_
      refine p_iload 102 c208_101 rfl rfl ?_
      refine p_iconst 103 c208_102 rfl ?_
      refine p_iadd 104 c208_103 rfl ?_
      refine p_iaX 105 (m7687 403 (wr (x1 + 4)).toNat) c208_104 rfl ka403 (rg_wr _) rfl (fun hx7693 => ?_)
      refine p_iadd 106 c208_105 rfl ?_
      refine p_istore 108 c208_106 rfl rfl ?_
      refine p_iload 109 c208_108 rfl rfl ?_
      refine p_if 134 112 c208_109 rfl rfl (yz_eq gx2) (fun hb7694 k7695 hk7695 => ?_) (fun hb7694 k7696 hk7696 => ?_)
      · have hX7697 := hX7692.trans (if_pos hb7694)
        refine p_aload 135 c208_134 rfl rfl ?_
        refine p_getR 138 c208_135 rfl kf376_50 ?_
        refine p_iload 140 c208_138 rfl rfl ?_
        refine p_aload 141 c208_140 rfl rfl ?_
        refine p_aload 142 c208_141 rfl rfl ?_
        refine p_getR 145 c208_142 rfl kf376_40 ?_
        refine p_iload 146 c208_145 rfl rfl ?_
        refine p_iconst 147 c208_146 rfl ?_
        refine p_iadd 148 c208_147 rfl ?_
        refine p_iaX 149 (m7687 403 (wr (x1 + 3)).toNat) c208_148 rfl ka403 (rg_wr _) rfl (fun hx7698 => ?_)
        refine p_cX 152 [.ref 376, yI (m7687 403 (wr (x1 + 3)).toNat)] [yI (wr ((wr (8 * (wr (x3 - 1)))) + (m7687 403 (wr (x1 + 4)).toNat))), .ref 410] c208_149 rfl rfl rfl (fun k' hk' d' => d205 (hR7688.rg _ _) hR7688) (fun hg7701 n7700 k7699 hk7699 => ?_)
        refine p_iaS 153 c208_152 rfl ka410 (rg_wr _) (F205 (m7687 403 (wr (x1 + 3)).toNat) m7687) (nar0 hg7701) (fun hx7702 => ?_)
        have hR7703 := hR7688.up 410 (wr ((wr (8 * (wr (x3 - 1)))) + (m7687 403 (wr (x1 + 4)).toNat))).toNat (v := F205 (m7687 403 (wr (x1 + 3)).toNat) m7687) (nselA (by decide)) hg7701
        exact p_return c208_153 (Hr _ hX7697 hR7703 _)
      · have hX7704 := hX7692.trans (if_neg hb7694)
        refine p_aload 113 c208_112 rfl rfl ?_
        refine p_aload 114 c208_113 rfl rfl ?_
        refine p_getR 117 c208_114 rfl kf376_40 ?_
        refine p_iload 118 c208_117 rfl rfl ?_
        refine p_iconst 119 c208_118 rfl ?_
        refine p_iadd 120 c208_119 rfl ?_
        refine p_iaX 121 (m7687 403 (wr (x1 + 2)).toNat) c208_120 rfl ka403 (rg_wr _) rfl (fun hx7705 => ?_)
        refine p_aload 122 c208_121 rfl rfl ?_
        refine p_getR 125 c208_122 rfl kf376_50 ?_
        refine p_iload 127 c208_125 rfl rfl ?_
        refine p_iaX 128 (m7687 410 (wr ((wr (8 * (wr (x3 - 1)))) + (m7687 403 (wr (x1 + 4)).toNat))).toNat) c208_127 rfl ka410 (rg_wr _) rfl (fun hx7706 => ?_)
        refine p_cV 131 [.ref 376, yI (m7687 403 (wr (x1 + 2)).toNat), yI (m7687 410 (wr ((wr (8 * (wr (x3 - 1)))) + (m7687 403 (wr (x1 + 4)).toNat))).toNat)] [] c208_128 rfl rfl rfl (fun k' hk' d' => d202 (f := f) (by omega) (hR7688.rg _ _) (hR7688.rg _ _) hR7688) (fun m7713 hF7709 hR7714 n7708 k7707 hk7707 => ?_)
        have hX7712 := hX7704.trans (bU_s hF7709)
        refine p_goto 153 c208_131 rfl ?_
        exact p_return c208_153 (Hr _ hX7712 hR7714 _)
    · have hX7715 := hX7686.trans (if_pos (Classical.not_not.mp hb7689))
      exact p_return c208_90 (Hr _ hX7715 hR7688 _)
def J208_40 (f : Nat) (x1 : Int) (x2 : Int) (xs1 : Int) (m : yM) : Option yM := (if 0 < F205 xs1 m then (J208_54 f x1 x2 (F205 xs1 m) 1 m) else (J208_54 f x1 x2 (F205 xs1 m) 0 m))
set_option maxRecDepth 100000 in
theorem tJ208_40 {L : Nat} {xs : Nat → Int32} {Q : xO → yM → Nat → Prop} {k d n : Nat} {c : yS3} {f : Nat} {x1 : Int} {x2 : Int} {xs1 : Int} {m : yM} {j3 j4 : Option Value} (hk : k ≤ f) (gx1 : rg x1) (gx2 : rg x2) (gxs1 : rg xs1) (hR : RM c m) (Hr : ∀ m', J208_40 f x1 x2 xs1 m = some m' → RM c m' → ∀ n', Q (.inl none) m' n') : PW (gZ L xs) k 208 d 40 [some (.ref 376), some (yI x1), some (yI x2), j3, j4] [yI xs1, .ref 376] m n Q := by
  have hX : J208_40 f x1 x2 xs1 m = J208_40 f x1 x2 xs1 m := rfl
  refine p_cX 43 [.ref 376, yI xs1] [] c208_40 rfl rfl rfl (fun k' hk' d' => d205 gxs1 hR) (fun hg7651 n7650 k7649 hk7649 => ?_)
  refine p_istore 44 c208_43 rfl rfl ?_
  refine p_aload 45 c208_44 rfl rfl ?_
  refine p_iload 46 c208_45 rfl rfl ?_
  refine p_if 53 49 c208_46 rfl rfl ((yz_le hg7651).trans Int.not_lt.symm) (fun hb7652 k7653 hk7653 => ?_) (fun hb7652 k7654 hk7654 => ?_)
  · have hX7655 := hX.trans (if_neg hb7652)
    refine p_iconst 54 c208_53 rfl ?_
    exact tJ208_54 (f := f) (by omega) gx1 gx2 hg7651 (rgD rfl) hR (fun m' e' => Hr m' (hX7655.trans e'))
  · have hX7716 := hX.trans (if_pos (Classical.not_not.mp hb7652))
    refine p_iconst 50 c208_49 rfl ?_
    refine p_goto 54 c208_50 rfl ?_
    exact tJ208_54 (f := f) (by omega) gx1 gx2 hg7651 (rgD rfl) hR (fun m' e' => Hr m' (hX7716.trans e'))
def J208_15 (f : Nat) (x1 : Int) (xs0 : Int) (m : yM) : Option yM := (if xs0 = 0 then (J208_40 f x1 xs0 (m 403 (wr (x1 + 2)).toNat) m) else (J208_40 f x1 xs0 (m 403 (wr (x1 + 3)).toNat) m))
set_option maxRecDepth 100000 in
theorem tJ208_15 {L : Nat} {xs : Nat → Int32} {Q : xO → yM → Nat → Prop} {k d n : Nat} {c : yS3} {f : Nat} {x1 : Int} {xs0 : Int} {m : yM} {j2 j3 j4 : Option Value} (hk : k ≤ f) (gx1 : rg x1) (gxs0 : rg xs0) (hR : RM c m) (Hr : ∀ m', J208_15 f x1 xs0 m = some m' → RM c m' → ∀ n', Q (.inl none) m' n') : PW (gZ L xs) k 208 d 15 [some (.ref 376), some (yI x1), j2, j3, j4] [yI xs0] m n Q := by
  have hX : J208_15 f x1 xs0 m = J208_15 f x1 xs0 m := rfl
  refine p_istore 16 c208_15 rfl rfl ?_
  refine p_aload 17 c208_16 rfl rfl ?_
  refine p_iload 18 c208_17 rfl rfl ?_
  refine p_if 32 21 c208_18 rfl rfl (yz_eq gxs0) (fun hb7644 k7645 hk7645 => ?_) (fun hb7644 k7646 hk7646 => ?_)
  · have hX7647 := hX.trans (if_pos hb7644)
    refine p_aload 33 c208_32 rfl rfl ?_
    refine p_getR 36 c208_33 rfl kf376_40 ?_
    refine p_iload 37 c208_36 rfl rfl ?_
    refine p_iconst 38 c208_37 rfl ?_
    refine p_iadd 39 c208_38 rfl ?_
    refine p_iaX 40 (m 403 (wr (x1 + 2)).toNat) c208_39 rfl ka403 (rg_wr _) rfl (fun hx7648 => ?_)
    exact tJ208_40 (f := f) (by omega) gx1 gxs0 (hR.rg _ _) hR (fun m' e' => Hr m' (hX7647.trans e'))
  · have hX7717 := hX.trans (if_neg hb7644)
    refine p_aload 22 c208_21 rfl rfl ?_
    refine p_getR 25 c208_22 rfl kf376_40 ?_
    refine p_iload 26 c208_25 rfl rfl ?_
    refine p_iconst 27 c208_26 rfl ?_
    refine p_iadd 28 c208_27 rfl ?_
    refine p_iaX 29 (m 403 (wr (x1 + 3)).toNat) c208_28 rfl ka403 (rg_wr _) rfl (fun hx7718 => ?_)
    refine p_goto 40 c208_29 rfl ?_
    exact tJ208_40 (f := f) (by omega) gx1 gxs0 (hR.rg _ _) hR (fun m' e' => Hr m' (hX7717.trans e'))
def F208 (f : Nat) (x1 : Int) (m : yM) : Option yM := (if m 403 x1.toNat = 4 then (J208_15 f x1 1 m) else (J208_15 f x1 0 m))
set_option maxRecDepth 100000 in
theorem d208 {L : Nat} {xs : Nat → Int32} {k d n : Nat} {c : yS3} {f : Nat} {x1 : Int} {m : yM} (hk : k ≤ f) (gx1 : rg x1) (hR : RM c m) : PC (gZ L xs) k d 208 [.ref 376, yI x1] m n (qV c (F208 f x1 m)) := by
  have hX : F208 f x1 m = F208 f x1 m := rfl
  have Hr : ∀ m', F208 f x1 m = some m' → RM c m' → ∀ n' : Nat, (qV c (F208 f x1 m)) (.inl none) m' n' := fun m' e h n' => ⟨rfl, h, e⟩
  refine PC.mk [some (.ref 376), some (yI x1), none, none, none] kn208 rfl ?_
  refine p_aload 1 c208_0 rfl rfl ?_
  refine p_getR 4 c208_1 rfl kf376_40 ?_
  refine p_iload 5 c208_4 rfl rfl ?_
  refine p_iaX 6 (m 403 x1.toNat) c208_5 rfl ka403 gx1 rfl (fun hx7639 => ?_)
  refine p_iconst 7 c208_6 rfl ?_
  refine p_icmp 14 10 c208_7 rfl rfl (yc_ne (hR.rg _ _) (rgD rfl)) (fun hb7640 k7641 hk7641 => ?_) (fun hb7640 k7642 hk7642 => ?_)
  · have hX7643 := hX.trans (if_neg hb7640)
    refine p_iconst 15 c208_14 rfl ?_
    exact tJ208_15 (f := f) (by omega) gx1 (rgD rfl) hR (fun m' e' => Hr m' (hX7643.trans e'))
  · have hX7719 := hX.trans (if_pos (Classical.not_not.mp hb7640))
    refine p_iconst 11 c208_10 rfl ?_
    refine p_goto 15 c208_11 rfl ?_
    exact tJ208_15 (f := f) (by omega) gx1 (rgD rfl) hR (fun m' e' => Hr m' (hX7719.trans e'))
def J209_66 (f : Nat) (x1 : Int) (m : yM) : Option yM := (bU (F208 f x1 m) (fun m7724 => (some m7724)))
set_option maxRecDepth 100000 in
theorem tJ209_66 {L : Nat} {xs : Nat → Int32} {Q : xO → yM → Nat → Prop} {k d n : Nat} {c : yS3} {f : Nat} {x1 : Int} {m : yM} {j2 j3 j4 j5 : Option Value} (hk : k ≤ f) (gx1 : rg x1) (hR : RM c m) (Hr : ∀ m', J209_66 f x1 m = some m' → RM c m' → ∀ n', Q (.inl none) m' n') : PW (gZ L xs) k 209 d 66 [some (.ref 376), some (yI x1), j2, j3, j4, j5] [] m n Q := by
  have hX : J209_66 f x1 m = J209_66 f x1 m := rfl
  refine p_aload 67 c209_66 rfl rfl ?_
  refine p_iload 68 c209_67 rfl rfl ?_
  refine p_cV 71 [.ref 376, yI x1] [] c209_68 rfl rfl rfl (fun k' hk' d' => d208 (f := f) (by omega) gx1 hR) (fun m7724 hF7720 hR7725 n7638 k7637 hk7637 => ?_)
  have hX7723 := hX.trans (bU_s hF7720)
  refine p_goto 191 c209_71 rfl ?_
  exact p_return c209_191 (Hr _ hX7723 hR7725 _)
def J209_172 (f : Nat) (x3 : Int) (x4 : Int) (xs0 : Int) (m : yM) : Option yM := (bI (F23 f xs0 2 m) (fun r7747 m7749 => (if r7747 = 0 then (some m7749) else (bU (F202 f x3 x4 m7749) (fun m7762 => (some m7762))))))
set_option maxRecDepth 100000 in
theorem tJ209_172 {L : Nat} {xs : Nat → Int32} {Q : xO → yM → Nat → Prop} {k d n : Nat} {c : yS3} {f : Nat} {x3 : Int} {x4 : Int} {xs0 : Int} {m : yM} {j1 j2 j5 : Option Value} (hk : k ≤ f) (gx3 : rg x3) (gx4 : rg x4) (gxs0 : rg xs0) (hR : RM c m) (Hr : ∀ m', J209_172 f x3 x4 xs0 m = some m' → RM c m' → ∀ n', Q (.inl none) m' n') : PW (gZ L xs) k 209 d 172 [some (.ref 376), j1, j2, some (yI x3), some (yI x4), j5] [yI xs0] m n Q := by
  have hX : J209_172 f x3 x4 xs0 m = J209_172 f x3 x4 xs0 m := rfl
  refine p_istore 174 c209_172 rfl rfl ?_
  refine p_aload 175 c209_174 rfl rfl ?_
  refine p_iload 177 c209_175 rfl rfl ?_
  refine p_iconst 178 c209_177 rfl ?_
  refine p_cS 181 [.ref 376, yI xs0, yI 2] [] c209_178 rfl rfl rfl (fun k' hk' d' => d23 (f := f) (by omega) gxs0 (rgD rfl) hR) (fun r7747 m7749 hF7745 hg7746 hR7750 n7744 k7743 hk7743 => ?_)
  have hX7748 := hX.trans (bI_s hF7745)
  refine p_if 191 184 c209_181 rfl rfl (yz_eq hg7746) (fun hb7751 k7752 hk7752 => ?_) (fun hb7751 k7753 hk7753 => ?_)
  · have hX7754 := hX7748.trans (if_pos hb7751)
    exact p_return c209_191 (Hr _ hX7754 hR7750 _)
  · have hX7755 := hX7748.trans (if_neg hb7751)
    refine p_aload 185 c209_184 rfl rfl ?_
    refine p_iload 186 c209_185 rfl rfl ?_
    refine p_iload 188 c209_186 rfl rfl ?_
    refine p_cV 191 [.ref 376, yI x3, yI x4] [] c209_188 rfl rfl rfl (fun k' hk' d' => d202 (f := f) (by omega) gx3 gx4 hR7750) (fun m7762 hF7758 hR7763 n7757 k7756 hk7756 => ?_)
    have hX7761 := hX7755.trans (bU_s hF7758)
    exact p_return c209_191 (Hr _ hX7761 hR7763 _)
def J209_167 (f : Nat) (x3 : Int) (x4 : Int) (m : yM) : Option yM := (J209_172 f x3 x4 1 m)
set_option maxRecDepth 100000 in
theorem tJ209_167 {L : Nat} {xs : Nat → Int32} {Q : xO → yM → Nat → Prop} {k d n : Nat} {c : yS3} {f : Nat} {x3 : Int} {x4 : Int} {m : yM} {j1 j2 j5 : Option Value} (hk : k ≤ f) (gx3 : rg x3) (gx4 : rg x4) (hR : RM c m) (Hr : ∀ m', J209_167 f x3 x4 m = some m' → RM c m' → ∀ n', Q (.inl none) m' n') : PW (gZ L xs) k 209 d 167 [some (.ref 376), j1, j2, some (yI x3), some (yI x4), j5] [] m n Q := by
  have hX : J209_167 f x3 x4 m = J209_167 f x3 x4 m := rfl
  refine p_iconst 168 c209_167 rfl ?_
  refine p_goto 172 c209_168 rfl ?_
  exact tJ209_172 (f := f) (by omega) gx3 gx4 (rgD rfl) hR (fun m' e' => Hr m' (hX.trans e'))
def F209 (f : Nat) (x1 : Int) (m : yM) : Option yM := (if m 403 x1.toNat = 8 then (bU (F202 f (m 403 (wr (x1 + 2)).toNat) 0 m) (fun m7825 => (some m7825))) else (if m 403 x1.toNat = 2 then (bU (F202 f (m 403 (wr (x1 + 2)).toNat) (F205 (m 403 (wr (x1 + 3)).toNat) m) m) (fun m7816 => (some m7816))) else (if m 403 x1.toNat = 4 then (J209_66 f x1 m) else (if m 403 x1.toNat = 5 then (J209_66 f x1 m) else (if m 403 x1.toNat = 1 then (bI (F201 f (m 403 (wr (x1 + 3)).toNat) m) (fun r7787 m7789 => (if m7789 376 57 = 0 then (bU (F202 f (m 403 (wr (x1 + 2)).toNat) r7787 m7789) (fun m7802 => (some m7802))) else (some m7789)))) else (if F205 (m 403 (wr (x1 + 3)).toNat) m = 0 then (J209_167 f (m 403 (wr (x1 + 2)).toNat) (F205 (m 403 (wr (x1 + 3)).toNat) m) m) else (bP (F149 f (m 376 18) (F206 (F205 (m 403 (wr (x1 + 3)).toNat) m) m) (m 402 (wr ((wr (8 * (m 376 18))) + (m 403 (wr (x1 + 4)).toNat))).toNat) m) (fun r7774 => (if r7774 = 0 then (J209_172 f (m 403 (wr (x1 + 2)).toNat) (F205 (m 403 (wr (x1 + 3)).toNat) m) 0 m) else (J209_167 f (m 403 (wr (x1 + 2)).toNat) (F205 (m 403 (wr (x1 + 3)).toNat) m) m))))))))))
set_option maxRecDepth 100000 in
theorem d209 {L : Nat} {xs : Nat → Int32} {k d n : Nat} {c : yS3} {f : Nat} {x1 : Int} {m : yM} (hk : k ≤ f) (gx1 : rg x1) (hR : RM c m) : PC (gZ L xs) k d 209 [.ref 376, yI x1] m n (qV c (F209 f x1 m)) := by
  have hX : F209 f x1 m = F209 f x1 m := rfl
  have Hr : ∀ m', F209 f x1 m = some m' → RM c m' → ∀ n' : Nat, (qV c (F209 f x1 m)) (.inl none) m' n' := fun m' e h n' => ⟨rfl, h, e⟩
  refine PC.mk [some (.ref 376), some (yI x1), none, none, none, none] kn209 rfl ?_
  refine p_aload 1 c209_0 rfl rfl ?_
  refine p_getR 4 c209_1 rfl kf376_40 ?_
  refine p_iload 5 c209_4 rfl rfl ?_
  refine p_iaX 6 (m 403 x1.toNat) c209_5 rfl ka403 gx1 rfl (fun hx7623 => ?_)
  refine p_istore 7 c209_6 rfl rfl ?_
  refine p_aload 8 c209_7 rfl rfl ?_
  refine p_getR 11 c209_8 rfl kf376_40 ?_
  refine p_iload 12 c209_11 rfl rfl ?_
  refine p_iconst 13 c209_12 rfl ?_
  refine p_iadd 14 c209_13 rfl ?_
  refine p_iaX 15 (m 403 (wr (x1 + 2)).toNat) c209_14 rfl ka403 (rg_wr _) rfl (fun hx7624 => ?_)
  refine p_istore 16 c209_15 rfl rfl ?_
  refine p_iload 17 c209_16 rfl rfl ?_
  refine p_iconst 19 c209_17 rfl ?_
  refine p_icmp 31 22 c209_19 rfl rfl (yc_ne (hR.rg _ _) (rgD rfl)) (fun hb7625 k7626 hk7626 => ?_) (fun hb7625 k7627 hk7627 => ?_)
  · have hX7628 := hX.trans (if_neg hb7625)
    refine p_iload 32 c209_31 rfl rfl ?_
    refine p_iconst 33 c209_32 rfl ?_
    refine p_icmp 56 36 c209_33 rfl rfl (yc_ne (hR.rg _ _) (rgD rfl)) (fun hb7629 k7630 hk7630 => ?_) (fun hb7629 k7631 hk7631 => ?_)
    · have hX7632 := hX7628.trans (if_neg hb7629)
      refine p_iload 57 c209_56 rfl rfl ?_
      refine p_iconst 58 c209_57 rfl ?_
      refine p_icmp 66 61 c209_58 rfl rfl (yc_eq (hR.rg _ _) (rgD rfl)) (fun hb7633 k7634 hk7634 => ?_) (fun hb7633 k7635 hk7635 => ?_)
      · have hX7636 := hX7632.trans (if_pos hb7633)
        exact tJ209_66 (f := f) (by omega) gx1 hR (fun m' e' => Hr m' (hX7636.trans e'))
      · have hX7726 := hX7632.trans (if_neg hb7633)
        refine p_iload 62 c209_61 rfl rfl ?_
        refine p_iconst 63 c209_62 rfl ?_
        refine p_icmp 74 66 c209_63 rfl rfl (yc_ne (hR.rg _ _) (rgD rfl)) (fun hb7727 k7728 hk7728 => ?_) (fun hb7727 k7729 hk7729 => ?_)
        · have hX7730 := hX7726.trans (if_neg hb7727)
          refine p_iload 75 c209_74 rfl rfl ?_
          refine p_iconst 76 c209_75 rfl ?_
          refine p_icmp 110 79 c209_76 rfl rfl (yc_ne (hR.rg _ _) (rgD rfl)) (fun hb7731 k7732 hk7732 => ?_) (fun hb7731 k7733 hk7733 => ?_)
          · have hX7734 := hX7730.trans (if_neg hb7731)
            refine p_aload 111 c209_110 rfl rfl ?_
            refine p_aload 112 c209_111 rfl rfl ?_
            refine p_getR 115 c209_112 rfl kf376_40 ?_
            refine p_iload 116 c209_115 rfl rfl ?_
            refine p_iconst 117 c209_116 rfl ?_
            refine p_iadd 118 c209_117 rfl ?_
            refine p_iaX 119 (m 403 (wr (x1 + 3)).toNat) c209_118 rfl ka403 (rg_wr _) rfl (fun hx7735 => ?_)
            refine p_cX 122 [.ref 376, yI (m 403 (wr (x1 + 3)).toNat)] [] c209_119 rfl rfl rfl (fun k' hk' d' => d205 (hR.rg _ _) hR) (fun hg7738 n7737 k7736 hk7736 => ?_)
            refine p_istore 124 c209_122 rfl rfl ?_
            refine p_iload 126 c209_124 rfl rfl ?_
            refine p_if 167 129 c209_126 rfl rfl (yz_eq hg7738) (fun hb7739 k7740 hk7740 => ?_) (fun hb7739 k7741 hk7741 => ?_)
            · have hX7742 := hX7734.trans (if_pos hb7739)
              exact tJ209_167 (f := f) (by omega) (hR.rg _ _) hg7738 hR (fun m' e' => Hr m' (hX7742.trans e'))
            · have hX7764 := hX7734.trans (if_neg hb7739)
              refine p_aload 130 c209_129 rfl rfl ?_
              refine p_aload 131 c209_130 rfl rfl ?_
              refine p_getX 134 (m 376 18) c209_131 rfl kf376_18 rfl ?_
              refine p_aload 135 c209_134 rfl rfl ?_
              refine p_iload 137 c209_135 rfl rfl ?_
              refine p_cX 140 [.ref 376, yI (F205 (m 403 (wr (x1 + 3)).toNat) m)] [yI (m 376 18), .ref 376] c209_137 rfl rfl rfl (fun k' hk' d' => d206 hg7738 hR) (fun hg7767 n7766 k7765 hk7765 => ?_)
              refine p_aload 141 c209_140 rfl rfl ?_
              refine p_getR 144 c209_141 rfl kf376_39 ?_
              refine p_iconst 146 c209_144 rfl ?_
              refine p_aload 147 c209_146 rfl rfl ?_
              refine p_getX 150 (m 376 18) c209_147 rfl kf376_18 rfl ?_
              refine p_imul 151 c209_150 rfl ?_
              refine p_aload 152 c209_151 rfl rfl ?_
              refine p_getR 155 c209_152 rfl kf376_40 ?_
              refine p_iload 156 c209_155 rfl rfl ?_
              refine p_iconst 157 c209_156 rfl ?_
              refine p_iadd 158 c209_157 rfl ?_
              refine p_iaX 159 (m 403 (wr (x1 + 4)).toNat) c209_158 rfl ka403 (rg_wr _) rfl (fun hx7768 => ?_)
              refine p_iadd 160 c209_159 rfl ?_
              refine p_iaX 161 (m 402 (wr ((wr (8 * (m 376 18))) + (m 403 (wr (x1 + 4)).toNat))).toNat) c209_160 rfl ka402 (rg_wr _) rfl (fun hx7769 => ?_)
              refine p_cO 164 [.ref 376, yI (m 376 18), yI (F206 (F205 (m 403 (wr (x1 + 3)).toNat) m) m), yI (m 402 (wr ((wr (8 * (m 376 18))) + (m 403 (wr (x1 + 4)).toNat))).toNat)] [] c209_161 rfl rfl rfl (fun k' hk' d' => d149 (f := f) (by omega) (hR.rg _ _) hg7767 (hR.rg _ _) hR) (fun r7774 hF7772 hg7773 n7771 k7770 hk7770 => ?_)
              have hX7775 := hX7764.trans (bP_s hF7772)
              refine p_if 171 167 c209_164 rfl rfl (yz_eq hg7773) (fun hb7776 k7777 hk7777 => ?_) (fun hb7776 k7778 hk7778 => ?_)
              · have hX7779 := hX7775.trans (if_pos hb7776)
                refine p_iconst 172 c209_171 rfl ?_
                exact tJ209_172 (f := f) (by omega) (hR.rg _ _) hg7738 (rgD rfl) hR (fun m' e' => Hr m' (hX7779.trans e'))
              · have hX7780 := hX7775.trans (if_neg hb7776)
                exact tJ209_167 (f := f) (by omega) (hR.rg _ _) hg7738 hR (fun m' e' => Hr m' (hX7780.trans e'))
          · have hX7781 := hX7730.trans (if_pos (Classical.not_not.mp hb7731))
            refine p_aload 80 c209_79 rfl rfl ?_
            refine p_aload 81 c209_80 rfl rfl ?_
            refine p_getR 84 c209_81 rfl kf376_40 ?_
            refine p_iload 85 c209_84 rfl rfl ?_
            refine p_iconst 86 c209_85 rfl ?_
            refine p_iadd 87 c209_86 rfl ?_
            refine p_iaX 88 (m 403 (wr (x1 + 3)).toNat) c209_87 rfl ka403 (rg_wr _) rfl (fun hx7782 => ?_)
            refine p_cS 91 [.ref 376, yI (m 403 (wr (x1 + 3)).toNat)] [] c209_88 rfl rfl rfl (fun k' hk' d' => d201 (f := f) (by omega) (hR.rg _ _) hR) (fun r7787 m7789 hF7785 hg7786 hR7790 n7784 k7783 hk7783 => ?_)
            have hX7788 := hX7781.trans (bI_s hF7785)
            refine p_istore 93 c209_91 rfl rfl ?_
            refine p_aload 94 c209_93 rfl rfl ?_
            refine p_getX 97 (m7789 376 57) c209_94 rfl kf376_57 rfl ?_
            refine p_if 107 100 c209_97 rfl rfl (yz_ne (hR7790.rg _ _)) (fun hb7791 k7792 hk7792 => ?_) (fun hb7791 k7793 hk7793 => ?_)
            · have hX7794 := hX7788.trans (if_neg hb7791)
              refine p_goto 191 c209_107 rfl ?_
              exact p_return c209_191 (Hr _ hX7794 hR7790 _)
            · have hX7795 := hX7788.trans (if_pos (Classical.not_not.mp hb7791))
              refine p_aload 101 c209_100 rfl rfl ?_
              refine p_iload 102 c209_101 rfl rfl ?_
              refine p_iload 104 c209_102 rfl rfl ?_
              refine p_cV 107 [.ref 376, yI (m 403 (wr (x1 + 2)).toNat), yI r7787] [] c209_104 rfl rfl rfl (fun k' hk' d' => d202 (f := f) (by omega) (hR.rg _ _) hg7786 hR7790) (fun m7802 hF7798 hR7803 n7797 k7796 hk7796 => ?_)
              have hX7801 := hX7795.trans (bU_s hF7798)
              refine p_goto 191 c209_107 rfl ?_
              exact p_return c209_191 (Hr _ hX7801 hR7803 _)
        · have hX7804 := hX7726.trans (if_pos (Classical.not_not.mp hb7727))
          exact tJ209_66 (f := f) (by omega) gx1 hR (fun m' e' => Hr m' (hX7804.trans e'))
    · have hX7805 := hX7628.trans (if_pos (Classical.not_not.mp hb7629))
      refine p_aload 37 c209_36 rfl rfl ?_
      refine p_iload 38 c209_37 rfl rfl ?_
      refine p_aload 39 c209_38 rfl rfl ?_
      refine p_aload 40 c209_39 rfl rfl ?_
      refine p_getR 43 c209_40 rfl kf376_40 ?_
      refine p_iload 44 c209_43 rfl rfl ?_
      refine p_iconst 45 c209_44 rfl ?_
      refine p_iadd 46 c209_45 rfl ?_
      refine p_iaX 47 (m 403 (wr (x1 + 3)).toNat) c209_46 rfl ka403 (rg_wr _) rfl (fun hx7806 => ?_)
      refine p_cX 50 [.ref 376, yI (m 403 (wr (x1 + 3)).toNat)] [yI (m 403 (wr (x1 + 2)).toNat), .ref 376] c209_47 rfl rfl rfl (fun k' hk' d' => d205 (hR.rg _ _) hR) (fun hg7809 n7808 k7807 hk7807 => ?_)
      refine p_cV 53 [.ref 376, yI (m 403 (wr (x1 + 2)).toNat), yI (F205 (m 403 (wr (x1 + 3)).toNat) m)] [] c209_50 rfl rfl rfl (fun k' hk' d' => d202 (f := f) (by omega) (hR.rg _ _) hg7809 hR) (fun m7816 hF7812 hR7817 n7811 k7810 hk7810 => ?_)
      have hX7815 := hX7805.trans (bU_s hF7812)
      refine p_goto 191 c209_53 rfl ?_
      exact p_return c209_191 (Hr _ hX7815 hR7817 _)
  · have hX7818 := hX.trans (if_pos (Classical.not_not.mp hb7625))
    refine p_aload 23 c209_22 rfl rfl ?_
    refine p_iload 24 c209_23 rfl rfl ?_
    refine p_iconst 25 c209_24 rfl ?_
    refine p_cV 28 [.ref 376, yI (m 403 (wr (x1 + 2)).toNat), yI 0] [] c209_25 rfl rfl rfl (fun k' hk' d' => d202 (f := f) (by omega) (hR.rg _ _) (rgD rfl) hR) (fun m7825 hF7821 hR7826 n7820 k7819 hk7819 => ?_)
    have hX7824 := hX7818.trans (bU_s hF7821)
    refine p_goto 191 c209_28 rfl ?_
    exact p_return c209_191 (Hr _ hX7824 hR7826 _)
def J207_131 (f : Nat) (x2 : Int) (x4 : Int) (x5 : Int) (xs0 : Int) (m : yM) : Option yM := (bU (F203 f x4 x2 x5 xs0 (m 376 55) m) (fun m7898 => (some m7898)))
set_option maxRecDepth 100000 in
theorem tJ207_131 {L : Nat} {xs : Nat → Int32} {Q : xO → yM → Nat → Prop} {k d n : Nat} {c : yS3} {f : Nat} {x2 : Int} {x4 : Int} {x5 : Int} {xs0 : Int} {m : yM} {j1 j3 j6 : Option Value} (hk : k ≤ f) (gx2 : rg x2) (gx4 : rg x4) (gx5 : rg x5) (gxs0 : rg xs0) (hR : RM c m) (Hr : ∀ m', J207_131 f x2 x4 x5 xs0 m = some m' → RM c m' → ∀ n', Q (.inl none) m' n') : PW (gZ L xs) k 207 d 131 [some (.ref 376), j1, some (yI x2), j3, some (yI x4), some (yI x5), j6] [yI xs0] m n Q := by
  have hX : J207_131 f x2 x4 x5 xs0 m = J207_131 f x2 x4 x5 xs0 m := rfl
  refine p_istore 133 c207_131 rfl rfl ?_
  refine p_aload 134 c207_133 rfl rfl ?_
  refine p_iload 136 c207_134 rfl rfl ?_
  refine p_iload 137 c207_136 rfl rfl ?_
  refine p_iload 139 c207_137 rfl rfl ?_
  refine p_iload 141 c207_139 rfl rfl ?_
  refine p_aload 142 c207_141 rfl rfl ?_
  refine p_getX 145 (m 376 55) c207_142 rfl kf376_55 rfl ?_
  refine p_cV 148 [.ref 376, yI x4, yI x2, yI x5, yI xs0, yI (m 376 55)] [] c207_145 rfl rfl rfl (fun k' hk' d' => d203 (f := f) (by omega) gx4 gx2 gx5 gxs0 (hR.rg _ _) hR) (fun m7898 hF7894 hR7899 n7893 k7892 hk7892 => ?_)
  have hX7897 := hX.trans (bU_s hF7894)
  exact p_return c207_148 (Hr _ hX7897 hR7899 _)
def J207_107 (f : Nat) (x1 : Int) (x2 : Int) (x3 : Int) (x4 : Int) (xs0 : Int) (m : yM) : Option yM := (if 1 < x3 then (J207_131 f x2 x4 xs0 (F205 (m 403 (wr (x1 + 7)).toNat) m) m) else (J207_131 f x2 x4 xs0 0 m))
set_option maxRecDepth 100000 in
theorem tJ207_107 {L : Nat} {xs : Nat → Int32} {Q : xO → yM → Nat → Prop} {k d n : Nat} {c : yS3} {f : Nat} {x1 : Int} {x2 : Int} {x3 : Int} {x4 : Int} {xs0 : Int} {m : yM} {j5 j6 : Option Value} (hk : k ≤ f) (gx1 : rg x1) (gx2 : rg x2) (gx3 : rg x3) (gx4 : rg x4) (gxs0 : rg xs0) (hR : RM c m) (Hr : ∀ m', J207_107 f x1 x2 x3 x4 xs0 m = some m' → RM c m' → ∀ n', Q (.inl none) m' n') : PW (gZ L xs) k 207 d 107 [some (.ref 376), some (yI x1), some (yI x2), some (yI x3), some (yI x4), j5, j6] [yI xs0] m n Q := by
  have hX : J207_107 f x1 x2 x3 x4 xs0 m = J207_107 f x1 x2 x3 x4 xs0 m := rfl
  refine p_istore 109 c207_107 rfl rfl ?_
  refine p_iload 110 c207_109 rfl rfl ?_
  refine p_iconst 111 c207_110 rfl ?_
  refine p_icmp 130 114 c207_111 rfl rfl ((yc_le gx3 (rgD rfl)).trans Int.not_lt.symm) (fun hb7888 k7889 hk7889 => ?_) (fun hb7888 k7890 hk7890 => ?_)
  · have hX7891 := hX.trans (if_neg hb7888)
    refine p_iconst 131 c207_130 rfl ?_
    exact tJ207_131 (f := f) (by omega) gx2 gx4 gxs0 (rgD rfl) hR (fun m' e' => Hr m' (hX7891.trans e'))
  · have hX7900 := hX.trans (if_pos (Classical.not_not.mp hb7888))
    refine p_aload 115 c207_114 rfl rfl ?_
    refine p_aload 116 c207_115 rfl rfl ?_
    refine p_getR 119 c207_116 rfl kf376_40 ?_
    refine p_iload 120 c207_119 rfl rfl ?_
    refine p_iconst 122 c207_120 rfl ?_
    refine p_iadd 123 c207_122 rfl ?_
    refine p_iaX 124 (m 403 (wr (x1 + 7)).toNat) c207_123 rfl ka403 (rg_wr _) rfl (fun hx7901 => ?_)
    refine p_cX 127 [.ref 376, yI (m 403 (wr (x1 + 7)).toNat)] [] c207_124 rfl rfl rfl (fun k' hk' d' => d205 (hR.rg _ _) hR) (fun hg7904 n7903 k7902 hk7902 => ?_)
    refine p_goto 131 c207_127 rfl ?_
    exact tJ207_131 (f := f) (by omega) gx2 gx4 gxs0 hg7904 hR (fun m' e' => Hr m' (hX7900.trans e'))
def J207_78 (f : Nat) (x1 : Int) (x2 : Int) (x3 : Int) (x4 : Int) (xs1 : Int) (m : yM) : Option yM := (bI (F23 f xs1 3 m) (fun r7876 m7878 => (if r7876 = 0 then (some m7878) else (if 0 < x3 then (J207_107 f x1 x2 x3 x4 (F205 (m7878 403 (wr (x1 + 6)).toNat) m7878) m7878) else (J207_107 f x1 x2 x3 x4 0 m7878)))))
set_option maxRecDepth 100000 in
theorem tJ207_78 {L : Nat} {xs : Nat → Int32} {Q : xO → yM → Nat → Prop} {k d n : Nat} {c : yS3} {f : Nat} {x1 : Int} {x2 : Int} {x3 : Int} {x4 : Int} {xs1 : Int} {m : yM} {j5 j6 : Option Value} (hk : k ≤ f) (gx1 : rg x1) (gx2 : rg x2) (gx3 : rg x3) (gx4 : rg x4) (gxs1 : rg xs1) (hR : RM c m) (Hr : ∀ m', J207_78 f x1 x2 x3 x4 xs1 m = some m' → RM c m' → ∀ n', Q (.inl none) m' n') : PW (gZ L xs) k 207 d 78 [some (.ref 376), some (yI x1), some (yI x2), some (yI x3), some (yI x4), j5, j6] [yI xs1, .ref 376] m n Q := by
  have hX : J207_78 f x1 x2 x3 x4 xs1 m = J207_78 f x1 x2 x3 x4 xs1 m := rfl
  refine p_iconst 79 c207_78 rfl ?_
  refine p_cS 82 [.ref 376, yI xs1, yI 3] [] c207_79 rfl rfl rfl (fun k' hk' d' => d23 (f := f) (by omega) gxs1 (rgD rfl) hR) (fun r7876 m7878 hF7874 hg7875 hR7879 n7873 k7872 hk7872 => ?_)
  have hX7877 := hX.trans (bI_s hF7874)
  refine p_if 86 85 c207_82 rfl rfl (yz_ne hg7875) (fun hb7880 k7881 hk7881 => ?_) (fun hb7880 k7882 hk7882 => ?_)
  · have hX7883 := hX7877.trans (if_neg hb7880)
    refine p_iload 87 c207_86 rfl rfl ?_
    refine p_if 106 90 c207_87 rfl rfl ((yz_le gx3).trans Int.not_lt.symm) (fun hb7884 k7885 hk7885 => ?_) (fun hb7884 k7886 hk7886 => ?_)
    · have hX7887 := hX7883.trans (if_neg hb7884)
      refine p_iconst 107 c207_106 rfl ?_
      exact tJ207_107 (f := f) (by omega) gx1 gx2 gx3 gx4 (rgD rfl) hR7879 (fun m' e' => Hr m' (hX7887.trans e'))
    · have hX7905 := hX7883.trans (if_pos (Classical.not_not.mp hb7884))
      refine p_aload 91 c207_90 rfl rfl ?_
      refine p_aload 92 c207_91 rfl rfl ?_
      refine p_getR 95 c207_92 rfl kf376_40 ?_
      refine p_iload 96 c207_95 rfl rfl ?_
      refine p_iconst 98 c207_96 rfl ?_
      refine p_iadd 99 c207_98 rfl ?_
      refine p_iaX 100 (m7878 403 (wr (x1 + 6)).toNat) c207_99 rfl ka403 (rg_wr _) rfl (fun hx7906 => ?_)
      refine p_cX 103 [.ref 376, yI (m7878 403 (wr (x1 + 6)).toNat)] [] c207_100 rfl rfl rfl (fun k' hk' d' => d205 (hR7879.rg _ _) hR7879) (fun hg7909 n7908 k7907 hk7907 => ?_)
      refine p_goto 107 c207_103 rfl ?_
      exact tJ207_107 (f := f) (by omega) gx1 gx2 gx3 gx4 hg7909 hR7879 (fun m' e' => Hr m' (hX7905.trans e'))
  · have hX7910 := hX7877.trans (if_pos (Classical.not_not.mp hb7880))
    exact p_return c207_85 (Hr _ hX7910 hR7879 _)
def J207_23 (f : Nat) (x1 : Int) (x2 : Int) (xs1 : Int) (m : yM) : Option yM := (bI (F23 f xs1 1 m) (fun r7849 m7851 => (if r7849 = 0 then (some m7851) else (bP (F142 f (m7851 376 18) (F206 x2 m7851) (m7851 403 (wr (x1 + 4)).toNat) (iRem (m7851 403 (wr (x1 + 5)).toNat) 16) m7851) (fun r7866 => (if r7866 < 0 then (J207_78 f x1 x2 (iRem (m7851 403 (wr (x1 + 5)).toNat) 16) r7866 0 m7851) else (J207_78 f x1 x2 (iRem (m7851 403 (wr (x1 + 5)).toNat) 16) r7866 1 m7851)))))))
set_option maxRecDepth 100000 in
theorem tJ207_23 {L : Nat} {xs : Nat → Int32} {Q : xO → yM → Nat → Prop} {k d n : Nat} {c : yS3} {f : Nat} {x1 : Int} {x2 : Int} {xs1 : Int} {m : yM} {j3 j4 j5 j6 : Option Value} (hk : k ≤ f) (gx1 : rg x1) (gx2 : rg x2) (gxs1 : rg xs1) (hR : RM c m) (Hr : ∀ m', J207_23 f x1 x2 xs1 m = some m' → RM c m' → ∀ n', Q (.inl none) m' n') : PW (gZ L xs) k 207 d 23 [some (.ref 376), some (yI x1), some (yI x2), j3, j4, j5, j6] [yI xs1, .ref 376] m n Q := by
  have hX : J207_23 f x1 x2 xs1 m = J207_23 f x1 x2 xs1 m := rfl
  refine p_iconst 24 c207_23 rfl ?_
  refine p_cS 27 [.ref 376, yI xs1, yI 1] [] c207_24 rfl rfl rfl (fun k' hk' d' => d23 (f := f) (by omega) gxs1 (rgD rfl) hR) (fun r7849 m7851 hF7847 hg7848 hR7852 n7846 k7845 hk7845 => ?_)
  have hX7850 := hX.trans (bI_s hF7847)
  refine p_if 31 30 c207_27 rfl rfl (yz_ne hg7848) (fun hb7853 k7854 hk7854 => ?_) (fun hb7853 k7855 hk7855 => ?_)
  · have hX7856 := hX7850.trans (if_neg hb7853)
    refine p_aload 32 c207_31 rfl rfl ?_
    refine p_getR 35 c207_32 rfl kf376_40 ?_
    refine p_iload 36 c207_35 rfl rfl ?_
    refine p_iconst 37 c207_36 rfl ?_
    refine p_iadd 38 c207_37 rfl ?_
    refine p_iaX 39 (m7851 403 (wr (x1 + 5)).toNat) c207_38 rfl ka403 (rg_wr _) rfl (fun hx7857 => ?_)
    refine p_iconst 41 c207_39 rfl ?_
    refine p_irem 42 c207_41 rfl ?_
    refine p_istore 43 c207_42 rfl rfl ?_
    refine p_aload 44 c207_43 rfl rfl ?_
    refine p_aload 45 c207_44 rfl rfl ?_
    refine p_getX 48 (m7851 376 18) c207_45 rfl kf376_18 rfl ?_
    refine p_aload 49 c207_48 rfl rfl ?_
    refine p_iload 50 c207_49 rfl rfl ?_
    refine p_cX 53 [.ref 376, yI x2] [yI (m7851 376 18), .ref 376] c207_50 rfl rfl rfl (fun k' hk' d' => d206 gx2 hR7852) (fun hg7860 n7859 k7858 hk7858 => ?_)
    refine p_aload 54 c207_53 rfl rfl ?_
    refine p_getR 57 c207_54 rfl kf376_40 ?_
    refine p_iload 58 c207_57 rfl rfl ?_
    refine p_iconst 59 c207_58 rfl ?_
    refine p_iadd 60 c207_59 rfl ?_
    refine p_iaX 61 (m7851 403 (wr (x1 + 4)).toNat) c207_60 rfl ka403 (rg_wr _) rfl (fun hx7861 => ?_)
    refine p_iload 62 c207_61 rfl rfl ?_
    refine p_cO 65 [.ref 376, yI (m7851 376 18), yI (F206 x2 m7851), yI (m7851 403 (wr (x1 + 4)).toNat), yI (iRem (m7851 403 (wr (x1 + 5)).toNat) 16)] [] c207_62 rfl rfl rfl (fun k' hk' d' => d142 (f := f) (by omega) (hR7852.rg _ _) hg7860 (hR7852.rg _ _) (rg_to _) hR7852) (fun r7866 hF7864 hg7865 n7863 k7862 hk7862 => ?_)
    have hX7867 := hX7856.trans (bP_s hF7864)
    refine p_istore 67 c207_65 rfl rfl ?_
    refine p_aload 68 c207_67 rfl rfl ?_
    refine p_iload 70 c207_68 rfl rfl ?_
    refine p_if 77 73 c207_70 rfl rfl (yz_lt hg7865) (fun hb7868 k7869 hk7869 => ?_) (fun hb7868 k7870 hk7870 => ?_)
    · have hX7871 := hX7867.trans (if_pos hb7868)
      refine p_iconst 78 c207_77 rfl ?_
      exact tJ207_78 (f := f) (by omega) gx1 gx2 (rg_to _) hg7865 (rgD rfl) hR7852 (fun m' e' => Hr m' (hX7871.trans e'))
    · have hX7911 := hX7867.trans (if_neg hb7868)
      refine p_iconst 74 c207_73 rfl ?_
      refine p_goto 78 c207_74 rfl ?_
      exact tJ207_78 (f := f) (by omega) gx1 gx2 (rg_to _) hg7865 (rgD rfl) hR7852 (fun m' e' => Hr m' (hX7911.trans e'))
  · have hX7912 := hX7850.trans (if_pos (Classical.not_not.mp hb7853))
    exact p_return c207_30 (Hr _ hX7912 hR7852 _)
def F207 (f : Nat) (x1 : Int) (m : yM) : Option yM := (if 0 < F205 (m 403 (wr (x1 + 3)).toNat) m then (J207_23 f x1 (F205 (m 403 (wr (x1 + 3)).toNat) m) 1 m) else (J207_23 f x1 (F205 (m 403 (wr (x1 + 3)).toNat) m) 0 m))
set_option maxRecDepth 100000 in
theorem d207 {L : Nat} {xs : Nat → Int32} {k d n : Nat} {c : yS3} {f : Nat} {x1 : Int} {m : yM} (hk : k ≤ f) (gx1 : rg x1) (hR : RM c m) : PC (gZ L xs) k d 207 [.ref 376, yI x1] m n (qV c (F207 f x1 m)) := by
  have hX : F207 f x1 m = F207 f x1 m := rfl
  have Hr : ∀ m', F207 f x1 m = some m' → RM c m' → ∀ n' : Nat, (qV c (F207 f x1 m)) (.inl none) m' n' := fun m' e h n' => ⟨rfl, h, e⟩
  refine PC.mk [some (.ref 376), some (yI x1), none, none, none, none, none] kn207 rfl ?_
  refine p_aload 1 c207_0 rfl rfl ?_
  refine p_aload 2 c207_1 rfl rfl ?_
  refine p_getR 5 c207_2 rfl kf376_40 ?_
  refine p_iload 6 c207_5 rfl rfl ?_
  refine p_iconst 7 c207_6 rfl ?_
  refine p_iadd 8 c207_7 rfl ?_
  refine p_iaX 9 (m 403 (wr (x1 + 3)).toNat) c207_8 rfl ka403 (rg_wr _) rfl (fun hx7837 => ?_)
  refine p_cX 12 [.ref 376, yI (m 403 (wr (x1 + 3)).toNat)] [] c207_9 rfl rfl rfl (fun k' hk' d' => d205 (hR.rg _ _) hR) (fun hg7840 n7839 k7838 hk7838 => ?_)
  refine p_istore 13 c207_12 rfl rfl ?_
  refine p_aload 14 c207_13 rfl rfl ?_
  refine p_iload 15 c207_14 rfl rfl ?_
  refine p_if 22 18 c207_15 rfl rfl ((yz_le hg7840).trans Int.not_lt.symm) (fun hb7841 k7842 hk7842 => ?_) (fun hb7841 k7843 hk7843 => ?_)
  · have hX7844 := hX.trans (if_neg hb7841)
    refine p_iconst 23 c207_22 rfl ?_
    exact tJ207_23 (f := f) (by omega) gx1 hg7840 (rgD rfl) hR (fun m' e' => Hr m' (hX7844.trans e'))
  · have hX7913 := hX.trans (if_pos (Classical.not_not.mp hb7841))
    refine p_iconst 19 c207_18 rfl ?_
    refine p_goto 23 c207_19 rfl ?_
    exact tJ207_23 (f := f) (by omega) gx1 hg7840 (rgD rfl) hR (fun m' e' => Hr m' (hX7913.trans e'))
def J204_100 (f : Nat) (m : yM) : Option yM := (some (yup m 376 55 (wr ((m 412 (m 376 54).toNat) + 1))))
set_option maxRecDepth 100000 in
theorem tJ204_100 {L : Nat} {xs : Nat → Int32} {Q : xO → yM → Nat → Prop} {k d n : Nat} {c : yS3} {f : Nat} {m : yM} {j1 j2 j3 : Option Value} (hk : k ≤ f) (hR : RM c m) (Hr : ∀ m', J204_100 f m = some m' → RM c m' → ∀ n', Q (.inl none) m' n') : PW (gZ L xs) k 204 d 100 [some (.ref 376), j1, j2, j3] [] m n Q := by
  have hX : J204_100 f m = J204_100 f m := rfl
  refine p_aload 101 c204_100 rfl rfl ?_
  refine p_aload 102 c204_101 rfl rfl ?_
  refine p_getR 105 c204_102 rfl kf376_53 ?_
  refine p_aload 106 c204_105 rfl rfl ?_
  refine p_getX 109 (m 376 54) c204_106 rfl kf376_54 rfl ?_
  refine p_iaX 110 (m 412 (m 376 54).toNat) c204_109 rfl ka412 (hR.rg _ _) rfl (fun hx7944 => ?_)
  refine p_iconst 111 c204_110 rfl ?_
  refine p_iadd 112 c204_111 rfl ?_
  refine p_putI 115 c204_112 rfl kf376_55 ?_
  have hR7945 := hR.up 376 55 (v := wr ((m 412 (m 376 54).toNat) + 1)) (nselD rfl) (rg_wr _)
  exact p_return c204_115 (Hr _ hX hR7945 _)
def J204_36 (f : Nat) (x2 : Int) (m : yM) : Option yM := (if wr ((m 376 54) - 1) = 0 then (some (yup m 376 54 (wr ((m 376 54) - 1)))) else (if m 403 (wr ((wr ((wr (1000 * (m 376 18))) + (wr (8 * (m 412 (wr ((m 376 54) - 1)).toNat))))) + 2)).toNat < 0 then (J204_100 f (yup m 376 54 (wr ((m 376 54) - 1)))) else (bU (F202 f (m 403 (wr ((wr ((wr (1000 * (m 376 18))) + (wr (8 * (m 412 (wr ((m 376 54) - 1)).toNat))))) + 2)).toNat) x2 (yup m 376 54 (wr ((m 376 54) - 1)))) (fun m7954 => (J204_100 f m7954)))))
set_option maxRecDepth 100000 in
theorem tJ204_36 {L : Nat} {xs : Nat → Int32} {Q : xO → yM → Nat → Prop} {k d n : Nat} {c : yS3} {f : Nat} {x2 : Int} {m : yM} {j1 j3 : Option Value} (hk : k ≤ f) (gx2 : rg x2) (hR : RM c m) (Hr : ∀ m', J204_36 f x2 m = some m' → RM c m' → ∀ n', Q (.inl none) m' n') : PW (gZ L xs) k 204 d 36 [some (.ref 376), j1, some (yI x2), j3] [] m n Q := by
  have hX : J204_36 f x2 m = J204_36 f x2 m := rfl
  refine p_aload 37 c204_36 rfl rfl ?_
  refine p_dup 38 c204_37 rfl rfl ?_
  refine p_getX 41 (m 376 54) c204_38 rfl kf376_54 rfl ?_
  refine p_iconst 42 c204_41 rfl ?_
  refine p_isub 43 c204_42 rfl ?_
  refine p_putI 46 c204_43 rfl kf376_54 ?_
  have hR7933 := hR.up 376 54 (v := wr ((m 376 54) - 1)) (nselD rfl) (rg_wr _)
  refine p_aload 47 c204_46 rfl rfl ?_
  refine p_getX 50 (wr ((m 376 54) - 1)) c204_47 rfl kf376_54 (yup_eq _ _ _ _) ?_
  refine p_if 54 53 c204_50 rfl rfl (yz_ne (rg_wr _)) (fun hb7934 k7935 hk7935 => ?_) (fun hb7934 k7936 hk7936 => ?_)
  · have hX7937 := hX.trans (if_neg hb7934)
    refine p_iconst 57 c204_54 rfl ?_
    refine p_aload 58 c204_57 rfl rfl ?_
    refine p_getX 61 (m 376 18) c204_58 rfl kf376_18 (yup_nk (by decide)) ?_
    refine p_imul 62 c204_61 rfl ?_
    refine p_iconst 64 c204_62 rfl ?_
    refine p_aload 65 c204_64 rfl rfl ?_
    refine p_getR 68 c204_65 rfl kf376_53 ?_
    refine p_aload 69 c204_68 rfl rfl ?_
    refine p_getX 72 (wr ((m 376 54) - 1)) c204_69 rfl kf376_54 (yup_eq _ _ _ _) ?_
    refine p_iaX 73 (m 412 (wr ((m 376 54) - 1)).toNat) c204_72 rfl ka412 (rg_wr _) (yup_na (by decide)) (fun hx7938 => ?_)
    refine p_imul 74 c204_73 rfl ?_
    refine p_iadd 75 c204_74 rfl ?_
    refine p_istore 76 c204_75 rfl rfl ?_
    refine p_aload 77 c204_76 rfl rfl ?_
    refine p_getR 80 c204_77 rfl kf376_40 ?_
    refine p_iload 81 c204_80 rfl rfl ?_
    refine p_iconst 82 c204_81 rfl ?_
    refine p_iadd 83 c204_82 rfl ?_
    refine p_iaX 84 (m 403 (wr ((wr ((wr (1000 * (m 376 18))) + (wr (8 * (m 412 (wr ((m 376 54) - 1)).toNat))))) + 2)).toNat) c204_83 rfl ka403 (rg_wr _) (yup_na (by decide)) (fun hx7939 => ?_)
    refine p_if 100 87 c204_84 rfl rfl (yz_lt (hR.rg _ _)) (fun hb7940 k7941 hk7941 => ?_) (fun hb7940 k7942 hk7942 => ?_)
    · have hX7943 := hX7937.trans (if_pos hb7940)
      exact tJ204_100 (f := f) (by omega) hR7933 (fun m' e' => Hr m' (hX7943.trans e'))
    · have hX7946 := hX7937.trans (if_neg hb7940)
      refine p_aload 88 c204_87 rfl rfl ?_
      refine p_aload 89 c204_88 rfl rfl ?_
      refine p_getR 92 c204_89 rfl kf376_40 ?_
      refine p_iload 93 c204_92 rfl rfl ?_
      refine p_iconst 94 c204_93 rfl ?_
      refine p_iadd 95 c204_94 rfl ?_
      refine p_iaX 96 (m 403 (wr ((wr ((wr (1000 * (m 376 18))) + (wr (8 * (m 412 (wr ((m 376 54) - 1)).toNat))))) + 2)).toNat) c204_95 rfl ka403 (rg_wr _) (yup_na (by decide)) (fun hx7947 => ?_)
      refine p_iload 97 c204_96 rfl rfl ?_
      refine p_cV 100 [.ref 376, yI (m 403 (wr ((wr ((wr (1000 * (m 376 18))) + (wr (8 * (m 412 (wr ((m 376 54) - 1)).toNat))))) + 2)).toNat), yI x2] [] c204_97 rfl rfl rfl (fun k' hk' d' => d202 (f := f) (by omega) (hR.rg _ _) gx2 hR7933) (fun m7954 hF7950 hR7955 n7949 k7948 hk7948 => ?_)
      have hX7953 := hX7946.trans (bU_s hF7950)
      exact tJ204_100 (f := f) (by omega) hR7955 (fun m' e' => Hr m' (hX7953.trans e'))
  · have hX7956 := hX.trans (if_pos (Classical.not_not.mp hb7934))
    exact p_return c204_53 (Hr _ hX7956 hR7933 _)
def F204 (f : Nat) (x1 : Int) (x2 : Int) (m : yM) : Option yM := (if 0 < x2 then (J204_36 f x2 (yup m 408 (wr ((wr (12 * (m 398 (wr ((wr (10 * (m 376 18))) + x1)).toNat))) + (m 409 (wr (x2 - 1)).toNat))).toNat 1)) else (J204_36 f x2 m))
set_option maxRecDepth 100000 in
theorem d204 {L : Nat} {xs : Nat → Int32} {k d n : Nat} {c : yS3} {f : Nat} {x1 : Int} {x2 : Int} {m : yM} (hk : k ≤ f) (gx1 : rg x1) (gx2 : rg x2) (hR : RM c m) : PC (gZ L xs) k d 204 [.ref 376, yI x1, yI x2] m n (qV c (F204 f x1 x2 m)) := by
  have hX : F204 f x1 x2 m = F204 f x1 x2 m := rfl
  have Hr : ∀ m', F204 f x1 x2 m = some m' → RM c m' → ∀ n' : Nat, (qV c (F204 f x1 x2 m)) (.inl none) m' n' := fun m' e h n' => ⟨rfl, h, e⟩
  refine PC.mk [some (.ref 376), some (yI x1), some (yI x2), none] kn204 rfl ?_
  refine p_iload 1 c204_0 rfl rfl ?_
  refine p_if 36 4 c204_1 rfl rfl ((yz_le gx2).trans Int.not_lt.symm) (fun hb7929 k7930 hk7930 => ?_) (fun hb7929 k7931 hk7931 => ?_)
  · have hX7932 := hX.trans (if_neg hb7929)
    exact tJ204_36 (f := f) (by omega) gx2 hR (fun m' e' => Hr m' (hX7932.trans e'))
  · have hX7957 := hX.trans (if_pos (Classical.not_not.mp hb7929))
    refine p_aload 5 c204_4 rfl rfl ?_
    refine p_getR 8 c204_5 rfl kf376_48 ?_
    refine p_iconst 10 c204_8 rfl ?_
    refine p_aload 11 c204_10 rfl rfl ?_
    refine p_getR 14 c204_11 rfl kf376_35 ?_
    refine p_iconst 16 c204_14 rfl ?_
    refine p_aload 17 c204_16 rfl rfl ?_
    refine p_getX 20 (m 376 18) c204_17 rfl kf376_18 rfl ?_
    refine p_imul 21 c204_20 rfl ?_
    refine p_iload 22 c204_21 rfl rfl ?_
    refine p_iadd 23 c204_22 rfl ?_
    refine p_iaX 24 (m 398 (wr ((wr (10 * (m 376 18))) + x1)).toNat) c204_23 rfl ka398 (rg_wr _) rfl (fun hx7958 => ?_)
    refine p_imul 25 c204_24 rfl ?_
    refine p_aload 26 c204_25 rfl rfl ?_
    refine p_getR 29 c204_26 rfl kf376_49 ?_
    refine p_iload 30 c204_29 rfl rfl ?_
    refine p_iconst 31 c204_30 rfl ?_
    refine p_isub 32 c204_31 rfl ?_
    refine p_iaX 33 (m 409 (wr (x2 - 1)).toNat) c204_32 rfl ka409 (rg_wr _) rfl (fun hx7959 => ?_)
    refine p_iadd 34 c204_33 rfl ?_
    refine p_iconst 35 c204_34 rfl ?_
    refine p_iaS 36 c204_35 rfl ka408 (rg_wr _) 1 rfl (fun hx7960 => ?_)
    have hR7961 := hR.up 408 (wr ((wr (12 * (m 398 (wr ((wr (10 * (m 376 18))) + x1)).toNat))) + (m 409 (wr (x2 - 1)).toNat))).toNat (v := 1) (nselA (by decide)) (rgD rfl)
    exact tJ204_36 (f := f) (by omega) gx2 hR7961 (fun m' e' => Hr m' (hX7957.trans e'))
def J210_179 (f : Nat) (xs1 : Int) (m : yM) : Option yM := (some (yup m 376 55 xs1))
set_option maxRecDepth 100000 in
theorem tJ210_179 {L : Nat} {xs : Nat → Int32} {Q : xO → yM → Nat → Prop} {k d n : Nat} {c : yS3} {f : Nat} {xs1 : Int} {m : yM} {j0 j1 j2 : Option Value} (hk : k ≤ f) (gxs1 : rg xs1) (hR : RM c m) (Hr : ∀ m', J210_179 f xs1 m = some m' → RM c m' → ∀ n', Q (.inl none) m' n') : PW (gZ L xs) k 210 d 179 [j0, j1, j2] [yI xs1, .ref 376] m n Q := by
  have hX : J210_179 f xs1 m = J210_179 f xs1 m := rfl
  refine p_putI 182 c210_179 rfl kf376_55 ?_
  have hR7610 := hR.up 376 55 (v := xs1) (nselD rfl) gxs1
  refine p_goto 214 c210_182 rfl ?_
  exact p_return c210_214 (Hr _ hX hR7610 _)
def J210_146 (f : Nat) (x1 : Int) (m : yM) : Option yM := (if 0 < F205 (m 403 (wr (x1 + 2)).toNat) m then (J210_179 f (wr ((m 376 55) + 1)) m) else (J210_179 f (m 403 (wr (x1 + 3)).toNat) m))
set_option maxRecDepth 100000 in
theorem tJ210_146 {L : Nat} {xs : Nat → Int32} {Q : xO → yM → Nat → Prop} {k d n : Nat} {c : yS3} {f : Nat} {x1 : Int} {m : yM} {j2 : Option Value} (hk : k ≤ f) (gx1 : rg x1) (hR : RM c m) (Hr : ∀ m', J210_146 f x1 m = some m' → RM c m' → ∀ n', Q (.inl none) m' n') : PW (gZ L xs) k 210 d 146 [some (.ref 376), some (yI x1), j2] [] m n Q := by
  have hX : J210_146 f x1 m = J210_146 f x1 m := rfl
  refine p_aload 147 c210_146 rfl rfl ?_
  refine p_aload 148 c210_147 rfl rfl ?_
  refine p_aload 149 c210_148 rfl rfl ?_
  refine p_getR 152 c210_149 rfl kf376_40 ?_
  refine p_iload 153 c210_152 rfl rfl ?_
  refine p_iconst 154 c210_153 rfl ?_
  refine p_iadd 155 c210_154 rfl ?_
  refine p_iaX 156 (m 403 (wr (x1 + 2)).toNat) c210_155 rfl ka403 (rg_wr _) rfl (fun hx7600 => ?_)
  refine p_cX 159 [.ref 376, yI (m 403 (wr (x1 + 2)).toNat)] [.ref 376] c210_156 rfl rfl rfl (fun k' hk' d' => d205 (hR.rg _ _) hR) (fun hg7604 n7602 k7601 hk7601 => ?_)
  refine p_if 171 162 c210_159 rfl rfl ((yz_le hg7604).trans Int.not_lt.symm) (fun hb7605 k7606 hk7606 => ?_) (fun hb7605 k7607 hk7607 => ?_)
  · have hX7608 := hX.trans (if_neg hb7605)
    refine p_aload 172 c210_171 rfl rfl ?_
    refine p_getR 175 c210_172 rfl kf376_40 ?_
    refine p_iload 176 c210_175 rfl rfl ?_
    refine p_iconst 177 c210_176 rfl ?_
    refine p_iadd 178 c210_177 rfl ?_
    refine p_iaX 179 (m 403 (wr (x1 + 3)).toNat) c210_178 rfl ka403 (rg_wr _) rfl (fun hx7609 => ?_)
    exact tJ210_179 (f := f) (by omega) (hR.rg _ _) hR (fun m' e' => Hr m' (hX7608.trans e'))
  · have hX7611 := hX.trans (if_pos (Classical.not_not.mp hb7605))
    refine p_aload 163 c210_162 rfl rfl ?_
    refine p_getX 166 (m 376 55) c210_163 rfl kf376_55 rfl ?_
    refine p_iconst 167 c210_166 rfl ?_
    refine p_iadd 168 c210_167 rfl ?_
    refine p_goto 179 c210_168 rfl ?_
    exact tJ210_179 (f := f) (by omega) (rg_wr _) hR (fun m' e' => Hr m' (hX7611.trans e'))
def J210_40 (f : Nat) (x1 : Int) (x2 : Int) (m : yM) : Option yM := (if 200 < m 376 56 then (some (yup m 376 57 4)) else (if x2 = 11 then (some (yup m 376 55 (m 403 (wr (x1 + 3)).toNat))) else (if x2 = 12 then (bU (F204 f (m 403 (wr (x1 + 1)).toNat) 0 m) (fun m7976 => (some m7976))) else (if x2 = 6 then (bU (F204 f (m 403 (wr (x1 + 1)).toNat) (F205 (m 403 (wr (x1 + 2)).toNat) m) m) (fun m7966 => (some m7966))) else (if x2 = 9 then (J210_146 f x1 m) else (if x2 = 10 then (J210_146 f x1 m) else (if x2 = 7 then (bU (F207 f x1 m) (fun m7918 => (some m7918))) else (bU (F209 f x1 m) (fun m7831 => (some (yup m7831 376 55 (wr ((m7831 376 55) + 1)))))))))))))
set_option maxRecDepth 100000 in
theorem tJ210_40 {L : Nat} {xs : Nat → Int32} {Q : xO → yM → Nat → Prop} {k d n : Nat} {c : yS3} {f : Nat} {x1 : Int} {x2 : Int} {m : yM} (hk : k ≤ f) (gx1 : rg x1) (gx2 : rg x2) (hR : RM c m) (Hr : ∀ m', J210_40 f x1 x2 m = some m' → RM c m' → ∀ n', Q (.inl none) m' n') : PW (gZ L xs) k 210 d 40 [some (.ref 376), some (yI x1), some (yI x2)] [] m n Q := by
  have hX : J210_40 f x1 x2 m = J210_40 f x1 x2 m := rfl
  refine p_aload 41 c210_40 rfl rfl ?_
  refine p_getX 44 (m 376 56) c210_41 rfl kf376_56 rfl ?_
  refine p_iconst 47 c210_44 rfl ?_
  refine p_icmp 58 50 c210_47 rfl rfl ((yc_le (hR.rg _ _) (rgD rfl)).trans Int.not_lt.symm) (fun hb7580 k7581 hk7581 => ?_) (fun hb7580 k7582 hk7582 => ?_)
  · have hX7583 := hX.trans (if_neg hb7580)
    refine p_iload 59 c210_58 rfl rfl ?_
    refine p_iconst 61 c210_59 rfl ?_
    refine p_icmp 79 64 c210_61 rfl rfl (yc_ne gx2 (rgD rfl)) (fun hb7584 k7585 hk7585 => ?_) (fun hb7584 k7586 hk7586 => ?_)
    · have hX7587 := hX7583.trans (if_neg hb7584)
      refine p_iload 80 c210_79 rfl rfl ?_
      refine p_iconst 82 c210_80 rfl ?_
      refine p_icmp 101 85 c210_82 rfl rfl (yc_ne gx2 (rgD rfl)) (fun hb7588 k7589 hk7589 => ?_) (fun hb7588 k7590 hk7590 => ?_)
      · have hX7591 := hX7587.trans (if_neg hb7588)
        refine p_iload 102 c210_101 rfl rfl ?_
        refine p_iconst 104 c210_102 rfl ?_
        refine p_icmp 134 107 c210_104 rfl rfl (yc_ne gx2 (rgD rfl)) (fun hb7592 k7593 hk7593 => ?_) (fun hb7592 k7594 hk7594 => ?_)
        · have hX7595 := hX7591.trans (if_neg hb7592)
          refine p_iload 135 c210_134 rfl rfl ?_
          refine p_iconst 137 c210_135 rfl ?_
          refine p_icmp 146 140 c210_137 rfl rfl (yc_eq gx2 (rgD rfl)) (fun hb7596 k7597 hk7597 => ?_) (fun hb7596 k7598 hk7598 => ?_)
          · have hX7599 := hX7595.trans (if_pos hb7596)
            exact tJ210_146 (f := f) (by omega) gx1 hR (fun m' e' => Hr m' (hX7599.trans e'))
          · have hX7612 := hX7595.trans (if_neg hb7596)
            refine p_iload 141 c210_140 rfl rfl ?_
            refine p_iconst 143 c210_141 rfl ?_
            refine p_icmp 185 146 c210_143 rfl rfl (yc_ne gx2 (rgD rfl)) (fun hb7613 k7614 hk7614 => ?_) (fun hb7613 k7615 hk7615 => ?_)
            · have hX7616 := hX7612.trans (if_neg hb7613)
              refine p_iload 186 c210_185 rfl rfl ?_
              refine p_iconst 188 c210_186 rfl ?_
              refine p_icmp 199 191 c210_188 rfl rfl (yc_ne gx2 (rgD rfl)) (fun hb7617 k7618 hk7618 => ?_) (fun hb7617 k7619 hk7619 => ?_)
              · have hX7620 := hX7616.trans (if_neg hb7617)
                refine p_aload 200 c210_199 rfl rfl ?_
                refine p_iload 201 c210_200 rfl rfl ?_
                refine p_cV 204 [.ref 376, yI x1] [] c210_201 rfl rfl rfl (fun k' hk' d' => d209 (f := f) (by omega) gx1 hR) (fun m7831 hF7827 hR7832 n7622 k7621 hk7621 => ?_)
                have hX7830 := hX7620.trans (bU_s hF7827)
                refine p_aload 205 c210_204 rfl rfl ?_
                refine p_dup 206 c210_205 rfl rfl ?_
                refine p_getX 209 (m7831 376 55) c210_206 rfl kf376_55 rfl ?_
                refine p_iconst 210 c210_209 rfl ?_
                refine p_iadd 211 c210_210 rfl ?_
                refine p_putI 214 c210_211 rfl kf376_55 ?_
                have hR7833 := hR7832.up 376 55 (v := wr ((m7831 376 55) + 1)) (nselD rfl) (rg_wr _)
                exact p_return c210_214 (Hr _ hX7830 hR7833 _)
              · have hX7834 := hX7616.trans (if_pos (Classical.not_not.mp hb7617))
                refine p_aload 192 c210_191 rfl rfl ?_
                refine p_iload 193 c210_192 rfl rfl ?_
                refine p_cV 196 [.ref 376, yI x1] [] c210_193 rfl rfl rfl (fun k' hk' d' => d207 (f := f) (by omega) gx1 hR) (fun m7918 hF7914 hR7919 n7836 k7835 hk7835 => ?_)
                have hX7917 := hX7834.trans (bU_s hF7914)
                refine p_goto 214 c210_196 rfl ?_
                exact p_return c210_214 (Hr _ hX7917 hR7919 _)
            · have hX7920 := hX7612.trans (if_pos (Classical.not_not.mp hb7613))
              exact tJ210_146 (f := f) (by omega) gx1 hR (fun m' e' => Hr m' (hX7920.trans e'))
        · have hX7921 := hX7591.trans (if_pos (Classical.not_not.mp hb7592))
          refine p_aload 108 c210_107 rfl rfl ?_
          refine p_aload 109 c210_108 rfl rfl ?_
          refine p_getR 112 c210_109 rfl kf376_40 ?_
          refine p_iload 113 c210_112 rfl rfl ?_
          refine p_iconst 114 c210_113 rfl ?_
          refine p_iadd 115 c210_114 rfl ?_
          refine p_iaX 116 (m 403 (wr (x1 + 1)).toNat) c210_115 rfl ka403 (rg_wr _) rfl (fun hx7922 => ?_)
          refine p_aload 117 c210_116 rfl rfl ?_
          refine p_aload 118 c210_117 rfl rfl ?_
          refine p_getR 121 c210_118 rfl kf376_40 ?_
          refine p_iload 122 c210_121 rfl rfl ?_
          refine p_iconst 123 c210_122 rfl ?_
          refine p_iadd 124 c210_123 rfl ?_
          refine p_iaX 125 (m 403 (wr (x1 + 2)).toNat) c210_124 rfl ka403 (rg_wr _) rfl (fun hx7923 => ?_)
          refine p_cX 128 [.ref 376, yI (m 403 (wr (x1 + 2)).toNat)] [yI (m 403 (wr (x1 + 1)).toNat), .ref 376] c210_125 rfl rfl rfl (fun k' hk' d' => d205 (hR.rg _ _) hR) (fun hg7926 n7925 k7924 hk7924 => ?_)
          refine p_cV 131 [.ref 376, yI (m 403 (wr (x1 + 1)).toNat), yI (F205 (m 403 (wr (x1 + 2)).toNat) m)] [] c210_128 rfl rfl rfl (fun k' hk' d' => d204 (f := f) (by omega) (hR.rg _ _) hg7926 hR) (fun m7966 hF7962 hR7967 n7928 k7927 hk7927 => ?_)
          have hX7965 := hX7921.trans (bU_s hF7962)
          refine p_goto 214 c210_131 rfl ?_
          exact p_return c210_214 (Hr _ hX7965 hR7967 _)
      · have hX7968 := hX7587.trans (if_pos (Classical.not_not.mp hb7588))
        refine p_aload 86 c210_85 rfl rfl ?_
        refine p_aload 87 c210_86 rfl rfl ?_
        refine p_getR 90 c210_87 rfl kf376_40 ?_
        refine p_iload 91 c210_90 rfl rfl ?_
        refine p_iconst 92 c210_91 rfl ?_
        refine p_iadd 93 c210_92 rfl ?_
        refine p_iaX 94 (m 403 (wr (x1 + 1)).toNat) c210_93 rfl ka403 (rg_wr _) rfl (fun hx7969 => ?_)
        refine p_iconst 95 c210_94 rfl ?_
        refine p_cV 98 [.ref 376, yI (m 403 (wr (x1 + 1)).toNat), yI 0] [] c210_95 rfl rfl rfl (fun k' hk' d' => d204 (f := f) (by omega) (hR.rg _ _) (rgD rfl) hR) (fun m7976 hF7972 hR7977 n7971 k7970 hk7970 => ?_)
        have hX7975 := hX7968.trans (bU_s hF7972)
        refine p_goto 214 c210_98 rfl ?_
        exact p_return c210_214 (Hr _ hX7975 hR7977 _)
    · have hX7978 := hX7583.trans (if_pos (Classical.not_not.mp hb7584))
      refine p_aload 65 c210_64 rfl rfl ?_
      refine p_aload 66 c210_65 rfl rfl ?_
      refine p_getR 69 c210_66 rfl kf376_40 ?_
      refine p_iload 70 c210_69 rfl rfl ?_
      refine p_iconst 71 c210_70 rfl ?_
      refine p_iadd 72 c210_71 rfl ?_
      refine p_iaX 73 (m 403 (wr (x1 + 3)).toNat) c210_72 rfl ka403 (rg_wr _) rfl (fun hx7979 => ?_)
      refine p_putI 76 c210_73 rfl kf376_55 ?_
      have hR7980 := hR.up 376 55 (v := m 403 (wr (x1 + 3)).toNat) (nselD rfl) (hR.rg _ _)
      refine p_goto 214 c210_76 rfl ?_
      exact p_return c210_214 (Hr _ hX7978 hR7980 _)
  · have hX7981 := hX.trans (if_pos (Classical.not_not.mp hb7580))
    refine p_aload 51 c210_50 rfl rfl ?_
    refine p_iconst 52 c210_51 rfl ?_
    refine p_putI 55 c210_52 rfl kf376_57 ?_
    have hR7982 := hR.up 376 57 (v := 4) (nselD rfl) (rgD rfl)
    refine p_goto 214 c210_55 rfl ?_
    exact p_return c210_214 (Hr _ hX7981 hR7982 _)
def F210 (f : Nat) (m : yM) : Option yM := (if m 403 (wr ((wr (1000 * (m 376 18))) + (wr (8 * (m 376 55))))).toNat < 11 then (J210_40 f (wr ((wr (1000 * (m 376 18))) + (wr (8 * (m 376 55))))) (m 403 (wr ((wr (1000 * (m 376 18))) + (wr (8 * (m 376 55))))).toNat) (yup m 376 56 (wr ((m 376 56) + 1)))) else (J210_40 f (wr ((wr (1000 * (m 376 18))) + (wr (8 * (m 376 55))))) (m 403 (wr ((wr (1000 * (m 376 18))) + (wr (8 * (m 376 55))))).toNat) m))
set_option maxRecDepth 100000 in
theorem d210 {L : Nat} {xs : Nat → Int32} {k d n : Nat} {c : yS3} {f : Nat} {m : yM} (hk : k ≤ f) (hR : RM c m) : PC (gZ L xs) k d 210 [.ref 376] m n (qV c (F210 f m)) := by
  have hX : F210 f m = F210 f m := rfl
  have Hr : ∀ m', F210 f m = some m' → RM c m' → ∀ n' : Nat, (qV c (F210 f m)) (.inl none) m' n' := fun m' e h n' => ⟨rfl, h, e⟩
  refine PC.mk [some (.ref 376), none, none] kn210 rfl ?_
  refine p_iconst 3 c210_0 rfl ?_
  refine p_aload 4 c210_3 rfl rfl ?_
  refine p_getX 7 (m 376 18) c210_4 rfl kf376_18 rfl ?_
  refine p_imul 8 c210_7 rfl ?_
  refine p_iconst 10 c210_8 rfl ?_
  refine p_aload 11 c210_10 rfl rfl ?_
  refine p_getX 14 (m 376 55) c210_11 rfl kf376_55 rfl ?_
  refine p_imul 15 c210_14 rfl ?_
  refine p_iadd 16 c210_15 rfl ?_
  refine p_istore 17 c210_16 rfl rfl ?_
  refine p_aload 18 c210_17 rfl rfl ?_
  refine p_getR 21 c210_18 rfl kf376_40 ?_
  refine p_iload 22 c210_21 rfl rfl ?_
  refine p_iaX 23 (m 403 (wr ((wr (1000 * (m 376 18))) + (wr (8 * (m 376 55))))).toNat) c210_22 rfl ka403 (rg_wr _) rfl (fun hx7575 => ?_)
  refine p_istore 24 c210_23 rfl rfl ?_
  refine p_iload 25 c210_24 rfl rfl ?_
  refine p_iconst 27 c210_25 rfl ?_
  refine p_icmp 40 30 c210_27 rfl rfl ((yc_ge (hR.rg _ _) (rgD rfl)).trans Int.not_lt.symm) (fun hb7576 k7577 hk7577 => ?_) (fun hb7576 k7578 hk7578 => ?_)
  · have hX7579 := hX.trans (if_neg hb7576)
    exact tJ210_40 (f := f) (by omega) (rg_wr _) (hR.rg _ _) hR (fun m' e' => Hr m' (hX7579.trans e'))
  · have hX7983 := hX.trans (if_pos (Classical.not_not.mp hb7576))
    refine p_aload 31 c210_30 rfl rfl ?_
    refine p_dup 32 c210_31 rfl rfl ?_
    refine p_getX 35 (m 376 56) c210_32 rfl kf376_56 rfl ?_
    refine p_iconst 36 c210_35 rfl ?_
    refine p_iadd 37 c210_36 rfl ?_
    refine p_putI 40 c210_37 rfl kf376_56 ?_
    have hR7984 := hR.up 376 56 (v := wr ((m 376 56) + 1)) (nselD rfl) (rg_wr _)
    exact tJ210_40 (f := f) (by omega) (rg_wr _) (hR.rg _ _) hR7984 (fun m' e' => Hr m' (hX7983.trans e'))
