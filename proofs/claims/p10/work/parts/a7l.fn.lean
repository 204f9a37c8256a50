/-! FUNCTIONS OF THE METHODS: printed by wip/fn/dc.py -/
def B197_6 (f : Nat) (rc : Int → Int → Int → yM → Option ((Int ⊕ Nat) × yM)) (A : Nat) (x2 : Int) (x3 : Int) (x4 : Int) (x5 : Int) (m : yM) : Option (((Int × Int) × yM) ⊕ (((Int × Int) × yM) ⊕ ((Int ⊕ Nat) × yM))) := (if x5 < 40 then (if x4 < x2 then (bT (F196 f rc A x4 x3 m) (fun r7342 m7344 => (if r7342 = 0 then (if 0 ≤ x4 ∧ x4 < ((40 : Nat) : Int) then (some (.inl ((m7344 (A + 20 + (x4).toNat) 12, wr (x5 + 1)), m7344))) else none) else (some (.inr (.inr (.inl 1, m7344)))))) (fun e' m7344 => (some (.inr (.inr (.inr e', m7344)))))) else (some (.inr (.inl ((x4, x5), m))))) else (some (.inr (.inl ((x4, x5), m)))))
set_option maxRecDepth 100000 in
theorem tB197_6 {L : Nat} {xs : Nat → Int32} {Q : xO → yM → Nat → Prop} {k d n : Nat} {c : yS3} {f : Nat} {rc : Int → Int → Int → yM → Option ((Int ⊕ Nat) × yM)} {A : Nat} {x2 : Int} {x3 : Int} {x4 : Int} {x5 : Int} {m : yM} {j1 : Option Value} (hk : k ≤ f) (hrc : ∀ k', k' < k → ∀ {d' : Nat} {x1 x2 x3 : Int} {m' : yM} {n' : Nat}, rg x1 → rg x2 → rg x3 → RM c m' → PC (gZ L xs) k' d' 197 [.ref 169, yI x1, yI x2, yI x3] m' n' (qEI (fun e => e = 10 ∨ e = 11 ∨ e = 12 ∨ e = 13) c (rc x1 x2 x3 m'))) (hc : c.2.2 = pX A) (hA : (A = 256 ∨ A = 316)) (gx2 : rg x2) (gx3 : rg x3) (gx4 : rg x4) (gx5 : rg x5) (hR : RM c m) (Hn : ∀ (y0 y1 : Int) (z0 : Option Value) (m' : yM) (n' : Nat), B197_6 f rc A x2 x3 x4 x5 m = some (.inl ((y0, y1), m')) → rg y0 → rg y1 → RM c m' → ∀ k', k' < k → PW (gZ L xs) k' 197 d 6 [some (.ref 169), z0, some (yI x2), some (yI x3), some (yI y0), some (yI y1)] [] m' n' Q) (He : ∀ (y0 y1 : Int) (z0 : Option Value) (m' : yM) (n' : Nat), B197_6 f rc A x2 x3 x4 x5 m = some (.inr (.inl ((y0, y1), m'))) → rg y0 → rg y1 → RM c m' → ∀ k', k' ≤ k → PW (gZ L xs) k' 197 d 52 [some (.ref 169), z0, some (yI x2), some (yI x3), some (yI y0), some (yI y1)] [] m' n' Q) (Hr : ∀ r m', B197_6 f rc A x2 x3 x4 x5 m = some (.inr (.inr (.inl r, m'))) → rg r → RM c m' → ∀ n', Q (.inl (some (yI r))) m' n') (Ht : ∀ e m', B197_6 f rc A x2 x3 x4 x5 m = some (.inr (.inr (.inr e, m'))) → (fun e => e = 10 ∨ e = 11 ∨ e = 12 ∨ e = 13) e → RM c m' → ∀ x n', Q (.inr (e, x)) m' n') : PW (gZ L xs) k 197 d 6 [some (.ref 169), j1, some (yI x2), some (yI x3), some (yI x4), some (yI x5)] [] m n Q := by
  have hX : B197_6 f rc A x2 x3 x4 x5 m = B197_6 f rc A x2 x3 x4 x5 m := rfl
  refine p_iload 8 c197_6 rfl rfl ?_
  refine p_iconst 10 c197_8 rfl ?_
  refine p_icmp 52 13 c197_10 rfl rfl ((yc_ge gx5 (rgD rfl)).trans Int.not_lt.symm) (fun hb6912 k6913 hk6913 => ?_) (fun hb6912 k6914 hk6914 => ?_)
  · have hX6915 := hX.trans (if_neg hb6912)
    exact He _ _ _ _ _ hX6915 gx4 gx5 hR _ (by omega)
  · have hX6916 := hX.trans (if_pos (Classical.not_not.mp hb6912))
    refine p_iload 15 c197_13 rfl rfl ?_
    refine p_iload 16 c197_15 rfl rfl ?_
    refine p_icmp 52 19 c197_16 rfl rfl ((yc_ge gx4 gx2).trans Int.not_lt.symm) (fun hb6917 k6918 hk6918 => ?_) (fun hb6917 k6919 hk6919 => ?_)
    · have hX6920 := hX6916.trans (if_neg hb6917)
      exact He _ _ _ _ _ hX6920 gx4 gx5 hR _ (by omega)
    · have hX6921 := hX6916.trans (if_pos (Classical.not_not.mp hb6917))
      refine p_aload 20 c197_19 rfl rfl ?_
      refine p_iload 22 c197_20 rfl rfl ?_
      refine p_iload 23 c197_22 rfl rfl ?_
      refine p_cTI 26 [.ref 169, yI x4, yI x3] [] c197_23 rfl rfl rfl (fun k' hk' d' => d196 (f := f) (by omega) (fun k' h' => hrc k' (by omega)) hc hA gx4 gx3 hR) (fun r7342 m7344 hF7340 hg7341 hR7345 n6923 k6922 hk6922 => ?_) (fun e' q7349 m7344 n' hF7340 hE7347 hR7348 => ?_)
      · have hX7343 := hX6921.trans (bT_l hF7340)
        refine p_if 31 29 c197_26 rfl rfl (yz_eq hg7341) (fun hb7350 k7351 hk7351 => ?_) (fun hb7350 k7352 hk7352 => ?_)
        · have hX7353 := hX7343.trans (if_pos hb7350)
          refine p_aload 32 c197_31 rfl rfl ?_
          refine p_getV 35 (.ref A) c197_32 rfl kf169_4 (pX_of hA hR7345.2.2.2.2.2 hc) ?_
          refine p_getR 38 c197_35 rfl (kP_6 hA) ?_
          refine p_iload 40 c197_38 rfl rfl ?_
          refine p_aaX 41 c197_40 rfl (kPr_7 hA) gx4 (fun hx7354 => ?_)
          have hX7355 := hX7353.trans (if_pos hx7354)
          refine p_getX 44 (m7344 (A + 20 + (x4).toNat) 12) c197_41 rfl (kS_12 (kSr hA hx7354)) rfl ?_
          refine p_istore 46 c197_44 rfl rfl ?_
          refine p_iinc 49 c197_46 rfl rfl rfl ?_
          refine p_gotoD 6 c197_49 rfl (fun k7356 hk7356 => ?_)
          exact Hn _ _ _ _ _ hX7355 (hR7345.rg _ _) (rg_wr _) hR7345 _ (by omega)
        · have hX7357 := hX7343.trans (if_neg hb7350)
          refine p_iconst 30 c197_29 rfl ?_
          exact p_ireturn c197_30 (Hr _ _ hX7357 (rgD rfl) hR7345 _)
      · exact ⟨fun pq hpq => absurd ((khm rfl).symm.trans hpq) (by simp), fun _ => Ht e' m7344 (hX6921.trans (bT_r hF7340)) hE7347 hR7348 q7349 n'⟩
def G197 (f : Nat) (rc : Int → Int → Int → yM → Option ((Int ⊕ Nat) × yM)) (A : Nat) (x1 : Int) (x2 : Int) (x3 : Int) (m : yM) : Option ((Int ⊕ Nat) × yM) := (bL (yloop (fun (l : Int × Int) ml => B197_6 f rc A x2 x3 l.1 l.2 ml) f (x1, 0) m) (fun l7358 m7364 => (some (.inl 0, m7364))) (fun r mr => some (r, mr)))
set_option maxRecDepth 100000 in
theorem g197 {L : Nat} {xs : Nat → Int32} {k d n : Nat} {c : yS3} {f : Nat} {rc : Int → Int → Int → yM → Option ((Int ⊕ Nat) × yM)} {A : Nat} {x1 : Int} {x2 : Int} {x3 : Int} {m : yM} (hk : k ≤ f) (hrc : ∀ k', k' < k → ∀ {d' : Nat} {x1 x2 x3 : Int} {m' : yM} {n' : Nat}, rg x1 → rg x2 → rg x3 → RM c m' → PC (gZ L xs) k' d' 197 [.ref 169, yI x1, yI x2, yI x3] m' n' (qEI (fun e => e = 10 ∨ e = 11 ∨ e = 12 ∨ e = 13) c (rc x1 x2 x3 m'))) (hc : c.2.2 = pX A) (hA : (A = 256 ∨ A = 316)) (gx1 : rg x1) (gx2 : rg x2) (gx3 : rg x3) (hR : RM c m) : PC (gZ L xs) k d 197 [.ref 169, yI x1, yI x2, yI x3] m n (qEI (fun e => e = 10 ∨ e = 11 ∨ e = 12 ∨ e = 13) c (G197 f rc A x1 x2 x3 m)) := by
  have hX : G197 f rc A x1 x2 x3 m = G197 f rc A x1 x2 x3 m := rfl
  have Hr : ∀ r m', G197 f rc A x1 x2 x3 m = some (.inl r, m') → rg r → RM c m' → ∀ n' : Nat, (qEI (fun e => e = 10 ∨ e = 11 ∨ e = 12 ∨ e = 13) c (G197 f rc A x1 x2 x3 m)) (.inl (some (yI r))) m' n' := fun r m' e h1 h2 n' => Or.inl ⟨r, rfl, h1, h2, e⟩
  have Ht : ∀ e m', G197 f rc A x1 x2 x3 m = some (.inr e, m') → (fun e => e = 10 ∨ e = 11 ∨ e = 12 ∨ e = 13) e → RM c m' → ∀ x n' : Nat, (qEI (fun e => e = 10 ∨ e = 11 ∨ e = 12 ∨ e = 13) c (G197 f rc A x1 x2 x3 m)) (.inr (e, x)) m' n' := fun e m' e1 h1 h2 x n' => Or.inr ⟨e, x, rfl, h1, h2, e1⟩
  refine PC.mk [some (.ref 169), some (yI x1), some (yI x2), some (yI x3), none, none] kn197 rfl ?_
  refine p_iload 1 c197_0 rfl rfl ?_
  refine p_istore 3 c197_1 rfl rfl ?_
  refine p_iconst 4 c197_3 rfl ?_
  refine p_istore 6 c197_4 rfl rfl ?_
  refine PW.loop (K := k) (pce := 52) (fun (l : Int × Int) ml => B197_6 f rc A x2 x3 l.1 l.2 ml) (fun (l : Int × Int) j => [some (.ref 169), j 1, some (yI x2), some (yI x3), some (yI l.1), some (yI l.2)]) (fun (l : Int × Int) => rg l.1 ∧ rg l.2) (RM c) (fun (r' : (Int ⊕ Nat)) m' => (∀ v, r' = .inl v → rg v → RM c m' → ∀ n' : Nat, (qEI (fun e => e = 10 ∨ e = 11 ∨ e = 12 ∨ e = 13) c (G197 f rc A x1 x2 x3 m)) (.inl (some (yI v))) m' n') ∧ (∀ e, r' = .inr e → (fun e => e = 10 ∨ e = 11 ∨ e = 12 ∨ e = 13) e → RM c m' → ∀ x n' : Nat, (qEI (fun e => e = 10 ∨ e = 11 ∨ e = 12 ∨ e = 13) c (G197 f rc A x1 x2 x3 m)) (.inr (e, x)) m' n')) (fun k' hk' l j m' n' hl hI Hn' He' Hr' => tB197_6 (f := f) (by omega) (fun k' h' => hrc k' (by omega)) hc hA gx2 gx3 hl.1 hl.2 hI (fun y0 y1 y2 m2 n2 e h0 h1 hR2 => Hn' (y0, y1) (fun q => ([none, y2, none, none, none, none] : List (Option Value)).getD q none) m2 n2 e ⟨h0, h1⟩ hR2) (fun y0 y1 y2 m2 n2 e h0 h1 hR2 => He' (y0, y1) (fun q => ([none, y2, none, none, none, none] : List (Option Value)).getD q none) m2 n2 e ⟨h0, h1⟩ hR2) (fun v m2 e => (Hr' (.inl v) m2 e).1 v rfl) (fun v m2 e => (Hr' (.inr v) m2 e).2 v rfl)) f k (by omega) (Nat.le_refl _) (x1, 0) (fun q => ([some (.ref 169), some (yI x1), some (yI x2), some (yI x3), some (yI x1), some (yI 0)] : xL).getD q none) _ _ ⟨gx1, (rgD rfl)⟩ hR (fun l7358 j7361 m7364 n7363 e7360 hl7359 hR7365 k7362 hk7362 => ?_) (fun r' m' e' => ?_)
  · have hX7366 := hX.trans (bL_l e7360)
    refine p_iconst 53 c197_52 rfl ?_
    exact p_ireturn c197_53 (Hr _ _ hX7366 (rgD rfl) hR7365 _)
  · exact ⟨fun v hv => Hr v m' ((hX.trans (bL_r e')).trans (by rw [hv])), fun v hv => Ht v m' ((hX.trans (bL_r e')).trans (by rw [hv]))⟩
def F197 (f : Nat) (A : Nat) : Nat → Int → Int → Int → yM → Option ((Int ⊕ Nat) × yM)
  | 0 => fun _ _ _ _ => none
  | g + 1 => G197 f (F197 f A g) A
theorem d197 {L : Nat} {xs : Nat → Int32} {f A : Nat} {c : yS3} (hc : c.2.2 = pX A) (hA : (A = 256 ∨ A = 316)) : ∀ (g k : Nat), k ≤ f → k ≤ g → ∀ (d n : Nat) (x1 : Int) (x2 : Int) (x3 : Int) (m : yM), rg x1 → rg x2 → rg x3 → RM c m → PC (gZ L xs) k d 197 [.ref 169, yI x1, yI x2, yI x3] m n (qEI (fun e => e = 10 ∨ e = 11 ∨ e = 12 ∨ e = 13) c (F197 f A g x1 x2 x3 m))
  | 0, k, _, h => by
    intro d n x1 x2 x3 m _ _ _ _
    have e : k = 0 := by omega
    subst e
    exact PW.zero
  | g + 1, k, hk, hg => by
    intro d n x1 x2 x3 m gx1 gx2 gx3 hR
    exact g197 (f := f) hk (fun k' hk' {d'} {x0'} {x1'} {x2'} {m'} {n'} h0' h1' h2' hR' => d197 hc hA g k' (by omega) (by omega) d' n' x0' x1' x2' m' h0' h1' h2' hR') hc hA gx1 gx2 gx3 hR
def F198 (f : Nat) (A : Nat) (m : yM) : Option ((Unit ⊕ Nat) × yM) := (bU (F92 f (yup m 169 4 (pX A))) (fun m6787 => (bT (F186 f 0 (yup (yup m6787 169 5 0) 169 6 0)) (fun r6830 m6832 => (if 0 ≤ (m6832 A 17) ∧ (m6832 A 17) < ((10 : Nat) : Int) then (bT (F187 f 0 m6832) (fun r6878 m6880 => (if 252 ≤ r6878 ∧ r6878 < 256 then (bU (F188_48 f r6878 (F57 (A + 10 + (m6832 A 17).toNat) m6880) r6830 m6880) (fun m6908 => (bT (F197 f A f (m6908 (A + 10 + (m6832 A 17).toNat) 4) (m6908 (A + 10 + (m6832 A 17).toNat) 5) 0 m6908) (fun r7369 m7371 => (some (.inl (), m7371))) (fun e' m7371 => (some (.inr e', m7371)))))) else none)) (fun e' m6880 => (some (.inr e', m6880)))) else none)) (fun e' m6832 => (some (.inr e', m6832))))))
set_option maxRecDepth 100000 in
theorem d198 {L : Nat} {xs : Nat → Int32} {k d n : Nat} {c : yS3} {f : Nat} {A : Nat} {m : yM} (hk : k ≤ f) (hA : (A = 256 ∨ A = 316)) (hR : RM c m) : PC (gZ L xs) k d 198 [.ref 169, .ref A] m n (qEV (fun e => e = 10 ∨ e = 11 ∨ e = 12 ∨ e = 13) (c.1, c.2.1, pX A) (F198 f A m)) := by
  have hX : F198 f A m = F198 f A m := rfl
  have Hr : ∀ m', F198 f A m = some (.inl (), m') → RM (c.1, c.2.1, pX A) m' → ∀ n' : Nat, (qEV (fun e => e = 10 ∨ e = 11 ∨ e = 12 ∨ e = 13) (c.1, c.2.1, pX A) (F198 f A m)) (.inl none) m' n' := fun m' e h n' => Or.inl ⟨rfl, h, e⟩
  have Ht : ∀ e m', F198 f A m = some (.inr e, m') → (fun e => e = 10 ∨ e = 11 ∨ e = 12 ∨ e = 13) e → RM (c.1, c.2.1, pX A) m' → ∀ x n' : Nat, (qEV (fun e => e = 10 ∨ e = 11 ∨ e = 12 ∨ e = 13) (c.1, c.2.1, pX A) (F198 f A m)) (.inr (e, x)) m' n' := fun e m' e1 h1 h2 x n' => Or.inr ⟨e, x, rfl, h1, h2, e1⟩
  refine PC.mk [some (.ref 169), some (.ref A), none, none] kn198 rfl ?_
  refine p_aload 1 c198_0 rfl rfl ?_
  refine p_aload 2 c198_1 rfl rfl ?_
  refine p_put 5 (x := pX A) c198_2 rfl kf169_4 (pX_sv hA) ?_
  have hR6780 := RM.s169 hR (pX_01 A)
  refine p_aload 6 c198_5 rfl rfl ?_
  refine p_cV 9 [.ref 169] [] c198_6 rfl rfl rfl (fun k' hk' d' => d92 (f := f) (by omega) hR6780) (fun m6787 hF6783 hR6788 n6782 k6781 hk6781 => ?_)
  have hX6786 := hX.trans (bU_s hF6783)
  refine p_aload 10 c198_9 rfl rfl ?_
  refine p_iconst 11 c198_10 rfl ?_
  refine p_putI 14 c198_11 rfl kf169_5 ?_
  have hR6789 := hR6788.up 169 5 (v := 0) (nselD rfl) (rgD rfl)
  refine p_aload 15 c198_14 rfl rfl ?_
  refine p_iconst 16 c198_15 rfl ?_
  refine p_putI 19 c198_16 rfl kf169_6 ?_
  have hR6790 := hR6789.up 169 6 (v := 0) (nselD rfl) (rgD rfl)
  refine p_aload 20 c198_19 rfl rfl ?_
  refine p_iconst 21 c198_20 rfl ?_
  refine p_cTI 24 [.ref 169, yI 0] [] c198_21 rfl rfl rfl (fun k' hk' d' => d186 (f := f) (by omega) (rgD rfl) hR6790) (fun r6830 m6832 hF6828 hg6829 hR6833 n6792 k6791 hk6791 => ?_) (fun e' q6837 m6832 n' hF6828 hE6835 hR6836 => ?_)
  · have hX6831 := hX6786.trans (bT_l hF6828)
    refine p_istore 25 c198_24 rfl rfl ?_
    refine p_aload 26 c198_25 rfl rfl ?_
    refine p_getV 29 (.ref A) c198_26 rfl kf169_4 (pX_of hA hR6833.2.2.2.2.2 (rfl : ((c.1, c.2.1, pX A) : yS3).2.2 = pX A)) ?_
    refine p_getR 32 c198_29 rfl (kP_5 hA) ?_
    refine p_aload 33 c198_32 rfl rfl ?_
    refine p_getV 36 (.ref A) c198_33 rfl kf169_4 (pX_of hA hR6833.2.2.2.2.2 (rfl : ((c.1, c.2.1, pX A) : yS3).2.2 = pX A)) ?_
    refine p_getX 39 (m6832 A 17) c198_36 rfl (kP_17 hA) rfl ?_
    refine p_aaX 40 c198_39 rfl (kPr_6 hA) (hR6833.rg _ _) (fun hx6838 => ?_)
    have hX6839 := hX6831.trans (if_pos hx6838)
    refine p_astore 41 c198_40 rfl rfl ?_
    refine p_aload 42 c198_41 rfl rfl ?_
    refine p_aload 43 c198_42 rfl rfl ?_
    refine p_iconst 44 c198_43 rfl ?_
    refine p_cTA 47 [.ref 169, yI 0] [.ref 169] c198_44 rfl rfl rfl (fun k' hk' d' => d187 (f := f) (by omega) (rgD rfl) hR6833) (fun r6878 m6880 hF6876 hg6877 hR6881 n6841 k6840 hk6840 => ?_) (fun e' q6885 m6880 n' hF6876 hE6883 hR6884 => ?_)
    · have hX6879 := hX6839.trans (bT_l hF6876)
      have := hg6877.2
      have hX6886 := hX6879.trans (if_pos hg6877.2)
      refine p_aload 48 c198_47 rfl rfl ?_
      refine p_cX 51 [.ref (A + 10 + (m6832 A 17).toNat)] [.ref r6878, .ref 169] c198_48 rfl rfl rfl (fun k' hk' d' => d57 (kMr hA hx6838) hR6881) (fun hg6889 n6888 k6887 hk6887 => ?_)
      refine p_iload 52 c198_51 rfl rfl ?_
      refine p_cV 55 [.ref 169, .ref r6878, yI (F57 (A + 10 + (m6832 A 17).toNat) m6880), yI r6830] [] c198_52 rfl rfl rfl (fun k' hk' d' => d188_48 (f := f) (by omega) hg6877.1 (by omega) hg6889 hg6829 hR6881) (fun m6908 hF6904 hR6909 n6891 k6890 hk6890 => ?_)
      have hX6907 := hX6886.trans (bU_s hF6904)
      refine p_aload 56 c198_55 rfl rfl ?_
      refine p_aload 57 c198_56 rfl rfl ?_
      refine p_getX 60 (m6908 (A + 10 + (m6832 A 17).toNat) 4) c198_57 rfl (kM_4 (kMr hA hx6838)) rfl ?_
      refine p_aload 61 c198_60 rfl rfl ?_
      refine p_getX 64 (m6908 (A + 10 + (m6832 A 17).toNat) 5) c198_61 rfl (kM_5 (kMr hA hx6838)) rfl ?_
      refine p_iconst 65 c198_64 rfl ?_
      refine p_cTI 68 [.ref 169, yI (m6908 (A + 10 + (m6832 A 17).toNat) 4), yI (m6908 (A + 10 + (m6832 A 17).toNat) 5), yI 0] [] c198_65 rfl rfl rfl (fun k' hk' d' => d197 (f := f) (rfl : ((c.1, c.2.1, pX A) : yS3).2.2 = pX A) hA f k' (by omega) (by omega) _ _ _ _ _ _ (hR6909.rg _ _) (hR6909.rg _ _) (rgD rfl) hR6909) (fun r7369 m7371 hF7367 hg7368 hR7372 n6911 k6910 hk6910 => ?_) (fun e' q7376 m7371 n' hF7367 hE7374 hR7375 => ?_)
      · have hX7370 := hX6907.trans (bT_l hF7367)
        refine p_pop 69 c198_68 rfl rfl ?_
        exact p_return c198_69 (Hr _ hX7370 hR7372 _)
      · exact ⟨fun pq hpq => absurd ((khm rfl).symm.trans hpq) (by simp), fun _ => Ht e' m7371 (hX6907.trans (bT_r hF7367)) hE7374 hR7375 q7376 n'⟩
    · exact ⟨fun pq hpq => absurd ((khm rfl).symm.trans hpq) (by simp), fun _ => Ht e' m6880 (hX6839.trans (bT_r hF6876)) (by have q := hE6883; simp only at q ⊢; omega) hR6884 q6885 n'⟩
  · exact ⟨fun pq hpq => absurd ((khm rfl).symm.trans hpq) (by simp), fun _ => Ht e' m6832 (hX6786.trans (bT_r hF6828)) (by have q := hE6835; simp only at q ⊢; omega) hR6836 q6837 n'⟩
def F199 (f : Nat) (m : yM) : Option ((Int ⊕ Nat) × yM) := (if m (pA (m 0 4)) 17 = (-1) then (some (.inr 11, m)) else (bT (F198 f (pA (m 0 4)) m) (fun _ m7381 => (some (.inl (m7381 169 6), m7381))) (fun e' m7381 => (some (.inr e', m7381)))))
set_option maxRecDepth 100000 in
theorem d199 {L : Nat} {xs : Nat → Int32} {k d n : Nat} {c : yS3} {f : Nat} {m : yM} (hk : k ≤ f) (hR : RM c m) : PC (gZ L xs) k d 199 [.ref 0] m n (qEIe (fun e => e = 10 ∨ e = 11 ∨ e = 12 ∨ e = 13) (F199 f m)) := by
  have hX : F199 f m = F199 f m := rfl
  have Hr : ∀ r m', F199 f m = some (.inl r, m') → rg r → (∃ c, RM c m') → ∀ n' : Nat, (qEIe (fun e => e = 10 ∨ e = 11 ∨ e = 12 ∨ e = 13) (F199 f m)) (.inl (some (yI r))) m' n' := fun r m' e h1 h2 n' => Or.inl ⟨r, rfl, h1, h2, e⟩
  have Ht : ∀ e m', F199 f m = some (.inr e, m') → (fun e => e = 10 ∨ e = 11 ∨ e = 12 ∨ e = 13) e → (∃ c, RM c m') → ∀ x n' : Nat, (qEIe (fun e => e = 10 ∨ e = 11 ∨ e = 12 ∨ e = 13) (F199 f m)) (.inr (e, x)) m' n' := fun e m' e1 h1 h2 x n' => Or.inr ⟨e, x, rfl, h1, h2, e1⟩
  refine PC.mk [some (.ref 0)] kn199 rfl ?_
  refine p_aload 1 c199_0 rfl rfl ?_
  refine p_getV 4 (.ref (pA (m 0 4))) c199_1 rfl kf0_4 (pA_sv2 hR.2.1 rfl) ?_
  refine p_getX 7 (m (pA (m 0 4)) 17) c199_4 rfl (kP_17 (pA_is _)) rfl ?_
  refine p_iconst 8 c199_7 rfl ?_
  refine p_icmp 19 11 c199_8 rfl rfl (yc_ne (hR.rg _ _) (rgD rfl)) (fun hb6774 k6775 hk6775 => ?_) (fun hb6774 k6776 hk6776 => ?_)
  · have hX6777 := hX.trans (if_neg hb6774)
    refine p_aload 20 c199_19 rfl rfl ?_
    refine p_getR 23 c199_20 rfl kf0_3 ?_
    refine p_aload 24 c199_23 rfl rfl ?_
    refine p_getV 27 (.ref (pA (m 0 4))) c199_24 rfl kf0_4 (pA_sv2 hR.2.1 rfl) ?_
    refine p_cTV 30 [.ref 169, .ref (pA (m 0 4))] [] c199_27 rfl rfl rfl (fun k' hk' d' => d198 (f := f) (by omega) (pA_is _) hR) (fun m7381 hF7377 hR7382 n6779 k6778 hk6778 => ?_) (fun e' q7386 m7381 n' hF7377 hE7384 hR7385 => ?_)
    · have hX7380 := hX6777.trans (bT_l hF7377)
      refine p_aload 31 c199_30 rfl rfl ?_
      refine p_getR 34 c199_31 rfl kf0_3 ?_
      refine p_getX 37 (m7381 169 6) c199_34 rfl kf169_6 rfl ?_
      exact p_ireturn c199_37 (Hr _ _ hX7380 (hR7382.rg _ _) ⟨_, hR7382⟩ _)
    · exact ⟨fun pq hpq => absurd ((khm rfl).symm.trans hpq) (by simp), fun _ => Ht e' m7381 (hX6777.trans (bT_r hF7377)) hE7384 ⟨_, hR7385⟩ q7386 n'⟩
  · have hX7387 := hX.trans (if_pos (Classical.not_not.mp hb6774))
    exact p_throw c199_11 (fun x n' => Ht _ _ hX7387 (Or.inr (Or.inl rfl)) ⟨_, hR⟩ x n')
def F200 (f : Nat) (m : yM) : Option (Int × yM) := (bT (F199 f m) (fun r7390 m7392 => (some (0, yup m7392 413 0 ((i2l r7390).toInt)))) (fun e' m7392 => (if e' = 10 then (some (4, m7392)) else (if e' = 11 then (some (1, m7392)) else (if e' = 12 then (some (2, m7392)) else (if e' = 13 then (some (3, m7392)) else none))))))
set_option maxRecDepth 100000 in
theorem d200 {L : Nat} {xs : Nat → Int32} {k d n : Nat} {c : yS3} {f : Nat} {m : yM} (hk : k ≤ f) (hR : RM c m) : PC (gZ L xs) k d 200 [.ref 0, .ref 413] m n (qSe (F200 f m)) := by
  have hX : F200 f m = F200 f m := rfl
  have Hr : ∀ r m', F200 f m = some (r, m') → rg r → (∃ c, RM c m') → ∀ n' : Nat, (qSe (F200 f m)) (.inl (some (yI r))) m' n' := fun r m' e h1 h2 n' => ⟨r, rfl, h1, h2, e⟩
  refine PC.mk [some (.ref 0), some (.ref 413), none] kn200 rfl ?_
  refine p_aload 1 c200_0 rfl rfl ?_
  refine p_iconst 2 c200_1 rfl ?_
  refine p_aload 3 c200_2 rfl rfl ?_
  refine p_cTIe 6 [.ref 0] [yI 0, .ref 413] c200_3 rfl rfl rfl (fun k' hk' d' => d199 (f := f) (by omega) hR) (fun r7390 m7392 c7398 hF7388 hg7389 hR7393 n6773 k6772 hk6772 => ?_) (fun e' q7397 m7392 n' c7398 hF7388 hE7395 hR7396 => ?_)
  · have hX7391 := hX.trans (bT_l hF7388)
    refine p_i2l 7 c200_6 rfl ?_
    refine p_laS 8 c200_7 rfl kl413 (rgD rfl) (fun hx7399 => ?_)
    have hR7400 := hR7393.up 413 0 (v := (i2l r7390).toInt) (nselD rfl) (rg_i2l _)
    refine p_goto 23 c200_8 rfl ?_
    refine p_iconst 24 c200_23 rfl ?_
    exact p_ireturn c200_24 (Hr _ _ hX7391 (rgD rfl) ⟨_, hR7400⟩ _)
  · have hXe := hX.trans (bT_r hF7388)
    rcases hE7395 with rfl | rfl | rfl | rfl
    · have hX7401 := hXe.trans (if_pos rfl)
      refine ⟨fun pq hpq k7402 hk7402 => ?_, fun hno => absurd (r_kh200_3_10.symm.trans hno) (by simp)⟩
      have hpp : pq = 20 := by have := r_kh200_3_10.symm.trans hpq; simpa using this.symm
      subst hpp
      refine p_astore 21 c200_20 rfl rfl ?_
      refine p_iconst 22 c200_21 rfl ?_
      exact p_ireturn c200_22 (Hr _ _ hX7401 (rgD rfl) ⟨_, hR7396⟩ _)
    · have hX7403 := (hXe.trans (if_neg (by decide))).trans (if_pos rfl)
      refine ⟨fun pq hpq k7404 hk7404 => ?_, fun hno => absurd (r_kh200_3_11.symm.trans hno) (by simp)⟩
      have hpp : pq = 11 := by have := r_kh200_3_11.symm.trans hpq; simpa using this.symm
      subst hpp
      refine p_astore 12 c200_11 rfl rfl ?_
      refine p_iconst 13 c200_12 rfl ?_
      exact p_ireturn c200_13 (Hr _ _ hX7403 (rgD rfl) ⟨_, hR7396⟩ _)
    · have hX7405 := ((hXe.trans (if_neg (by decide))).trans (if_neg (by decide))).trans (if_pos rfl)
      refine ⟨fun pq hpq k7406 hk7406 => ?_, fun hno => absurd (r_kh200_3_12.symm.trans hno) (by simp)⟩
      have hpp : pq = 14 := by have := r_kh200_3_12.symm.trans hpq; simpa using this.symm
      subst hpp
      refine p_astore 15 c200_14 rfl rfl ?_
      refine p_iconst 16 c200_15 rfl ?_
      exact p_ireturn c200_16 (Hr _ _ hX7405 (rgD rfl) ⟨_, hR7396⟩ _)
    · have hX7407 := (((hXe.trans (if_neg (by decide))).trans (if_neg (by decide))).trans (if_neg (by decide))).trans (if_pos rfl)
      refine ⟨fun pq hpq k7408 hk7408 => ?_, fun hno => absurd (r_kh200_3_13.symm.trans hno) (by simp)⟩
      have hpp : pq = 17 := by have := r_kh200_3_13.symm.trans hpq; simpa using this.symm
      subst hpp
      refine p_astore 18 c200_17 rfl rfl ?_
      refine p_iconst 19 c200_18 rfl ?_
      exact p_ireturn c200_19 (Hr _ _ hX7407 (rgD rfl) ⟨_, hR7396⟩ _)
def B201_28 (f : Nat) (x2 : Int) (m : yM) : Option ((Int × yM) ⊕ ((Int × yM) ⊕ (Int × yM))) := (if x2 < 8 then (some (.inl ((wr (x2 + 1)), yup m 410 (wr ((wr (8 * (m 376 51))) + x2)).toNat 0))) else (some (.inr (.inl (x2, m)))))
set_option maxRecDepth 100000 in
theorem tB201_28 {L : Nat} {xs : Nat → Int32} {Q : xO → yM → Nat → Prop} {k d n : Nat} {c : yS3} {f : Nat} {x2 : Int} {m : yM} {j1 : Option Value} (hk : k ≤ f) (gx2 : rg x2) (hR : RM c m) (Hn : ∀ (y0 : Int) (z0 : Option Value) (m' : yM) (n' : Nat), B201_28 f x2 m = some (.inl (y0, m')) → rg y0 → RM c m' → ∀ k', k' < k → PW (gZ L xs) k' 201 d 28 [some (.ref 376), z0, some (yI y0)] [] m' n' Q) (He : ∀ (y0 : Int) (z0 : Option Value) (m' : yM) (n' : Nat), B201_28 f x2 m = some (.inr (.inl (y0, m'))) → rg y0 → RM c m' → ∀ k', k' ≤ k → PW (gZ L xs) k' 201 d 55 [some (.ref 376), z0, some (yI y0)] [] m' n' Q) (Hr : ∀ r m', B201_28 f x2 m = some (.inr (.inr (r, m'))) → rg r → RM c m' → ∀ n', Q (.inl (some (yI r))) m' n') : PW (gZ L xs) k 201 d 28 [some (.ref 376), j1, some (yI x2)] [] m n Q := by
  have hX : B201_28 f x2 m = B201_28 f x2 m := rfl
  refine p_iload 29 c201_28 rfl rfl ?_
  refine p_iconst 31 c201_29 rfl ?_
  refine p_icmp 55 34 c201_31 rfl rfl ((yc_ge gx2 (rgD rfl)).trans Int.not_lt.symm) (fun hb7462 k7463 hk7463 => ?_) (fun hb7462 k7464 hk7464 => ?_)
  · have hX7465 := hX.trans (if_neg hb7462)
    exact He _ _ _ _ hX7465 gx2 hR _ (by omega)
  · have hX7466 := hX.trans (if_pos (Classical.not_not.mp hb7462))
    refine p_aload 35 c201_34 rfl rfl ?_
    refine p_getR 38 c201_35 rfl kf376_50 ?_
    refine p_iconst 40 c201_38 rfl ?_
    refine p_aload 41 c201_40 rfl rfl ?_
    refine p_getX 44 (m 376 51) c201_41 rfl kf376_51 rfl ?_
    refine p_imul 45 c201_44 rfl ?_
    refine p_iload 46 c201_45 rfl rfl ?_
    refine p_iadd 47 c201_46 rfl ?_
    refine p_iconst 48 c201_47 rfl ?_
    refine p_iaS 49 c201_48 rfl ka410 (rg_wr _) 0 (nar0 (rgD rfl)) (fun hx7467 => ?_)
    have hR7468 := hR.up 410 (wr ((wr (8 * (m 376 51))) + x2)).toNat (v := 0) (nselA (by decide)) (rgD rfl)
    refine p_iinc 52 c201_49 rfl rfl rfl ?_
    refine p_gotoD 28 c201_52 rfl (fun k7469 hk7469 => ?_)
    exact Hn _ _ _ _ hX7466 (rg_wr _) hR7468 _ (by omega)
def F201 (f : Nat) (x1 : Int) (m : yM) : Option (Int × yM) := (if m 376 51 = 30 then (some (0, yup m 376 57 4)) else (bL (yloop (fun (l : Int) ml => B201_28 f l ml) f 0 (yup m 409 (m 376 51).toNat x1)) (fun l7470 m7476 => (some (wr ((m7476 376 51) + 1), yup m7476 376 51 (wr ((m7476 376 51) + 1))))) (fun r mr => some (r, mr))))
set_option maxRecDepth 100000 in
theorem d201 {L : Nat} {xs : Nat → Int32} {k d n : Nat} {c : yS3} {f : Nat} {x1 : Int} {m : yM} (hk : k ≤ f) (gx1 : rg x1) (hR : RM c m) : PC (gZ L xs) k d 201 [.ref 376, yI x1] m n (qS c (F201 f x1 m)) := by
  have hX : F201 f x1 m = F201 f x1 m := rfl
  have Hr : ∀ r m', F201 f x1 m = some (r, m') → rg r → RM c m' → ∀ n' : Nat, (qS c (F201 f x1 m)) (.inl (some (yI r))) m' n' := fun r m' e h1 h2 n' => ⟨r, rfl, h1, h2, e⟩
  refine PC.mk [some (.ref 376), some (yI x1), none] kn201 rfl ?_
  refine p_aload 1 c201_0 rfl rfl ?_
  refine p_getX 4 (m 376 51) c201_1 rfl kf376_51 rfl ?_
  refine p_iconst 6 c201_4 rfl ?_
  refine p_icmp 16 9 c201_6 rfl rfl (yc_ne (hR.rg _ _) (rgD rfl)) (fun hb7456 k7457 hk7457 => ?_) (fun hb7456 k7458 hk7458 => ?_)
  · have hX7459 := hX.trans (if_neg hb7456)
    refine p_aload 17 c201_16 rfl rfl ?_
    refine p_getR 20 c201_17 rfl kf376_49 ?_
    refine p_aload 21 c201_20 rfl rfl ?_
    refine p_getX 24 (m 376 51) c201_21 rfl kf376_51 rfl ?_
    refine p_iload 25 c201_24 rfl rfl ?_
    refine p_iaS 26 c201_25 rfl ka409 (hR.rg _ _) x1 (nar0 gx1) (fun hx7460 => ?_)
    have hR7461 := hR.up 409 (m 376 51).toNat (v := x1) (nselA (by decide)) gx1
    refine p_iconst 27 c201_26 rfl ?_
    refine p_istore 28 c201_27 rfl rfl ?_
    refine PW.loop (K := k7457) (pce := 55) (fun (l : Int) ml => B201_28 f l ml) (fun (l : Int) j => [some (.ref 376), j 1, some (yI l)]) (fun (l : Int) => rg l) (RM c) (fun r' m' => rg r' → RM c m' → ∀ n' : Nat, (qS c (F201 f x1 m)) (.inl (some (yI r'))) m' n') (fun k' hk' l j m' n' hl hI Hn' He' Hr' => tB201_28 (f := f) (by omega) hl hI (fun y0 y1 m2 n2 e h0 hR2 => Hn' y0 (fun q => ([none, y1, none] : List (Option Value)).getD q none) m2 n2 e h0 hR2) (fun y0 y1 m2 n2 e h0 hR2 => He' y0 (fun q => ([none, y1, none] : List (Option Value)).getD q none) m2 n2 e h0 hR2) Hr') f k7457 (by omega) (Nat.le_refl _) 0 (fun q => ([some (.ref 376), some (yI x1), some (yI 0)] : xL).getD q none) _ _ (rgD rfl) hR7461 (fun l7470 j7473 m7476 n7475 e7472 hl7471 hR7477 k7474 hk7474 => ?_) (fun r' m' e' => ?_)
    · have hX7478 := hX7459.trans (bL_l e7472)
      refine p_aload 56 c201_55 rfl rfl ?_
      refine p_dup 57 c201_56 rfl rfl ?_
      refine p_getX 60 (m7476 376 51) c201_57 rfl kf376_51 rfl ?_
      refine p_iconst 61 c201_60 rfl ?_
      refine p_iadd 62 c201_61 rfl ?_
      refine p_putI 65 c201_62 rfl kf376_51 ?_
      have hR7479 := hR7477.up 376 51 (v := wr ((m7476 376 51) + 1)) (nselD rfl) (rg_wr _)
      refine p_aload 66 c201_65 rfl rfl ?_
      refine p_getX 69 (wr ((m7476 376 51) + 1)) c201_66 rfl kf376_51 (yup_eq _ _ _ _) ?_
      exact p_ireturn c201_69 (Hr _ _ hX7478 (rg_wr _) hR7479 _)
    · exact Hr r' m' (hX7459.trans (bL_r e'))
  · have hX7480 := hX.trans (if_pos (Classical.not_not.mp hb7456))
    refine p_aload 10 c201_9 rfl rfl ?_
    refine p_iconst 11 c201_10 rfl ?_
    refine p_putI 14 c201_11 rfl kf376_57 ?_
    have hR7481 := hR.up 376 57 (v := 4) (nselD rfl) (rgD rfl)
    refine p_iconst 15 c201_14 rfl ?_
    exact p_ireturn c201_15 (Hr _ _ hX7480 (rgD rfl) hR7481 _)
def F202 (f : Nat) (x1 : Int) (x2 : Int) (m : yM) : Option yM := (if 0 < x2 then (some (yup (yup m 411 (wr ((wr (48 * (wr ((m 376 54) - 1)))) + x1)).toNat x2) 408 (wr ((wr (12 * x1)) + (m 409 (wr (x2 - 1)).toNat))).toNat 1)) else (some (yup m 411 (wr ((wr (48 * (wr ((m 376 54) - 1)))) + x1)).toNat x2)))
set_option maxRecDepth 100000 in
theorem d202 {L : Nat} {xs : Nat → Int32} {k d n : Nat} {c : yS3} {f : Nat} {x1 : Int} {x2 : Int} {m : yM} (hk : k ≤ f) (gx1 : rg x1) (gx2 : rg x2) (hR : RM c m) : PC (gZ L xs) k d 202 [.ref 376, yI x1, yI x2] m n (qV c (F202 f x1 x2 m)) := by
  have hX : F202 f x1 x2 m = F202 f x1 x2 m := rfl
  have Hr : ∀ m', F202 f x1 x2 m = some m' → RM c m' → ∀ n' : Nat, (qV c (F202 f x1 x2 m)) (.inl none) m' n' := fun m' e h n' => ⟨rfl, h, e⟩
  refine PC.mk [some (.ref 376), some (yI x1), some (yI x2)] kn202 rfl ?_
  refine p_aload 1 c202_0 rfl rfl ?_
  refine p_getR 4 c202_1 rfl kf376_52 ?_
  refine p_iconst 6 c202_4 rfl ?_
  refine p_aload 7 c202_6 rfl rfl ?_
  refine p_getX 10 (m 376 54) c202_7 rfl kf376_54 rfl ?_
  refine p_iconst 11 c202_10 rfl ?_
  refine p_isub 12 c202_11 rfl ?_
  refine p_imul 13 c202_12 rfl ?_
  refine p_iload 14 c202_13 rfl rfl ?_
  refine p_iadd 15 c202_14 rfl ?_
  refine p_iload 16 c202_15 rfl rfl ?_
  refine p_iaS 17 c202_16 rfl ka411 (rg_wr _) x2 (nar0 gx2) (fun hx7523 => ?_)
  have hR7524 := hR.up 411 (wr ((wr (48 * (wr ((m 376 54) - 1)))) + x1)).toNat (v := x2) (nselA (by decide)) gx2
  refine p_iload 18 c202_17 rfl rfl ?_
  refine p_if 40 21 c202_18 rfl rfl ((yz_le gx2).trans Int.not_lt.symm) (fun hb7525 k7526 hk7526 => ?_) (fun hb7525 k7527 hk7527 => ?_)
  · have hX7528 := hX.trans (if_neg hb7525)
    exact p_return c202_40 (Hr _ hX7528 hR7524 _)
  · have hX7529 := hX.trans (if_pos (Classical.not_not.mp hb7525))
    refine p_aload 22 c202_21 rfl rfl ?_
    refine p_getR 25 c202_22 rfl kf376_48 ?_
    refine p_iconst 27 c202_25 rfl ?_
    refine p_iload 28 c202_27 rfl rfl ?_
    refine p_imul 29 c202_28 rfl ?_
    refine p_aload 30 c202_29 rfl rfl ?_
    refine p_getR 33 c202_30 rfl kf376_49 ?_
    refine p_iload 34 c202_33 rfl rfl ?_
    refine p_iconst 35 c202_34 rfl ?_
    refine p_isub 36 c202_35 rfl ?_
    refine p_iaX 37 (m 409 (wr (x2 - 1)).toNat) c202_36 rfl ka409 (rg_wr _) (yup_na (by decide)) (fun hx7530 => ?_)
    refine p_iadd 38 c202_37 rfl ?_
    refine p_iconst 39 c202_38 rfl ?_
    refine p_iaS 40 c202_39 rfl ka408 (rg_wr _) 1 rfl (fun hx7531 => ?_)
    have hR7532 := hR7524.up 408 (wr ((wr (12 * x1)) + (m 409 (wr (x2 - 1)).toNat))).toNat (v := 1) (nselA (by decide)) (rgD rfl)
    exact p_return c202_40 (Hr _ hX7529 hR7532 _)
def B203_38 (f : Nat) (x1 : Int) (x2 : Int) (x3 : Int) (x4 : Int) (x6 : Int) (m : yM) : Option ((Int × yM) ⊕ ((Int × yM) ⊕ (Unit × yM))) := (if x6 < 48 then (some (.inl ((wr (x6 + 1)), yup m 411 (wr ((wr (48 * (wr ((m 376 54) - 1)))) + x6)).toNat 0))) else (some (.inr (.inl (x6, m)))))
set_option maxRecDepth 100000 in
theorem tB203_38 {L : Nat} {xs : Nat → Int32} {Q : xO → yM → Nat → Prop} {k d n : Nat} {c : yS3} {f : Nat} {x1 : Int} {x2 : Int} {x3 : Int} {x4 : Int} {x6 : Int} {m : yM} {j5 : Option Value} (hk : k ≤ f) (gx1 : rg x1) (gx2 : rg x2) (gx3 : rg x3) (gx4 : rg x4) (gx6 : rg x6) (hR : RM c m) (Hn : ∀ (y0 : Int) (z0 : Option Value) (m' : yM) (n' : Nat), B203_38 f x1 x2 x3 x4 x6 m = some (.inl (y0, m')) → rg y0 → RM c m' → ∀ k', k' < k → PW (gZ L xs) k' 203 d 38 [some (.ref 376), some (yI x1), some (yI x2), some (yI x3), some (yI x4), z0, some (yI y0)] [] m' n' Q) (He : ∀ (y0 : Int) (z0 : Option Value) (m' : yM) (n' : Nat), B203_38 f x1 x2 x3 x4 x6 m = some (.inr (.inl (y0, m'))) → rg y0 → RM c m' → ∀ k', k' ≤ k → PW (gZ L xs) k' 203 d 69 [some (.ref 376), some (yI x1), some (yI x2), some (yI x3), some (yI x4), z0, some (yI y0)] [] m' n' Q) (Hr : ∀ m', B203_38 f x1 x2 x3 x4 x6 m = some (.inr (.inr ((), m'))) → RM c m' → ∀ n', Q (.inl none) m' n') : PW (gZ L xs) k 203 d 38 [some (.ref 376), some (yI x1), some (yI x2), some (yI x3), some (yI x4), j5, some (yI x6)] [] m n Q := by
  have hX : B203_38 f x1 x2 x3 x4 x6 m = B203_38 f x1 x2 x3 x4 x6 m := rfl
  refine p_iload 40 c203_38 rfl rfl ?_
  refine p_iconst 42 c203_40 rfl ?_
  refine p_icmp 69 45 c203_42 rfl rfl ((yc_ge gx6 (rgD rfl)).trans Int.not_lt.symm) (fun hb7503 k7504 hk7504 => ?_) (fun hb7503 k7505 hk7505 => ?_)
  · have hX7506 := hX.trans (if_neg hb7503)
    exact He _ _ _ _ hX7506 gx6 hR _ (by omega)
  · have hX7507 := hX.trans (if_pos (Classical.not_not.mp hb7503))
    refine p_aload 46 c203_45 rfl rfl ?_
    refine p_getR 49 c203_46 rfl kf376_52 ?_
    refine p_iconst 51 c203_49 rfl ?_
    refine p_aload 52 c203_51 rfl rfl ?_
    refine p_getX 55 (m 376 54) c203_52 rfl kf376_54 rfl ?_
    refine p_iconst 56 c203_55 rfl ?_
    refine p_isub 57 c203_56 rfl ?_
    refine p_imul 58 c203_57 rfl ?_
    refine p_iload 60 c203_58 rfl rfl ?_
    refine p_iadd 61 c203_60 rfl ?_
    refine p_iconst 62 c203_61 rfl ?_
    refine p_iaS 63 c203_62 rfl ka411 (rg_wr _) 0 (nar0 (rgD rfl)) (fun hx7508 => ?_)
    have hR7509 := hR.up 411 (wr ((wr (48 * (wr ((m 376 54) - 1)))) + x6)).toNat (v := 0) (nselA (by decide)) (rgD rfl)
    refine p_iinc 66 c203_63 rfl rfl rfl ?_
    refine p_gotoD 38 c203_66 rfl (fun k7510 hk7510 => ?_)
    exact Hn _ _ _ _ hX7507 (rg_wr _) hR7509 _ (by omega)
def J203_148 (f : Nat) (x1 : Int) (m : yM) : Option yM := (some (yup m 376 55 (m 399 (wr ((wr (10 * (m 376 18))) + x1)).toNat)))
set_option maxRecDepth 100000 in
theorem tJ203_148 {L : Nat} {xs : Nat → Int32} {Q : xO → yM → Nat → Prop} {k d n : Nat} {c : yS3} {f : Nat} {x1 : Int} {m : yM} {j2 j3 j4 j5 j6 : Option Value} (hk : k ≤ f) (gx1 : rg x1) (hR : RM c m) (Hr : ∀ m', J203_148 f x1 m = some m' → RM c m' → ∀ n', Q (.inl none) m' n') : PW (gZ L xs) k 203 d 148 [some (.ref 376), some (yI x1), j2, j3, j4, j5, j6] [] m n Q := by
  have hX : J203_148 f x1 m = J203_148 f x1 m := rfl
  refine p_aload 149 c203_148 rfl rfl ?_
  refine p_aload 150 c203_149 rfl rfl ?_
  refine p_getR 153 c203_150 rfl kf376_36 ?_
  refine p_iconst 155 c203_153 rfl ?_
  refine p_aload 156 c203_155 rfl rfl ?_
  refine p_getX 159 (m 376 18) c203_156 rfl kf376_18 rfl ?_
  refine p_imul 160 c203_159 rfl ?_
  refine p_iload 161 c203_160 rfl rfl ?_
  refine p_iadd 162 c203_161 rfl ?_
  refine p_iaX 163 (m 399 (wr ((wr (10 * (m 376 18))) + x1)).toNat) c203_162 rfl ka399 (rg_wr _) rfl (fun hx7549 => ?_)
  refine p_putI 166 c203_163 rfl kf376_55 ?_
  have hR7550 := hR.up 376 55 (v := m 399 (wr ((wr (10 * (m 376 18))) + x1)).toNat) (nselD rfl) (hR.rg _ _)
  exact p_return c203_166 (Hr _ hX hR7550 _)
def J203_120 (f : Nat) (x1 : Int) (x4 : Int) (x6 : Int) (m : yM) : Option yM := (if 1 < m 397 (wr ((wr (10 * (m 376 18))) + x1)).toNat then (bU (F202 f (wr (x6 + 3)) x4 m) (fun m7558 => (J203_148 f x1 m7558))) else (J203_148 f x1 m))
set_option maxRecDepth 100000 in
theorem tJ203_120 {L : Nat} {xs : Nat → Int32} {Q : xO → yM → Nat → Prop} {k d n : Nat} {c : yS3} {f : Nat} {x1 : Int} {x4 : Int} {x6 : Int} {m : yM} {j2 j3 j5 : Option Value} (hk : k ≤ f) (gx1 : rg x1) (gx4 : rg x4) (gx6 : rg x6) (hR : RM c m) (Hr : ∀ m', J203_120 f x1 x4 x6 m = some m' → RM c m' → ∀ n', Q (.inl none) m' n') : PW (gZ L xs) k 203 d 120 [some (.ref 376), some (yI x1), j2, j3, some (yI x4), j5, some (yI x6)] [] m n Q := by
  have hX : J203_120 f x1 x4 x6 m = J203_120 f x1 x4 x6 m := rfl
  refine p_aload 121 c203_120 rfl rfl ?_
  refine p_getR 124 c203_121 rfl kf376_34 ?_
  refine p_iconst 126 c203_124 rfl ?_
  refine p_aload 127 c203_126 rfl rfl ?_
  refine p_getX 130 (m 376 18) c203_127 rfl kf376_18 rfl ?_
  refine p_imul 131 c203_130 rfl ?_
  refine p_iload 132 c203_131 rfl rfl ?_
  refine p_iadd 133 c203_132 rfl ?_
  refine p_iaX 134 (m 397 (wr ((wr (10 * (m 376 18))) + x1)).toNat) c203_133 rfl ka397 (rg_wr _) rfl (fun hx7544 => ?_)
  refine p_iconst 135 c203_134 rfl ?_
  refine p_icmp 148 138 c203_135 rfl rfl ((yc_le (hR.rg _ _) (rgD rfl)).trans Int.not_lt.symm) (fun hb7545 k7546 hk7546 => ?_) (fun hb7545 k7547 hk7547 => ?_)
  · have hX7548 := hX.trans (if_neg hb7545)
    exact tJ203_148 (f := f) (by omega) gx1 hR (fun m' e' => Hr m' (hX7548.trans e'))
  · have hX7551 := hX.trans (if_pos (Classical.not_not.mp hb7545))
    refine p_aload 139 c203_138 rfl rfl ?_
    refine p_iload 141 c203_139 rfl rfl ?_
    refine p_iconst 142 c203_141 rfl ?_
    refine p_iadd 143 c203_142 rfl ?_
    refine p_iload 145 c203_143 rfl rfl ?_
    refine p_cV 148 [.ref 376, yI (wr (x6 + 3)), yI x4] [] c203_145 rfl rfl rfl (fun k' hk' d' => d202 (f := f) (by omega) (rg_wr _) gx4 hR) (fun m7558 hF7554 hR7559 n7553 k7552 hk7552 => ?_)
    have hX7557 := hX7551.trans (bU_s hF7554)
    exact tJ203_148 (f := f) (by omega) gx1 hR7559 (fun m' e' => Hr m' (hX7557.trans e'))
def F203 (f : Nat) (x1 : Int) (x2 : Int) (x3 : Int) (x4 : Int) (x5 : Int) (m : yM) : Option yM := (if m 376 54 = 4 then (some (yup m 376 57 4)) else (bL (yloop (fun (l : Int) ml => B203_38 f x1 x2 x3 x4 l ml) f 0 (yup (yup m 412 (m 376 54).toNat x5) 376 54 (wr ((m 376 54) + 1)))) (fun l7511 m7517 => (bU (F202 f (wr ((m7517 398 (wr ((wr (10 * (m7517 376 18))) + x1)).toNat) + 1)) x2 m7517) (fun m7537 => (if 0 < m7537 397 (wr ((wr (10 * (m7537 376 18))) + x1)).toNat then (bU (F202 f (wr ((m7517 398 (wr ((wr (10 * (m7517 376 18))) + x1)).toNat) + 2)) x3 m7537) (fun m7567 => (J203_120 f x1 x4 (m7517 398 (wr ((wr (10 * (m7517 376 18))) + x1)).toNat) m7567))) else (J203_120 f x1 x4 (m7517 398 (wr ((wr (10 * (m7517 376 18))) + x1)).toNat) m7537))))) (fun _ mr => some mr)))
set_option maxRecDepth 100000 in
theorem d203 {L : Nat} {xs : Nat → Int32} {k d n : Nat} {c : yS3} {f : Nat} {x1 : Int} {x2 : Int} {x3 : Int} {x4 : Int} {x5 : Int} {m : yM} (hk : k ≤ f) (gx1 : rg x1) (gx2 : rg x2) (gx3 : rg x3) (gx4 : rg x4) (gx5 : rg x5) (hR : RM c m) : PC (gZ L xs) k d 203 [.ref 376, yI x1, yI x2, yI x3, yI x4, yI x5] m n (qV c (F203 f x1 x2 x3 x4 x5 m)) := by
  have hX : F203 f x1 x2 x3 x4 x5 m = F203 f x1 x2 x3 x4 x5 m := rfl
  have Hr : ∀ m', F203 f x1 x2 x3 x4 x5 m = some m' → RM c m' → ∀ n' : Nat, (qV c (F203 f x1 x2 x3 x4 x5 m)) (.inl none) m' n' := fun m' e h n' => ⟨rfl, h, e⟩
  refine PC.mk [some (.ref 376), some (yI x1), some (yI x2), some (yI x3), some (yI x4), some (yI x5), none] kn203 rfl ?_
  refine p_aload 1 c203_0 rfl rfl ?_
  refine p_getX 4 (m 376 54) c203_1 rfl kf376_54 rfl ?_
  refine p_iconst 5 c203_4 rfl ?_
  refine p_icmp 14 8 c203_5 rfl rfl (yc_ne (hR.rg _ _) (rgD rfl)) (fun hb7496 k7497 hk7497 => ?_) (fun hb7496 k7498 hk7498 => ?_)
  · have hX7499 := hX.trans (if_neg hb7496)
    refine p_aload 15 c203_14 rfl rfl ?_
    refine p_getR 18 c203_15 rfl kf376_53 ?_
    refine p_aload 19 c203_18 rfl rfl ?_
    refine p_getX 22 (m 376 54) c203_19 rfl kf376_54 rfl ?_
    refine p_iload 24 c203_22 rfl rfl ?_
    refine p_iaS 25 c203_24 rfl ka412 (hR.rg _ _) x5 (nar0 gx5) (fun hx7500 => ?_)
    have hR7501 := hR.up 412 (m 376 54).toNat (v := x5) (nselA (by decide)) gx5
    refine p_aload 26 c203_25 rfl rfl ?_
    refine p_dup 27 c203_26 rfl rfl ?_
    refine p_getX 30 (m 376 54) c203_27 rfl kf376_54 (yup_na (by decide)) ?_
    refine p_iconst 31 c203_30 rfl ?_
    refine p_iadd 32 c203_31 rfl ?_
    refine p_putI 35 c203_32 rfl kf376_54 ?_
    have hR7502 := hR7501.up 376 54 (v := wr ((m 376 54) + 1)) (nselD rfl) (rg_wr _)
    refine p_iconst 36 c203_35 rfl ?_
    refine p_istore 38 c203_36 rfl rfl ?_
    refine PW.loop (K := k7497) (pce := 69) (fun (l : Int) ml => B203_38 f x1 x2 x3 x4 l ml) (fun (l : Int) j => [some (.ref 376), some (yI x1), some (yI x2), some (yI x3), some (yI x4), j 5, some (yI l)]) (fun (l : Int) => rg l) (RM c) (fun (r' : Unit) m' => RM c m' → ∀ n' : Nat, (qV c (F203 f x1 x2 x3 x4 x5 m)) (.inl none) m' n') (fun k' hk' l j m' n' hl hI Hn' He' Hr' => tB203_38 (f := f) (by omega) gx1 gx2 gx3 gx4 hl hI (fun y0 y1 m2 n2 e h0 hR2 => Hn' y0 (fun q => ([none, none, none, none, none, y1, none] : List (Option Value)).getD q none) m2 n2 e h0 hR2) (fun y0 y1 m2 n2 e h0 hR2 => He' y0 (fun q => ([none, none, none, none, none, y1, none] : List (Option Value)).getD q none) m2 n2 e h0 hR2) (fun m2 e => Hr' () m2 e)) f k7497 (by omega) (Nat.le_refl _) 0 (fun q => ([some (.ref 376), some (yI x1), some (yI x2), some (yI x3), some (yI x4), some (yI x5), some (yI 0)] : xL).getD q none) _ _ (rgD rfl) hR7502 (fun l7511 j7514 m7517 n7516 e7513 hl7512 hR7518 k7515 hk7515 => ?_) (fun r' m' e' => ?_)
    · have hX7519 := hX7499.trans (bL_l e7513)
      refine p_aload 70 c203_69 rfl rfl ?_
      refine p_getR 73 c203_70 rfl kf376_35 ?_
      refine p_iconst 75 c203_73 rfl ?_
      refine p_aload 76 c203_75 rfl rfl ?_
      refine p_getX 79 (m7517 376 18) c203_76 rfl kf376_18 rfl ?_
      refine p_imul 80 c203_79 rfl ?_
      refine p_iload 81 c203_80 rfl rfl ?_
      refine p_iadd 82 c203_81 rfl ?_
      refine p_iaX 83 (m7517 398 (wr ((wr (10 * (m7517 376 18))) + x1)).toNat) c203_82 rfl ka398 (rg_wr _) rfl (fun hx7520 => ?_)
      refine p_istore 85 c203_83 rfl rfl ?_
      refine p_aload 86 c203_85 rfl rfl ?_
      refine p_iload 88 c203_86 rfl rfl ?_
      refine p_iconst 89 c203_88 rfl ?_
      refine p_iadd 90 c203_89 rfl ?_
      refine p_iload 91 c203_90 rfl rfl ?_
      refine p_cV 94 [.ref 376, yI (wr ((m7517 398 (wr ((wr (10 * (m7517 376 18))) + x1)).toNat) + 1)), yI x2] [] c203_91 rfl rfl rfl (fun k' hk' d' => d202 (f := f) (by omega) (rg_wr _) gx2 hR7518) (fun m7537 hF7533 hR7538 n7522 k7521 hk7521 => ?_)
      have hX7536 := hX7519.trans (bU_s hF7533)
      refine p_aload 95 c203_94 rfl rfl ?_
      refine p_getR 98 c203_95 rfl kf376_34 ?_
      refine p_iconst 100 c203_98 rfl ?_
      refine p_aload 101 c203_100 rfl rfl ?_
      refine p_getX 104 (m7537 376 18) c203_101 rfl kf376_18 rfl ?_
      refine p_imul 105 c203_104 rfl ?_
      refine p_iload 106 c203_105 rfl rfl ?_
      refine p_iadd 107 c203_106 rfl ?_
      refine p_iaX 108 (m7537 397 (wr ((wr (10 * (m7537 376 18))) + x1)).toNat) c203_107 rfl ka397 (rg_wr _) rfl (fun hx7539 => ?_)
      refine p_if 120 111 c203_108 rfl rfl ((yz_le (hR7538.rg _ _)).trans Int.not_lt.symm) (fun hb7540 k7541 hk7541 => ?_) (fun hb7540 k7542 hk7542 => ?_)
      · have hX7543 := hX7536.trans (if_neg hb7540)
        exact tJ203_120 (f := f) (by omega) gx1 gx4 (hR7518.rg _ _) hR7538 (fun m' e' => Hr m' (hX7543.trans e'))
      · have hX7560 := hX7536.trans (if_pos (Classical.not_not.mp hb7540))
        refine p_aload 112 c203_111 rfl rfl ?_
        refine p_iload 114 c203_112 rfl rfl ?_
        refine p_iconst 115 c203_114 rfl ?_
        refine p_iadd 116 c203_115 rfl ?_
        refine p_iload 117 c203_116 rfl rfl ?_
        refine p_cV 120 [.ref 376, yI (wr ((m7517 398 (wr ((wr (10 * (m7517 376 18))) + x1)).toNat) + 2)), yI x3] [] c203_117 rfl rfl rfl (fun k' hk' d' => d202 (f := f) (by omega) (rg_wr _) gx3 hR7538) (fun m7567 hF7563 hR7568 n7562 k7561 hk7561 => ?_)
        have hX7566 := hX7560.trans (bU_s hF7563)
        exact tJ203_120 (f := f) (by omega) gx1 gx4 (hR7518.rg _ _) hR7568 (fun m' e' => Hr m' (hX7566.trans e'))
    · exact Hr m' (hX7499.trans (bL_r e'))
  · have hX7569 := hX.trans (if_pos (Classical.not_not.mp hb7496))
    refine p_aload 9 c203_8 rfl rfl ?_
    refine p_iconst 10 c203_9 rfl ?_
    refine p_putI 13 c203_10 rfl kf376_57 ?_
    have hR7570 := hR.up 376 57 (v := 4) (nselD rfl) (rgD rfl)
    exact p_return c203_13 (Hr _ hX7569 hR7570 _)
def F205 (x1 : Int) (m : yM) : Int := (m 411 (wr ((wr (48 * (wr ((m 376 54) - 1)))) + x1)).toNat)
set_option maxRecDepth 100000 in
theorem d205 {L : Nat} {xs : Nat → Int32} {k d n : Nat} {c : yS3} {x1 : Int} {m : yM} (gx1 : rg x1) (hR : RM c m) : PC (gZ L xs) k d 205 [.ref 376, yI x1] m n (qX m (F205 x1 m)) := by
  have hX : F205 x1 m = F205 x1 m := rfl
  have Hr : ∀ r, F205 x1 m = r → rg r → ∀ n' : Nat, (qX m (F205 x1 m)) (.inl (some (yI r))) m n' := fun r e h n' => by subst e; exact ⟨rfl, h, rfl⟩
  refine PC.mk [some (.ref 376), some (yI x1)] kn205 rfl ?_
  refine p_aload 1 c205_0 rfl rfl ?_
  refine p_getR 4 c205_1 rfl kf376_52 ?_
  refine p_iconst 6 c205_4 rfl ?_
  refine p_aload 7 c205_6 rfl rfl ?_
  refine p_getX 10 (m 376 54) c205_7 rfl kf376_54 rfl ?_
  refine p_iconst 11 c205_10 rfl ?_
  refine p_isub 12 c205_11 rfl ?_
  refine p_imul 13 c205_12 rfl ?_
  refine p_iload 14 c205_13 rfl rfl ?_
  refine p_iadd 15 c205_14 rfl ?_
  refine p_iaX 16 (m 411 (wr ((wr (48 * (wr ((m 376 54) - 1)))) + x1)).toNat) c205_15 rfl ka411 (rg_wr _) rfl (fun hx7617 => ?_)
  exact p_ireturn c205_16 (Hr _ hX (hR.rg _ _) _)
def F206 (x1 : Int) (m : yM) : Int := (m 400 (wr ((wr (12 * (m 376 18))) + (m 409 (wr (x1 - 1)).toNat))).toNat)
set_option maxRecDepth 100000 in
theorem d206 {L : Nat} {xs : Nat → Int32} {k d n : Nat} {c : yS3} {x1 : Int} {m : yM} (gx1 : rg x1) (hR : RM c m) : PC (gZ L xs) k d 206 [.ref 376, yI x1] m n (qX m (F206 x1 m)) := by
  have hX : F206 x1 m = F206 x1 m := rfl
  have Hr : ∀ r, F206 x1 m = r → rg r → ∀ n' : Nat, (qX m (F206 x1 m)) (.inl (some (yI r))) m n' := fun r e h n' => by subst e; exact ⟨rfl, h, rfl⟩
  refine PC.mk [some (.ref 376), some (yI x1)] kn206 rfl ?_
  refine p_aload 1 c206_0 rfl rfl ?_
  refine p_getR 4 c206_1 rfl kf376_37 ?_
  refine p_iconst 6 c206_4 rfl ?_
  refine p_aload 7 c206_6 rfl rfl ?_
  refine p_getX 10 (m 376 18) c206_7 rfl kf376_18 rfl ?_
  refine p_imul 11 c206_10 rfl ?_
  refine p_aload 12 c206_11 rfl rfl ?_
  refine p_getR 15 c206_12 rfl kf376_49 ?_
  refine p_iload 16 c206_15 rfl rfl ?_
  refine p_iconst 17 c206_16 rfl ?_
  refine p_isub 18 c206_17 rfl ?_
  refine p_iaX 19 (m 409 (wr (x1 - 1)).toNat) c206_18 rfl ka409 (rg_wr _) rfl (fun hx7685 => ?_)
  refine p_iadd 20 c206_19 rfl ?_
  refine p_iaX 21 (m 400 (wr ((wr (12 * (m 376 18))) + (m 409 (wr (x1 - 1)).toNat))).toNat) c206_20 rfl ka400 (rg_wr _) rfl (fun hx7686 => ?_)
  exact p_ireturn c206_21 (Hr _ hX (hR.rg _ _) _)
def J208_54 (f : Nat) (x1 : Int) (x2 : Int) (x3 : Int) (xs1 : Int) (m : yM) : Option yM := (bI (F23 f xs1 1 m) (fun r7674 m7676 => (if r7674 = 0 then (some m7676) else (bP (F121 f (m7676 376 18) (F206 x3 m7676) (m7676 403 (wr (x1 + 4)).toNat) m7676) (fun r7693 => (bI (F23 f r7693 3 m7676) (fun r7699 m7701 => (if r7699 = 0 then (some m7701) else (if x2 = 0 then (some (yup m7701 410 (wr ((wr (8 * (wr (x3 - 1)))) + (m7701 403 (wr (x1 + 4)).toNat))).toNat (F205 (m7701 403 (wr (x1 + 3)).toNat) m7701))) else (bU (F202 f (m7701 403 (wr (x1 + 2)).toNat) (m7701 410 (wr ((wr (8 * (wr (x3 - 1)))) + (m7701 403 (wr (x1 + 4)).toNat))).toNat) m7701) (fun m7727 => (some m7727))))))))))))
set_option maxRecDepth 100000 in
theorem tJ208_54 {L : Nat} {xs : Nat → Int32} {Q : xO → yM → Nat → Prop} {k d n : Nat} {c : yS3} {f : Nat} {x1 : Int} {x2 : Int} {x3 : Int} {xs1 : Int} {m : yM} {j4 : Option Value} (hk : k ≤ f) (gx1 : rg x1) (gx2 : rg x2) (gx3 : rg x3) (gxs1 : rg xs1) (hR : RM c m) (Hr : ∀ m', J208_54 f x1 x2 x3 xs1 m = some m' → RM c m' → ∀ n', Q (.inl none) m' n') : PW (gZ L xs) k 208 d 54 [some (.ref 376), some (yI x1), some (yI x2), some (yI x3), j4] [yI xs1, .ref 376] m n Q := by
  have hX : J208_54 f x1 x2 x3 xs1 m = J208_54 f x1 x2 x3 xs1 m := rfl
  refine p_iconst 55 c208_54 rfl ?_
  refine p_cS 58 [.ref 376, yI xs1, yI 1] [] c208_55 rfl rfl rfl (fun k' hk' d' => d23 (f := f) (by omega) gxs1 (rgD rfl) hR) (fun r7674 m7676 hF7672 hg7673 hR7677 n7671 k7670 hk7670 => ?_)
  have hX7675 := hX.trans (bI_s hF7672)
  refine p_if 90 61 c208_58 rfl rfl (yz_eq hg7673) (fun hb7678 k7679 hk7679 => ?_) (fun hb7678 k7680 hk7680 => ?_)
  · have hX7681 := hX7675.trans (if_pos hb7678)
    exact p_return c208_90 (Hr _ hX7681 hR7677 _)
  · have hX7682 := hX7675.trans (if_neg hb7678)
    refine p_aload 62 c208_61 rfl rfl ?_
    refine p_aload 63 c208_62 rfl rfl ?_
    refine p_aload 64 c208_63 rfl rfl ?_
    refine p_getX 67 (m7676 376 18) c208_64 rfl kf376_18 rfl ?_
    refine p_aload 68 c208_67 rfl rfl ?_
    refine p_iload 69 c208_68 rfl rfl ?_
    refine p_cX 72 [.ref 376, yI x3] [yI (m7676 376 18), .ref 376, .ref 376] c208_69 rfl rfl rfl (fun k' hk' d' => d206 gx3 hR7677) (fun hg7687 n7684 k7683 hk7683 => ?_)
    refine p_aload 73 c208_72 rfl rfl ?_
    refine p_getR 76 c208_73 rfl kf376_40 ?_
    refine p_iload 77 c208_76 rfl rfl ?_
    refine p_iconst 78 c208_77 rfl ?_
    refine p_iadd 79 c208_78 rfl ?_
    refine p_iaX 80 (m7676 403 (wr (x1 + 4)).toNat) c208_79 rfl ka403 (rg_wr _) rfl (fun hx7688 => ?_)
    refine p_cO 83 [.ref 376, yI (m7676 376 18), yI (F206 x3 m7676), yI (m7676 403 (wr (x1 + 4)).toNat)] [.ref 376] c208_80 rfl rfl rfl (fun k' hk' d' => d121 (f := f) (by omega) (hR7677.rg _ _) hg7687 (hR7677.rg _ _) hR7677) (fun r7693 hF7691 hg7692 n7690 k7689 hk7689 => ?_)
    have hX7694 := hX7682.trans (bP_s hF7691)
    refine p_iconst 84 c208_83 rfl ?_
    refine p_cS 87 [.ref 376, yI r7693, yI 3] [] c208_84 rfl rfl rfl (fun k' hk' d' => d23 (f := f) (by omega) hg7692 (rgD rfl) hR7677) (fun r7699 m7701 hF7697 hg7698 hR7702 n7696 k7695 hk7695 => ?_)
    have hX7700 := hX7694.trans (bI_s hF7697)
    refine p_if 91 90 c208_87 rfl rfl (yz_ne hg7698) (fun hb7703 k7704 hk7704 => ?_) (fun hb7703 k7705 hk7705 => ?_)
    · have hX7706 := hX7700.trans (if_neg hb7703)
      refine p_iconst 93 c208_91 rfl ?_
      refine p_iload 94 c208_93 rfl rfl ?_
      refine p_iconst 95 c208_94 rfl ?_
      refine p_isub 96 c208_95 rfl ?_
      refine p_imul 97 c208_96 rfl ?_
      refine p_aload 98 c208_97 rfl rfl ?_
      refine p_getR 101 c208_98 rfl kf376_40 ?_
      refine p_iload 102 c208_101 rfl rfl ?_
      refine p_iconst 103 c208_102 rfl ?_
      refine p_iadd 104 c208_103 rfl ?_
      refine p_iaX 105 (m7701 403 (wr (x1 + 4)).toNat) c208_104 rfl ka403 (rg_wr _) rfl (fun hx7707 => ?_)
      refine p_iadd 106 c208_105 rfl ?_
      refine p_istore 108 c208_106 rfl rfl ?_
      refine p_iload 109 c208_108 rfl rfl ?_
      refine p_if 134 112 c208_109 rfl rfl (yz_eq gx2) (fun hb7708 k7709 hk7709 => ?_) (fun hb7708 k7710 hk7710 => ?_)
      · have hX7711 := hX7706.trans (if_pos hb7708)
        refine p_aload 135 c208_134 rfl rfl ?_
        refine p_getR 138 c208_135 rfl kf376_50 ?_
        refine p_iload 140 c208_138 rfl rfl ?_
        refine p_aload 141 c208_140 rfl rfl ?_
        refine p_aload 142 c208_141 rfl rfl ?_
        refine p_getR 145 c208_142 rfl kf376_40 ?_
        refine p_iload 146 c208_145 rfl rfl ?_
        refine p_iconst 147 c208_146 rfl ?_
        refine p_iadd 148 c208_147 rfl ?_
        refine p_iaX 149 (m7701 403 (wr (x1 + 3)).toNat) c208_148 rfl ka403 (rg_wr _) rfl (fun hx7712 => ?_)
        refine p_cX 152 [.ref 376, yI (m7701 403 (wr (x1 + 3)).toNat)] [yI (wr ((wr (8 * (wr (x3 - 1)))) + (m7701 403 (wr (x1 + 4)).toNat))), .ref 410] c208_149 rfl rfl rfl (fun k' hk' d' => d205 (hR7702.rg _ _) hR7702) (fun hg7715 n7714 k7713 hk7713 => ?_)
        refine p_iaS 153 c208_152 rfl ka410 (rg_wr _) (F205 (m7701 403 (wr (x1 + 3)).toNat) m7701) (nar0 hg7715) (fun hx7716 => ?_)
        have hR7717 := hR7702.up 410 (wr ((wr (8 * (wr (x3 - 1)))) + (m7701 403 (wr (x1 + 4)).toNat))).toNat (v := F205 (m7701 403 (wr (x1 + 3)).toNat) m7701) (nselA (by decide)) hg7715
        exact p_return c208_153 (Hr _ hX7711 hR7717 _)
      · have hX7718 := hX7706.trans (if_neg hb7708)
        refine p_aload 113 c208_112 rfl rfl ?_
        refine p_aload 114 c208_113 rfl rfl ?_
        refine p_getR 117 c208_114 rfl kf376_40 ?_
        refine p_iload 118 c208_117 rfl rfl ?_
        refine p_iconst 119 c208_118 rfl ?_
        refine p_iadd 120 c208_119 rfl ?_
        refine p_iaX 121 (m7701 403 (wr (x1 + 2)).toNat) c208_120 rfl ka403 (rg_wr _) rfl (fun hx7719 => ?_)
        refine p_aload 122 c208_121 rfl rfl ?_
        refine p_getR 125 c208_122 rfl kf376_50 ?_
        refine p_iload 127 c208_125 rfl rfl ?_
        refine p_iaX 128 (m7701 410 (wr ((wr (8 * (wr (x3 - 1)))) + (m7701 403 (wr (x1 + 4)).toNat))).toNat) c208_127 rfl ka410 (rg_wr _) rfl (fun hx7720 => ?_)
        refine p_cV 131 [.ref 376, yI (m7701 403 (wr (x1 + 2)).toNat), yI (m7701 410 (wr ((wr (8 * (wr (x3 - 1)))) + (m7701 403 (wr (x1 + 4)).toNat))).toNat)] [] c208_128 rfl rfl rfl (fun k' hk' d' => d202 (f := f) (by omega) (hR7702.rg _ _) (hR7702.rg _ _) hR7702) (fun m7727 hF7723 hR7728 n7722 k7721 hk7721 => ?_)
        have hX7726 := hX7718.trans (bU_s hF7723)
        refine p_goto 153 c208_131 rfl ?_
        exact p_return c208_153 (Hr _ hX7726 hR7728 _)
    · have hX7729 := hX7700.trans (if_pos (Classical.not_not.mp hb7703))
      exact p_return c208_90 (Hr _ hX7729 hR7702 _)
def J208_40 (f : Nat) (x1 : Int) (x2 : Int) (xs1 : Int) (m : yM) : Option yM := (if 0 < F205 xs1 m then (J208_54 f x1 x2 (F205 xs1 m) 1 m) else (J208_54 f x1 x2 (F205 xs1 m) 0 m))
set_option maxRecDepth 100000 in
theorem tJ208_40 {L : Nat} {xs : Nat → Int32} {Q : xO → yM → Nat → Prop} {k d n : Nat} {c : yS3} {f : Nat} {x1 : Int} {x2 : Int} {xs1 : Int} {m : yM} {j3 j4 : Option Value} (hk : k ≤ f) (gx1 : rg x1) (gx2 : rg x2) (gxs1 : rg xs1) (hR : RM c m) (Hr : ∀ m', J208_40 f x1 x2 xs1 m = some m' → RM c m' → ∀ n', Q (.inl none) m' n') : PW (gZ L xs) k 208 d 40 [some (.ref 376), some (yI x1), some (yI x2), j3, j4] [yI xs1, .ref 376] m n Q := by
  have hX : J208_40 f x1 x2 xs1 m = J208_40 f x1 x2 xs1 m := rfl
  refine p_cX 43 [.ref 376, yI xs1] [] c208_40 rfl rfl rfl (fun k' hk' d' => d205 gxs1 hR) (fun hg7665 n7664 k7663 hk7663 => ?_)
  refine p_istore 44 c208_43 rfl rfl ?_
  refine p_aload 45 c208_44 rfl rfl ?_
  refine p_iload 46 c208_45 rfl rfl ?_
  refine p_if 53 49 c208_46 rfl rfl ((yz_le hg7665).trans Int.not_lt.symm) (fun hb7666 k7667 hk7667 => ?_) (fun hb7666 k7668 hk7668 => ?_)
  · have hX7669 := hX.trans (if_neg hb7666)
    refine p_iconst 54 c208_53 rfl ?_
    exact tJ208_54 (f := f) (by omega) gx1 gx2 hg7665 (rgD rfl) hR (fun m' e' => Hr m' (hX7669.trans e'))
  · have hX7730 := hX.trans (if_pos (Classical.not_not.mp hb7666))
    refine p_iconst 50 c208_49 rfl ?_
    refine p_goto 54 c208_50 rfl ?_
    exact tJ208_54 (f := f) (by omega) gx1 gx2 hg7665 (rgD rfl) hR (fun m' e' => Hr m' (hX7730.trans e'))
def J208_15 (f : Nat) (x1 : Int) (xs0 : Int) (m : yM) : Option yM := (if xs0 = 0 then (J208_40 f x1 xs0 (m 403 (wr (x1 + 2)).toNat) m) else (J208_40 f x1 xs0 (m 403 (wr (x1 + 3)).toNat) m))
set_option maxRecDepth 100000 in
theorem tJ208_15 {L : Nat} {xs : Nat → Int32} {Q : xO → yM → Nat → Prop} {k d n : Nat} {c : yS3} {f : Nat} {x1 : Int} {xs0 : Int} {m : yM} {j2 j3 j4 : Option Value} (hk : k ≤ f) (gx1 : rg x1) (gxs0 : rg xs0) (hR : RM c m) (Hr : ∀ m', J208_15 f x1 xs0 m = some m' → RM c m' → ∀ n', Q (.inl none) m' n') : PW (gZ L xs) k 208 d 15 [some (.ref 376), some (yI x1), j2, j3, j4] [yI xs0] m n Q := by
  have hX : J208_15 f x1 xs0 m = J208_15 f x1 xs0 m := rfl
  refine p_istore 16 c208_15 rfl rfl ?_
  refine p_aload 17 c208_16 rfl rfl ?_
  refine p_iload 18 c208_17 rfl rfl ?_
  refine p_if 32 21 c208_18 rfl rfl (yz_eq gxs0) (fun hb7658 k7659 hk7659 => ?_) (fun hb7658 k7660 hk7660 => ?_)
  · have hX7661 := hX.trans (if_pos hb7658)
    refine p_aload 33 c208_32 rfl rfl ?_
    refine p_getR 36 c208_33 rfl kf376_40 ?_
    refine p_iload 37 c208_36 rfl rfl ?_
    refine p_iconst 38 c208_37 rfl ?_
    refine p_iadd 39 c208_38 rfl ?_
    refine p_iaX 40 (m 403 (wr (x1 + 2)).toNat) c208_39 rfl ka403 (rg_wr _) rfl (fun hx7662 => ?_)
    exact tJ208_40 (f := f) (by omega) gx1 gxs0 (hR.rg _ _) hR (fun m' e' => Hr m' (hX7661.trans e'))
  · have hX7731 := hX.trans (if_neg hb7658)
    refine p_aload 22 c208_21 rfl rfl ?_
    refine p_getR 25 c208_22 rfl kf376_40 ?_
    refine p_iload 26 c208_25 rfl rfl ?_
    refine p_iconst 27 c208_26 rfl ?_
    refine p_iadd 28 c208_27 rfl ?_
    refine p_iaX 29 (m 403 (wr (x1 + 3)).toNat) c208_28 rfl ka403 (rg_wr _) rfl (fun hx7732 => ?_)
    refine p_goto 40 c208_29 rfl ?_
    exact tJ208_40 (f := f) (by omega) gx1 gxs0 (hR.rg _ _) hR (fun m' e' => Hr m' (hX7731.trans e'))
def F208 (f : Nat) (x1 : Int) (m : yM) : Option yM := (if m 403 x1.toNat = 4 then (J208_15 f x1 1 m) else (J208_15 f x1 0 m))
set_option maxRecDepth 100000 in
theorem d208 {L : Nat} {xs : Nat → Int32} {k d n : Nat} {c : yS3} {f : Nat} {x1 : Int} {m : yM} (hk : k ≤ f) (gx1 : rg x1) (hR : RM c m) : PC (gZ L xs) k d 208 [.ref 376, yI x1] m n (qV c (F208 f x1 m)) := by
  have hX : F208 f x1 m = F208 f x1 m := rfl
  have Hr : ∀ m', F208 f x1 m = some m' → RM c m' → ∀ n' : Nat, (qV c (F208 f x1 m)) (.inl none) m' n' := fun m' e h n' => ⟨rfl, h, e⟩
  refine PC.mk [some (.ref 376), some (yI x1), none, none, none] kn208 rfl ?_
  refine p_aload 1 c208_0 rfl rfl ?_
  refine p_getR 4 c208_1 rfl kf376_40 ?_
  refine p_iload 5 c208_4 rfl rfl ?_
  refine p_iaX 6 (m 403 x1.toNat) c208_5 rfl ka403 gx1 rfl (fun hx7653 => ?_)
  refine p_iconst 7 c208_6 rfl ?_
  refine p_icmp 14 10 c208_7 rfl rfl (yc_ne (hR.rg _ _) (rgD rfl)) (fun hb7654 k7655 hk7655 => ?_) (fun hb7654 k7656 hk7656 => ?_)
  · have hX7657 := hX.trans (if_neg hb7654)
    refine p_iconst 15 c208_14 rfl ?_
    exact tJ208_15 (f := f) (by omega) gx1 (rgD rfl) hR (fun m' e' => Hr m' (hX7657.trans e'))
  · have hX7733 := hX.trans (if_pos (Classical.not_not.mp hb7654))
    refine p_iconst 11 c208_10 rfl ?_
    refine p_goto 15 c208_11 rfl ?_
    exact tJ208_15 (f := f) (by omega) gx1 (rgD rfl) hR (fun m' e' => Hr m' (hX7733.trans e'))
def J209_66 (f : Nat) (x1 : Int) (m : yM) : Option yM := (bU (F208 f x1 m) (fun m7738 => (some m7738)))
set_option maxRecDepth 100000 in
theorem tJ209_66 {L : Nat} {xs : Nat → Int32} {Q : xO → yM → Nat → Prop} {k d n : Nat} {c : yS3} {f : Nat} {x1 : Int} {m : yM} {j2 j3 j4 j5 : Option Value} (hk : k ≤ f) (gx1 : rg x1) (hR : RM c m) (Hr : ∀ m', J209_66 f x1 m = some m' → RM c m' → ∀ n', Q (.inl none) m' n') : PW (gZ L xs) k 209 d 66 [some (.ref 376), some (yI x1), j2, j3, j4, j5] [] m n Q := by
  have hX : J209_66 f x1 m = J209_66 f x1 m := rfl
  refine p_aload 67 c209_66 rfl rfl ?_
  refine p_iload 68 c209_67 rfl rfl ?_
  refine p_cV 71 [.ref 376, yI x1] [] c209_68 rfl rfl rfl (fun k' hk' d' => d208 (f := f) (by omega) gx1 hR) (fun m7738 hF7734 hR7739 n7652 k7651 hk7651 => ?_)
  have hX7737 := hX.trans (bU_s hF7734)
  refine p_goto 191 c209_71 rfl ?_
  exact p_return c209_191 (Hr _ hX7737 hR7739 _)
def J209_172 (f : Nat) (x3 : Int) (x4 : Int) (xs0 : Int) (m : yM) : Option yM := (bI (F23 f xs0 2 m) (fun r7761 m7763 => (if r7761 = 0 then (some m7763) else (bU (F202 f x3 x4 m7763) (fun m7776 => (some m7776))))))
set_option maxRecDepth 100000 in
theorem tJ209_172 {L : Nat} {xs : Nat → Int32} {Q : xO → yM → Nat → Prop} {k d n : Nat} {c : yS3} {f : Nat} {x3 : Int} {x4 : Int} {xs0 : Int} {m : yM} {j1 j2 j5 : Option Value} (hk : k ≤ f) (gx3 : rg x3) (gx4 : rg x4) (gxs0 : rg xs0) (hR : RM c m) (Hr : ∀ m', J209_172 f x3 x4 xs0 m = some m' → RM c m' → ∀ n', Q (.inl none) m' n') : PW (gZ L xs) k 209 d 172 [some (.ref 376), j1, j2, some (yI x3), some (yI x4), j5] [yI xs0] m n Q := by
  have hX : J209_172 f x3 x4 xs0 m = J209_172 f x3 x4 xs0 m := rfl
  refine p_istore 174 c209_172 rfl rfl ?_
  refine p_aload 175 c209_174 rfl rfl ?_
  refine p_iload 177 c209_175 rfl rfl ?_
  refine p_iconst 178 c209_177 rfl ?_
  refine p_cS 181 [.ref 376, yI xs0, yI 2] [] c209_178 rfl rfl rfl (fun k' hk' d' => d23 (f := f) (by omega) gxs0 (rgD rfl) hR) (fun r7761 m7763 hF7759 hg7760 hR7764 n7758 k7757 hk7757 => ?_)
  have hX7762 := hX.trans (bI_s hF7759)
  refine p_if 191 184 c209_181 rfl rfl (yz_eq hg7760) (fun hb7765 k7766 hk7766 => ?_) (fun hb7765 k7767 hk7767 => ?_)
  · have hX7768 := hX7762.trans (if_pos hb7765)
    exact p_return c209_191 (Hr _ hX7768 hR7764 _)
  · have hX7769 := hX7762.trans (if_neg hb7765)
    refine p_aload 185 c209_184 rfl rfl ?_
    refine p_iload 186 c209_185 rfl rfl ?_
    refine p_iload 188 c209_186 rfl rfl ?_
    refine p_cV 191 [.ref 376, yI x3, yI x4] [] c209_188 rfl rfl rfl (fun k' hk' d' => d202 (f := f) (by omega) gx3 gx4 hR7764) (fun m7776 hF7772 hR7777 n7771 k7770 hk7770 => ?_)
    have hX7775 := hX7769.trans (bU_s hF7772)
    exact p_return c209_191 (Hr _ hX7775 hR7777 _)
def J209_167 (f : Nat) (x3 : Int) (x4 : Int) (m : yM) : Option yM := (J209_172 f x3 x4 1 m)
set_option maxRecDepth 100000 in
theorem tJ209_167 {L : Nat} {xs : Nat → Int32} {Q : xO → yM → Nat → Prop} {k d n : Nat} {c : yS3} {f : Nat} {x3 : Int} {x4 : Int} {m : yM} {j1 j2 j5 : Option Value} (hk : k ≤ f) (gx3 : rg x3) (gx4 : rg x4) (hR : RM c m) (Hr : ∀ m', J209_167 f x3 x4 m = some m' → RM c m' → ∀ n', Q (.inl none) m' n') : PW (gZ L xs) k 209 d 167 [some (.ref 376), j1, j2, some (yI x3), some (yI x4), j5] [] m n Q := by
  have hX : J209_167 f x3 x4 m = J209_167 f x3 x4 m := rfl
  refine p_iconst 168 c209_167 rfl ?_
  refine p_goto 172 c209_168 rfl ?_
  exact tJ209_172 (f := f) (by omega) gx3 gx4 (rgD rfl) hR (fun m' e' => Hr m' (hX.trans e'))
def F209 (f : Nat) (x1 : Int) (m : yM) : Option yM := (if m 403 x1.toNat = 8 then (bU (F202 f (m 403 (wr (x1 + 2)).toNat) 0 m) (fun m7839 => (some m7839))) else (if m 403 x1.toNat = 2 then (bU (F202 f (m 403 (wr (x1 + 2)).toNat) (F205 (m 403 (wr (x1 + 3)).toNat) m) m) (fun m7830 => (some m7830))) else (if m 403 x1.toNat = 4 then (J209_66 f x1 m) else (if m 403 x1.toNat = 5 then (J209_66 f x1 m) else (if m 403 x1.toNat = 1 then (bI (F201 f (m 403 (wr (x1 + 3)).toNat) m) (fun r7801 m7803 => (if m7803 376 57 = 0 then (bU (F202 f (m 403 (wr (x1 + 2)).toNat) r7801 m7803) (fun m7816 => (some m7816))) else (some m7803)))) else (if F205 (m 403 (wr (x1 + 3)).toNat) m = 0 then (J209_167 f (m 403 (wr (x1 + 2)).toNat) (F205 (m 403 (wr (x1 + 3)).toNat) m) m) else (bP (F149 f (m 376 18) (F206 (F205 (m 403 (wr (x1 + 3)).toNat) m) m) (m 402 (wr ((wr (8 * (m 376 18))) + (m 403 (wr (x1 + 4)).toNat))).toNat) m) (fun r7788 => (if r7788 = 0 then (J209_172 f (m 403 (wr (x1 + 2)).toNat) (F205 (m 403 (wr (x1 + 3)).toNat) m) 0 m) else (J209_167 f (m 403 (wr (x1 + 2)).toNat) (F205 (m 403 (wr (x1 + 3)).toNat) m) m))))))))))
set_option maxRecDepth 100000 in
theorem d209 {L : Nat} {xs : Nat → Int32} {k d n : Nat} {c : yS3} {f : Nat} {x1 : Int} {m : yM} (hk : k ≤ f) (gx1 : rg x1) (hR : RM c m) : PC (gZ L xs) k d 209 [.ref 376, yI x1] m n (qV c (F209 f x1 m)) := by
  have hX : F209 f x1 m = F209 f x1 m := rfl
  have Hr : ∀ m', F209 f x1 m = some m' → RM c m' → ∀ n' : Nat, (qV c (F209 f x1 m)) (.inl none) m' n' := fun m' e h n' => ⟨rfl, h, e⟩
  refine PC.mk [some (.ref 376), some (yI x1), none, none, none, none] kn209 rfl ?_
  refine p_aload 1 c209_0 rfl rfl ?_
  refine p_getR 4 c209_1 rfl kf376_40 ?_
  refine p_iload 5 c209_4 rfl rfl ?_
  refine p_iaX 6 (m 403 x1.toNat) c209_5 rfl ka403 gx1 rfl (fun hx7637 => ?_)
  refine p_istore 7 c209_6 rfl rfl ?_
  refine p_aload 8 c209_7 rfl rfl ?_
  refine p_getR 11 c209_8 rfl kf376_40 ?_
  refine p_iload 12 c209_11 rfl rfl ?_
  refine p_iconst 13 c209_12 rfl ?_
  refine p_iadd 14 c209_13 rfl ?_
  refine p_iaX 15 (m 403 (wr (x1 + 2)).toNat) c209_14 rfl ka403 (rg_wr _) rfl (fun hx7638 => ?_)
  refine p_istore 16 c209_15 rfl rfl ?_
  refine p_iload 17 c209_16 rfl rfl ?_
  refine p_iconst 19 c209_17 rfl ?_
  refine p_icmp 31 22 c209_19 rfl rfl (yc_ne (hR.rg _ _) (rgD rfl)) (fun hb7639 k7640 hk7640 => ?_) (fun hb7639 k7641 hk7641 => ?_)
  · have hX7642 := hX.trans (if_neg hb7639)
    refine p_iload 32 c209_31 rfl rfl ?_
    refine p_iconst 33 c209_32 rfl ?_
    refine p_icmp 56 36 c209_33 rfl rfl (yc_ne (hR.rg _ _) (rgD rfl)) (fun hb7643 k7644 hk7644 => ?_) (fun hb7643 k7645 hk7645 => ?_)
    · have hX7646 := hX7642.trans (if_neg hb7643)
      refine p_iload 57 c209_56 rfl rfl ?_
      refine p_iconst 58 c209_57 rfl ?_
      refine p_icmp 66 61 c209_58 rfl rfl (yc_eq (hR.rg _ _) (rgD rfl)) (fun hb7647 k7648 hk7648 => ?_) (fun hb7647 k7649 hk7649 => ?_)
      · have hX7650 := hX7646.trans (if_pos hb7647)
        exact tJ209_66 (f := f) (by omega) gx1 hR (fun m' e' => Hr m' (hX7650.trans e'))
      · have hX7740 := hX7646.trans (if_neg hb7647)
        refine p_iload 62 c209_61 rfl rfl ?_
        refine p_iconst 63 c209_62 rfl ?_
        refine p_icmp 74 66 c209_63 rfl rfl (yc_ne (hR.rg _ _) (rgD rfl)) (fun hb7741 k7742 hk7742 => ?_) (fun hb7741 k7743 hk7743 => ?_)
        · have hX7744 := hX7740.trans (if_neg hb7741)
          refine p_iload 75 c209_74 rfl rfl ?_
          refine p_iconst 76 c209_75 rfl ?_
          refine p_icmp 110 79 c209_76 rfl rfl (yc_ne (hR.rg _ _) (rgD rfl)) (fun hb7745 k7746 hk7746 => ?_) (fun hb7745 k7747 hk7747 => ?_)
          · have hX7748 := hX7744.trans (if_neg hb7745)
            refine p_aload 111 c209_110 rfl rfl ?_
            refine p_aload 112 c209_111 rfl rfl ?_
            refine p_getR 115 c209_112 rfl kf376_40 ?_
            refine p_iload 116 c209_115 rfl rfl ?_
            refine p_iconst 117 c209_116 rfl ?_
            refine p_iadd 118 c209_117 rfl ?_
            refine p_iaX 119 (m 403 (wr (x1 + 3)).toNat) c209_118 rfl ka403 (rg_wr _) rfl (fun hx7749 => ?_)
            refine p_cX 122 [.ref 376, yI (m 403 (wr (x1 + 3)).toNat)] [] c209_119 rfl rfl rfl (fun k' hk' d' => d205 (hR.rg _ _) hR) (fun hg7752 n7751 k7750 hk7750 => ?_)
            refine p_istore 124 c209_122 rfl rfl ?_
            refine p_iload 126 c209_124 rfl rfl ?_
            refine p_if 167 129 c209_126 rfl rfl (yz_eq hg7752) (fun hb7753 k7754 hk7754 => ?_) (fun hb7753 k7755 hk7755 => ?_)
            · have hX7756 := hX7748.trans (if_pos hb7753)
              exact tJ209_167 (f := f) (by omega) (hR.rg _ _) hg7752 hR (fun m' e' => Hr m' (hX7756.trans e'))
            · have hX7778 := hX7748.trans (if_neg hb7753)
              refine p_aload 130 c209_129 rfl rfl ?_
              refine p_aload 131 c209_130 rfl rfl ?_
              refine p_getX 134 (m 376 18) c209_131 rfl kf376_18 rfl ?_
              refine p_aload 135 c209_134 rfl rfl ?_
              refine p_iload 137 c209_135 rfl rfl ?_
              refine p_cX 140 [.ref 376, yI (F205 (m 403 (wr (x1 + 3)).toNat) m)] [yI (m 376 18), .ref 376] c209_137 rfl rfl rfl (fun k' hk' d' => d206 hg7752 hR) (fun hg7781 n7780 k7779 hk7779 => ?_)
              refine p_aload 141 c209_140 rfl rfl ?_
              refine p_getR 144 c209_141 rfl kf376_39 ?_
              refine p_iconst 146 c209_144 rfl ?_
              refine p_aload 147 c209_146 rfl rfl ?_
              refine p_getX 150 (m 376 18) c209_147 rfl kf376_18 rfl ?_
              refine p_imul 151 c209_150 rfl ?_
              refine p_aload 152 c209_151 rfl rfl ?_
              refine p_getR 155 c209_152 rfl kf376_40 ?_
              refine p_iload 156 c209_155 rfl rfl ?_
              refine p_iconst 157 c209_156 rfl ?_
              refine p_iadd 158 c209_157 rfl ?_
              refine p_iaX 159 (m 403 (wr (x1 + 4)).toNat) c209_158 rfl ka403 (rg_wr _) rfl (fun hx7782 => ?_)
              refine p_iadd 160 c209_159 rfl ?_
              refine p_iaX 161 (m 402 (wr ((wr (8 * (m 376 18))) + (m 403 (wr (x1 + 4)).toNat))).toNat) c209_160 rfl ka402 (rg_wr _) rfl (fun hx7783 => ?_)
              refine p_cO 164 [.ref 376, yI (m 376 18), yI (F206 (F205 (m 403 (wr (x1 + 3)).toNat) m) m), yI (m 402 (wr ((wr (8 * (m 376 18))) + (m 403 (wr (x1 + 4)).toNat))).toNat)] [] c209_161 rfl rfl rfl (fun k' hk' d' => d149 (f := f) (by omega) (hR.rg _ _) hg7781 (hR.rg _ _) hR) (fun r7788 hF7786 hg7787 n7785 k7784 hk7784 => ?_)
              have hX7789 := hX7778.trans (bP_s hF7786)
              refine p_if 171 167 c209_164 rfl rfl (yz_eq hg7787) (fun hb7790 k7791 hk7791 => ?_) (fun hb7790 k7792 hk7792 => ?_)
              · have hX7793 := hX7789.trans (if_pos hb7790)
                refine p_iconst 172 c209_171 rfl ?_
                exact tJ209_172 (f := f) (by omega) (hR.rg _ _) hg7752 (rgD rfl) hR (fun m' e' => Hr m' (hX7793.trans e'))
              · have hX7794 := hX7789.trans (if_neg hb7790)
                exact tJ209_167 (f := f) (by omega) (hR.rg _ _) hg7752 hR (fun m' e' => Hr m' (hX7794.trans e'))
          · have hX7795 := hX7744.trans (if_pos (Classical.not_not.mp hb7745))
            refine p_aload 80 c209_79 rfl rfl ?_
            refine p_aload 81 c209_80 rfl rfl ?_
            refine p_getR 84 c209_81 rfl kf376_40 ?_
            refine p_iload 85 c209_84 rfl rfl ?_
            refine p_iconst 86 c209_85 rfl ?_
            refine p_iadd 87 c209_86 rfl ?_
            refine p_iaX 88 (m 403 (wr (x1 + 3)).toNat) c209_87 rfl ka403 (rg_wr _) rfl (fun hx7796 => ?_)
            refine p_cS 91 [.ref 376, yI (m 403 (wr (x1 + 3)).toNat)] [] c209_88 rfl rfl rfl (fun k' hk' d' => d201 (f := f) (by omega) (hR.rg _ _) hR) (fun r7801 m7803 hF7799 hg7800 hR7804 n7798 k7797 hk7797 => ?_)
            have hX7802 := hX7795.trans (bI_s hF7799)
            refine p_istore 93 c209_91 rfl rfl ?_
            refine p_aload 94 c209_93 rfl rfl ?_
            refine p_getX 97 (m7803 376 57) c209_94 rfl kf376_57 rfl ?_
            refine p_if 107 100 c209_97 rfl rfl (yz_ne (hR7804.rg _ _)) (fun hb7805 k7806 hk7806 => ?_) (fun hb7805 k7807 hk7807 => ?_)
            · have hX7808 := hX7802.trans (if_neg hb7805)
              refine p_goto 191 c209_107 rfl ?_
              exact p_return c209_191 (Hr _ hX7808 hR7804 _)
            · have hX7809 := hX7802.trans (if_pos (Classical.not_not.mp hb7805))
              refine p_aload 101 c209_100 rfl rfl ?_
              refine p_iload 102 c209_101 rfl rfl ?_
              refine p_iload 104 c209_102 rfl rfl ?_
              refine p_cV 107 [.ref 376, yI (m 403 (wr (x1 + 2)).toNat), yI r7801] [] c209_104 rfl rfl rfl (fun k' hk' d' => d202 (f := f) (by omega) (hR.rg _ _) hg7800 hR7804) (fun m7816 hF7812 hR7817 n7811 k7810 hk7810 => ?_)
              have hX7815 := hX7809.trans (bU_s hF7812)
              refine p_goto 191 c209_107 rfl ?_
              exact p_return c209_191 (Hr _ hX7815 hR7817 _)
        · have hX7818 := hX7740.trans (if_pos (Classical.not_not.mp hb7741))
          exact tJ209_66 (f := f) (by omega) gx1 hR (fun m' e' => Hr m' (hX7818.trans e'))
    · have hX7819 := hX7642.trans (if_pos (Classical.not_not.mp hb7643))
      refine p_aload 37 c209_36 rfl rfl ?_
      refine p_iload 38 c209_37 rfl rfl ?_
      refine p_aload 39 c209_38 rfl rfl ?_
      refine p_aload 40 c209_39 rfl rfl ?_
      refine p_getR 43 c209_40 rfl kf376_40 ?_
      refine p_iload 44 c209_43 rfl rfl ?_
      refine p_iconst 45 c209_44 rfl ?_
      refine p_iadd 46 c209_45 rfl ?_
      refine p_iaX 47 (m 403 (wr (x1 + 3)).toNat) c209_46 rfl ka403 (rg_wr _) rfl (fun hx7820 => ?_)
      refine p_cX 50 [.ref 376, yI (m 403 (wr (x1 + 3)).toNat)] [yI (m 403 (wr (x1 + 2)).toNat), .ref 376] c209_47 rfl rfl rfl (fun k' hk' d' => d205 (hR.rg _ _) hR) (fun hg7823 n7822 k7821 hk7821 => ?_)
      refine p_cV 53 [.ref 376, yI (m 403 (wr (x1 + 2)).toNat), yI (F205 (m 403 (wr (x1 + 3)).toNat) m)] [] c209_50 rfl rfl rfl (fun k' hk' d' => d202 (f := f) (by omega) (hR.rg _ _) hg7823 hR) (fun m7830 hF7826 hR7831 n7825 k7824 hk7824 => ?_)
      have hX7829 := hX7819.trans (bU_s hF7826)
      refine p_goto 191 c209_53 rfl ?_
      exact p_return c209_191 (Hr _ hX7829 hR7831 _)
  · have hX7832 := hX.trans (if_pos (Classical.not_not.mp hb7639))
    refine p_aload 23 c209_22 rfl rfl ?_
    refine p_iload 24 c209_23 rfl rfl ?_
    refine p_iconst 25 c209_24 rfl ?_
    refine p_cV 28 [.ref 376, yI (m 403 (wr (x1 + 2)).toNat), yI 0] [] c209_25 rfl rfl rfl (fun k' hk' d' => d202 (f := f) (by omega) (hR.rg _ _) (rgD rfl) hR) (fun m7839 hF7835 hR7840 n7834 k7833 hk7833 => ?_)
    have hX7838 := hX7832.trans (bU_s hF7835)
    refine p_goto 191 c209_28 rfl ?_
    exact p_return c209_191 (Hr _ hX7838 hR7840 _)
def J207_131 (f : Nat) (x2 : Int) (x4 : Int) (x5 : Int) (xs0 : Int) (m : yM) : Option yM := (bU (F203 f x4 x2 x5 xs0 (m 376 55) m) (fun m7912 => (some m7912)))
set_option maxRecDepth 100000 in
theorem tJ207_131 {L : Nat} {xs : Nat → Int32} {Q : xO → yM → Nat → Prop} {k d n : Nat} {c : yS3} {f : Nat} {x2 : Int} {x4 : Int} {x5 : Int} {xs0 : Int} {m : yM} {j1 j3 j6 : Option Value} (hk : k ≤ f) (gx2 : rg x2) (gx4 : rg x4) (gx5 : rg x5) (gxs0 : rg xs0) (hR : RM c m) (Hr : ∀ m', J207_131 f x2 x4 x5 xs0 m = some m' → RM c m' → ∀ n', Q (.inl none) m' n') : PW (gZ L xs) k 207 d 131 [some (.ref 376), j1, some (yI x2), j3, some (yI x4), some (yI x5), j6] [yI xs0] m n Q := by
  have hX : J207_131 f x2 x4 x5 xs0 m = J207_131 f x2 x4 x5 xs0 m := rfl
  refine p_istore 133 c207_131 rfl rfl ?_
  refine p_aload 134 c207_133 rfl rfl ?_
  refine p_iload 136 c207_134 rfl rfl ?_
  refine p_iload 137 c207_136 rfl rfl ?_
  refine p_iload 139 c207_137 rfl rfl ?_
  refine p_iload 141 c207_139 rfl rfl ?_
  refine p_aload 142 c207_141 rfl rfl ?_
  refine p_getX 145 (m 376 55) c207_142 rfl kf376_55 rfl ?_
  refine p_cV 148 [.ref 376, yI x4, yI x2, yI x5, yI xs0, yI (m 376 55)] [] c207_145 rfl rfl rfl (fun k' hk' d' => d203 (f := f) (by omega) gx4 gx2 gx5 gxs0 (hR.rg _ _) hR) (fun m7912 hF7908 hR7913 n7907 k7906 hk7906 => ?_)
  have hX7911 := hX.trans (bU_s hF7908)
  exact p_return c207_148 (Hr _ hX7911 hR7913 _)
def J207_107 (f : Nat) (x1 : Int) (x2 : Int) (x3 : Int) (x4 : Int) (xs0 : Int) (m : yM) : Option yM := (if 1 < x3 then (J207_131 f x2 x4 xs0 (F205 (m 403 (wr (x1 + 7)).toNat) m) m) else (J207_131 f x2 x4 xs0 0 m))
set_option maxRecDepth 100000 in
theorem tJ207_107 {L : Nat} {xs : Nat → Int32} {Q : xO → yM → Nat → Prop} {k d n : Nat} {c : yS3} {f : Nat} {x1 : Int} {x2 : Int} {x3 : Int} {x4 : Int} {xs0 : Int} {m : yM} {j5 j6 : Option Value} (hk : k ≤ f) (gx1 : rg x1) (gx2 : rg x2) (gx3 : rg x3) (gx4 : rg x4) (gxs0 : rg xs0) (hR : RM c m) (Hr : ∀ m', J207_107 f x1 x2 x3 x4 xs0 m = some m' → RM c m' → ∀ n', Q (.inl none) m' n') : PW (gZ L xs) k 207 d 107 [some (.ref 376), some (yI x1), some (yI x2), some (yI x3), some (yI x4), j5, j6] [yI xs0] m n Q := by
  have hX : J207_107 f x1 x2 x3 x4 xs0 m = J207_107 f x1 x2 x3 x4 xs0 m := rfl
  refine p_istore 109 c207_107 rfl rfl ?_
  refine p_iload 110 c207_109 rfl rfl ?_
  refine p_iconst 111 c207_110 rfl ?_
  refine p_icmp 130 114 c207_111 rfl rfl ((yc_le gx3 (rgD rfl)).trans Int.not_lt.symm) (fun hb7902 k7903 hk7903 => ?_) (fun hb7902 k7904 hk7904 => ?_)
  · have hX7905 := hX.trans (if_neg hb7902)
    refine p_iconst 131 c207_130 rfl ?_
    exact tJ207_131 (f := f) (by omega) gx2 gx4 gxs0 (rgD rfl) hR (fun m' e' => Hr m' (hX7905.trans e'))
  · have hX7914 := hX.trans (if_pos (Classical.not_not.mp hb7902))
    refine p_aload 115 c207_114 rfl rfl ?_
    refine p_aload 116 c207_115 rfl rfl ?_
    refine p_getR 119 c207_116 rfl kf376_40 ?_
    refine p_iload 120 c207_119 rfl rfl ?_
    refine p_iconst 122 c207_120 rfl ?_
    refine p_iadd 123 c207_122 rfl ?_
    refine p_iaX 124 (m 403 (wr (x1 + 7)).toNat) c207_123 rfl ka403 (rg_wr _) rfl (fun hx7915 => ?_)
    refine p_cX 127 [.ref 376, yI (m 403 (wr (x1 + 7)).toNat)] [] c207_124 rfl rfl rfl (fun k' hk' d' => d205 (hR.rg _ _) hR) (fun hg7918 n7917 k7916 hk7916 => ?_)
    refine p_goto 131 c207_127 rfl ?_
    exact tJ207_131 (f := f) (by omega) gx2 gx4 gxs0 hg7918 hR (fun m' e' => Hr m' (hX7914.trans e'))
def J207_78 (f : Nat) (x1 : Int) (x2 : Int) (x3 : Int) (x4 : Int) (xs1 : Int) (m : yM) : Option yM := (bI (F23 f xs1 3 m) (fun r7890 m7892 => (if r7890 = 0 then (some m7892) else (if 0 < x3 then (J207_107 f x1 x2 x3 x4 (F205 (m7892 403 (wr (x1 + 6)).toNat) m7892) m7892) else (J207_107 f x1 x2 x3 x4 0 m7892)))))
set_option maxRecDepth 100000 in
theorem tJ207_78 {L : Nat} {xs : Nat → Int32} {Q : xO → yM → Nat → Prop} {k d n : Nat} {c : yS3} {f : Nat} {x1 : Int} {x2 : Int} {x3 : Int} {x4 : Int} {xs1 : Int} {m : yM} {j5 j6 : Option Value} (hk : k ≤ f) (gx1 : rg x1) (gx2 : rg x2) (gx3 : rg x3) (gx4 : rg x4) (gxs1 : rg xs1) (hR : RM c m) (Hr : ∀ m', J207_78 f x1 x2 x3 x4 xs1 m = some m' → RM c m' → ∀ n', Q (.inl none) m' n') : PW (gZ L xs) k 207 d 78 [some (.ref 376), some (yI x1), some (yI x2), some (yI x3), some (yI x4), j5, j6] [yI xs1, .ref 376] m n Q := by
  have hX : J207_78 f x1 x2 x3 x4 xs1 m = J207_78 f x1 x2 x3 x4 xs1 m := rfl
  refine p_iconst 79 c207_78 rfl ?_
  refine p_cS 82 [.ref 376, yI xs1, yI 3] [] c207_79 rfl rfl rfl (fun k' hk' d' => d23 (f := f) (by omega) gxs1 (rgD rfl) hR) (fun r7890 m7892 hF7888 hg7889 hR7893 n7887 k7886 hk7886 => ?_)
  have hX7891 := hX.trans (bI_s hF7888)
  refine p_if 86 85 c207_82 rfl rfl (yz_ne hg7889) (fun hb7894 k7895 hk7895 => ?_) (fun hb7894 k7896 hk7896 => ?_)
  · have hX7897 := hX7891.trans (if_neg hb7894)
    refine p_iload 87 c207_86 rfl rfl ?_
    refine p_if 106 90 c207_87 rfl rfl ((yz_le gx3).trans Int.not_lt.symm) (fun hb7898 k7899 hk7899 => ?_) (fun hb7898 k7900 hk7900 => ?_)
    · have hX7901 := hX7897.trans (if_neg hb7898)
      refine p_iconst 107 c207_106 rfl ?_
      exact tJ207_107 (f := f) (by omega) gx1 gx2 gx3 gx4 (rgD rfl) hR7893 (fun m' e' => Hr m' (hX7901.trans e'))
    · have hX7919 := hX7897.trans (if_pos (Classical.not_not.mp hb7898))
      refine p_aload 91 c207_90 rfl rfl ?_
      refine p_aload 92 c207_91 rfl rfl ?_
      refine p_getR 95 c207_92 rfl kf376_40 ?_
      refine p_iload 96 c207_95 rfl rfl ?_
      refine p_iconst 98 c207_96 rfl ?_
      refine p_iadd 99 c207_98 rfl ?_
      refine p_iaX 100 (m7892 403 (wr (x1 + 6)).toNat) c207_99 rfl ka403 (rg_wr _) rfl (fun hx7920 => ?_)
      refine p_cX 103 [.ref 376, yI (m7892 403 (wr (x1 + 6)).toNat)] [] c207_100 rfl rfl rfl (fun k' hk' d' => d205 (hR7893.rg _ _) hR7893) (fun hg7923 n7922 k7921 hk7921 => ?_)
      refine p_goto 107 c207_103 rfl ?_
      exact tJ207_107 (f := f) (by omega) gx1 gx2 gx3 gx4 hg7923 hR7893 (fun m' e' => Hr m' (hX7919.trans e'))
  · have hX7924 := hX7891.trans (if_pos (Classical.not_not.mp hb7894))
    exact p_return c207_85 (Hr _ hX7924 hR7893 _)
def J207_23 (f : Nat) (x1 : Int) (x2 : Int) (xs1 : Int) (m : yM) : Option yM := (bI (F23 f xs1 1 m) (fun r7863 m7865 => (if r7863 = 0 then (some m7865) else (bP (F142 f (m7865 376 18) (F206 x2 m7865) (m7865 403 (wr (x1 + 4)).toNat) (iRem (m7865 403 (wr (x1 + 5)).toNat) 16) m7865) (fun r7880 => (if r7880 < 0 then (J207_78 f x1 x2 (iRem (m7865 403 (wr (x1 + 5)).toNat) 16) r7880 0 m7865) else (J207_78 f x1 x2 (iRem (m7865 403 (wr (x1 + 5)).toNat) 16) r7880 1 m7865)))))))
set_option maxRecDepth 100000 in
theorem tJ207_23 {L : Nat} {xs : Nat → Int32} {Q : xO → yM → Nat → Prop} {k d n : Nat} {c : yS3} {f : Nat} {x1 : Int} {x2 : Int} {xs1 : Int} {m : yM} {j3 j4 j5 j6 : Option Value} (hk : k ≤ f) (gx1 : rg x1) (gx2 : rg x2) (gxs1 : rg xs1) (hR : RM c m) (Hr : ∀ m', J207_23 f x1 x2 xs1 m = some m' → RM c m' → ∀ n', Q (.inl none) m' n') : PW (gZ L xs) k 207 d 23 [some (.ref 376), some (yI x1), some (yI x2), j3, j4, j5, j6] [yI xs1, .ref 376] m n Q := by
  have hX : J207_23 f x1 x2 xs1 m = J207_23 f x1 x2 xs1 m := rfl
  refine p_iconst 24 c207_23 rfl ?_
  refine p_cS 27 [.ref 376, yI xs1, yI 1] [] c207_24 rfl rfl rfl (fun k' hk' d' => d23 (f := f) (by omega) gxs1 (rgD rfl) hR) (fun r7863 m7865 hF7861 hg7862 hR7866 n7860 k7859 hk7859 => ?_)
  have hX7864 := hX.trans (bI_s hF7861)
  refine p_if 31 30 c207_27 rfl rfl (yz_ne hg7862) (fun hb7867 k7868 hk7868 => ?_) (fun hb7867 k7869 hk7869 => ?_)
  · have hX7870 := hX7864.trans (if_neg hb7867)
    refine p_aload 32 c207_31 rfl rfl ?_
    refine p_getR 35 c207_32 rfl kf376_40 ?_
    refine p_iload 36 c207_35 rfl rfl ?_
    refine p_iconst 37 c207_36 rfl ?_
    refine p_iadd 38 c207_37 rfl ?_
    refine p_iaX 39 (m7865 403 (wr (x1 + 5)).toNat) c207_38 rfl ka403 (rg_wr _) rfl (fun hx7871 => ?_)
    refine p_iconst 41 c207_39 rfl ?_
    refine p_irem 42 c207_41 rfl ?_
    refine p_istore 43 c207_42 rfl rfl ?_
    refine p_aload 44 c207_43 rfl rfl ?_
    refine p_aload 45 c207_44 rfl rfl ?_
    refine p_getX 48 (m7865 376 18) c207_45 rfl kf376_18 rfl ?_
    refine p_aload 49 c207_48 rfl rfl ?_
    refine p_iload 50 c207_49 rfl rfl ?_
    refine p_cX 53 [.ref 376, yI x2] [yI (m7865 376 18), .ref 376] c207_50 rfl rfl rfl (fun k' hk' d' => d206 gx2 hR7866) (fun hg7874 n7873 k7872 hk7872 => ?_)
    refine p_aload 54 c207_53 rfl rfl ?_
    refine p_getR 57 c207_54 rfl kf376_40 ?_
    refine p_iload 58 c207_57 rfl rfl ?_
    refine p_iconst 59 c207_58 rfl ?_
    refine p_iadd 60 c207_59 rfl ?_
    refine p_iaX 61 (m7865 403 (wr (x1 + 4)).toNat) c207_60 rfl ka403 (rg_wr _) rfl (fun hx7875 => ?_)
    refine p_iload 62 c207_61 rfl rfl ?_
    refine p_cO 65 [.ref 376, yI (m7865 376 18), yI (F206 x2 m7865), yI (m7865 403 (wr (x1 + 4)).toNat), yI (iRem (m7865 403 (wr (x1 + 5)).toNat) 16)] [] c207_62 rfl rfl rfl (fun k' hk' d' => d142 (f := f) (by omega) (hR7866.rg _ _) hg7874 (hR7866.rg _ _) (rg_to _) hR7866) (fun r7880 hF7878 hg7879 n7877 k7876 hk7876 => ?_)
    have hX7881 := hX7870.trans (bP_s hF7878)
    refine p_istore 67 c207_65 rfl rfl ?_
    refine p_aload 68 c207_67 rfl rfl ?_
    refine p_iload 70 c207_68 rfl rfl ?_
    refine p_if 77 73 c207_70 rfl rfl (yz_lt hg7879) (fun hb7882 k7883 hk7883 => ?_) (fun hb7882 k7884 hk7884 => ?_)
    · have hX7885 := hX7881.trans (if_pos hb7882)
      refine p_iconst 78 c207_77 rfl ?_
      exact tJ207_78 (f := f) (by omega) gx1 gx2 (rg_to _) hg7879 (rgD rfl) hR7866 (fun m' e' => Hr m' (hX7885.trans e'))
    · have hX7925 := hX7881.trans (if_neg hb7882)
      refine p_iconst 74 c207_73 rfl ?_
      refine p_goto 78 c207_74 rfl ?_
      exact tJ207_78 (f := f) (by omega) gx1 gx2 (rg_to _) hg7879 (rgD rfl) hR7866 (fun m' e' => Hr m' (hX7925.trans e'))
  · have hX7926 := hX7864.trans (if_pos (Classical.not_not.mp hb7867))
    exact p_return c207_30 (Hr _ hX7926 hR7866 _)
def F207 (f : Nat) (x1 : Int) (m : yM) : Option yM := (if 0 < F205 (m 403 (wr (x1 + 3)).toNat) m then (J207_23 f x1 (F205 (m 403 (wr (x1 + 3)).toNat) m) 1 m) else (J207_23 f x1 (F205 (m 403 (wr (x1 + 3)).toNat) m) 0 m))
set_option maxRecDepth 100000 in
theorem d207 {L : Nat} {xs : Nat → Int32} {k d n : Nat} {c : yS3} {f : Nat} {x1 : Int} {m : yM} (hk : k ≤ f) (gx1 : rg x1) (hR : RM c m) : PC (gZ L xs) k d 207 [.ref 376, yI x1] m n (qV c (F207 f x1 m)) := by
  have hX : F207 f x1 m = F207 f x1 m := rfl
  have Hr : ∀ m', F207 f x1 m = some m' → RM c m' → ∀ n' : Nat, (qV c (F207 f x1 m)) (.inl none) m' n' := fun m' e h n' => ⟨rfl, h, e⟩
  refine PC.mk [some (.ref 376), some (yI x1), none, none, none, none, none] kn207 rfl ?_
  refine p_aload 1 c207_0 rfl rfl ?_
  refine p_aload 2 c207_1 rfl rfl ?_
  refine p_getR 5 c207_2 rfl kf376_40 ?_
  refine p_iload 6 c207_5 rfl rfl ?_
  refine p_iconst 7 c207_6 rfl ?_
  refine p_iadd 8 c207_7 rfl ?_
  refine p_iaX 9 (m 403 (wr (x1 + 3)).toNat) c207_8 rfl ka403 (rg_wr _) rfl (fun hx7851 => ?_)
  refine p_cX 12 [.ref 376, yI (m 403 (wr (x1 + 3)).toNat)] [] c207_9 rfl rfl rfl (fun k' hk' d' => d205 (hR.rg _ _) hR) (fun hg7854 n7853 k7852 hk7852 => ?_)
  refine p_istore 13 c207_12 rfl rfl ?_
  refine p_aload 14 c207_13 rfl rfl ?_
  refine p_iload 15 c207_14 rfl rfl ?_
  refine p_if 22 18 c207_15 rfl rfl ((yz_le hg7854).trans Int.not_lt.symm) (fun hb7855 k7856 hk7856 => ?_) (fun hb7855 k7857 hk7857 => ?_)
  · have hX7858 := hX.trans (if_neg hb7855)
    refine p_iconst 23 c207_22 rfl ?_
    exact tJ207_23 (f := f) (by omega) gx1 hg7854 (rgD rfl) hR (fun m' e' => Hr m' (hX7858.trans e'))
  · have hX7927 := hX.trans (if_pos (Classical.not_not.mp hb7855))
    refine p_iconst 19 c207_18 rfl ?_
    refine p_goto 23 c207_19 rfl ?_
    exact tJ207_23 (f := f) (by omega) gx1 hg7854 (rgD rfl) hR (fun m' e' => Hr m' (hX7927.trans e'))
def J204_100 (f : Nat) (m : yM) : Option yM := (some (yup m 376 55 (wr ((m 412 (m 376 54).toNat) + 1))))
set_option maxRecDepth 100000 in
theorem tJ204_100 {L : Nat} {xs : Nat → Int32} {Q : xO → yM → Nat → Prop} {k d n : Nat} {c : yS3} {f : Nat} {m : yM} {j1 j2 j3 : Option Value} (hk : k ≤ f) (hR : RM c m) (Hr : ∀ m', J204_100 f m = some m' → RM c m' → ∀ n', Q (.inl none) m' n') : PW (gZ L xs) k 204 d 100 [some (.ref 376), j1, j2, j3] [] m n Q := by
  have hX : J204_100 f m = J204_100 f m := rfl
  refine p_aload 101 c204_100 rfl rfl ?_
  refine p_aload 102 c204_101 rfl rfl ?_
  refine p_getR 105 c204_102 rfl kf376_53 ?_
  refine p_aload 106 c204_105 rfl rfl ?_
  refine p_getX 109 (m 376 54) c204_106 rfl kf376_54 rfl ?_
  refine p_iaX 110 (m 412 (m 376 54).toNat) c204_109 rfl ka412 (hR.rg _ _) rfl (fun hx7958 => ?_)
  refine p_iconst 111 c204_110 rfl ?_
  refine p_iadd 112 c204_111 rfl ?_
  refine p_putI 115 c204_112 rfl kf376_55 ?_
  have hR7959 := hR.up 376 55 (v := wr ((m 412 (m 376 54).toNat) + 1)) (nselD rfl) (rg_wr _)
  exact p_return c204_115 (Hr _ hX hR7959 _)
def J204_36 (f : Nat) (x2 : Int) (m : yM) : Option yM := (if wr ((m 376 54) - 1) = 0 then (some (yup m 376 54 (wr ((m 376 54) - 1)))) else (if m 403 (wr ((wr ((wr (1000 * (m 376 18))) + (wr (8 * (m 412 (wr ((m 376 54) - 1)).toNat))))) + 2)).toNat < 0 then (J204_100 f (yup m 376 54 (wr ((m 376 54) - 1)))) else (bU (F202 f (m 403 (wr ((wr ((wr (1000 * (m 376 18))) + (wr (8 * (m 412 (wr ((m 376 54) - 1)).toNat))))) + 2)).toNat) x2 (yup m 376 54 (wr ((m 376 54) - 1)))) (fun m7968 => (J204_100 f m7968)))))
set_option maxRecDepth 100000 in
theorem tJ204_36 {L : Nat} {xs : Nat → Int32} {Q : xO → yM → Nat → Prop} {k d n : Nat} {c : yS3} {f : Nat} {x2 : Int} {m : yM} {j1 j3 : Option Value} (hk : k ≤ f) (gx2 : rg x2) (hR : RM c m) (Hr : ∀ m', J204_36 f x2 m = some m' → RM c m' → ∀ n', Q (.inl none) m' n') : PW (gZ L xs) k 204 d 36 [some (.ref 376), j1, some (yI x2), j3] [] m n Q := by
  have hX : J204_36 f x2 m = J204_36 f x2 m := rfl
  refine p_aload 37 c204_36 rfl rfl ?_
  refine p_dup 38 c204_37 rfl rfl ?_
  refine p_getX 41 (m 376 54) c204_38 rfl kf376_54 rfl ?_
  refine p_iconst 42 c204_41 rfl ?_
  refine p_isub 43 c204_42 rfl ?_
  refine p_putI 46 c204_43 rfl kf376_54 ?_
  have hR7947 := hR.up 376 54 (v := wr ((m 376 54) - 1)) (nselD rfl) (rg_wr _)
  refine p_aload 47 c204_46 rfl rfl ?_
  refine p_getX 50 (wr ((m 376 54) - 1)) c204_47 rfl kf376_54 (yup_eq _ _ _ _) ?_
  refine p_if 54 53 c204_50 rfl rfl (yz_ne (rg_wr _)) (fun hb7948 k7949 hk7949 => ?_) (fun hb7948 k7950 hk7950 => ?_)
  · have hX7951 := hX.trans (if_neg hb7948)
    refine p_iconst 57 c204_54 rfl ?_
    refine p_aload 58 c204_57 rfl rfl ?_
    refine p_getX 61 (m 376 18) c204_58 rfl kf376_18 (yup_nk (by decide)) ?_
    refine p_imul 62 c204_61 rfl ?_
    refine p_iconst 64 c204_62 rfl ?_
    refine p_aload 65 c204_64 rfl rfl ?_
    refine p_getR 68 c204_65 rfl kf376_53 ?_
    refine p_aload 69 c204_68 rfl rfl ?_
    refine p_getX 72 (wr ((m 376 54) - 1)) c204_69 rfl kf376_54 (yup_eq _ _ _ _) ?_
    refine p_iaX 73 (m 412 (wr ((m 376 54) - 1)).toNat) c204_72 rfl ka412 (rg_wr _) (yup_na (by decide)) (fun hx7952 => ?_)
    refine p_imul 74 c204_73 rfl ?_
    refine p_iadd 75 c204_74 rfl ?_
    refine p_istore 76 c204_75 rfl rfl ?_
    refine p_aload 77 c204_76 rfl rfl ?_
    refine p_getR 80 c204_77 rfl kf376_40 ?_
    refine p_iload 81 c204_80 rfl rfl ?_
    refine p_iconst 82 c204_81 rfl ?_
    refine p_iadd 83 c204_82 rfl ?_
    refine p_iaX 84 (m 403 (wr ((wr ((wr (1000 * (m 376 18))) + (wr (8 * (m 412 (wr ((m 376 54) - 1)).toNat))))) + 2)).toNat) c204_83 rfl ka403 (rg_wr _) (yup_na (by decide)) (fun hx7953 => ?_)
    refine p_if 100 87 c204_84 rfl rfl (yz_lt (hR.rg _ _)) (fun hb7954 k7955 hk7955 => ?_) (fun hb7954 k7956 hk7956 => ?_)
    · have hX7957 := hX7951.trans (if_pos hb7954)
      exact tJ204_100 (f := f) (by omega) hR7947 (fun m' e' => Hr m' (hX7957.trans e'))
    · have hX7960 := hX7951.trans (if_neg hb7954)
      refine p_aload 88 c204_87 rfl rfl ?_
      refine p_aload 89 c204_88 rfl rfl ?_
      refine p_getR 92 c204_89 rfl kf376_40 ?_
      refine p_iload 93 c204_92 rfl rfl ?_
      refine p_iconst 94 c204_93 rfl ?_
      refine p_iadd 95 c204_94 rfl ?_
      refine p_iaX 96 (m 403 (wr ((wr ((wr (1000 * (m 376 18))) + (wr (8 * (m 412 (wr ((m 376 54) - 1)).toNat))))) + 2)).toNat) c204_95 rfl ka403 (rg_wr _) (yup_na (by decide)) (fun hx7961 => ?_)
      refine p_iload 97 c204_96 rfl rfl ?_
      refine p_cV 100 [.ref 376, yI (m 403 (wr ((wr ((wr (1000 * (m 376 18))) + (wr (8 * (m 412 (wr ((m 376 54) - 1)).toNat))))) + 2)).toNat), yI x2] [] c204_97 rfl rfl rfl (fun k' hk' d' => d202 (f := f) (by omega) (hR.rg _ _) gx2 hR7947) (fun m7968 hF7964 hR7969 n7963 k7962 hk7962 => ?_)
      have hX7967 := hX7960.trans (bU_s hF7964)
      exact tJ204_100 (f := f) (by omega) hR7969 (fun m' e' => Hr m' (hX7967.trans e'))
  · have hX7970 := hX.trans (if_pos (Classical.not_not.mp hb7948))
    exact p_return c204_53 (Hr _ hX7970 hR7947 _)
def F204 (f : Nat) (x1 : Int) (x2 : Int) (m : yM) : Option yM := (if 0 < x2 then (J204_36 f x2 (yup m 408 (wr ((wr (12 * (m 398 (wr ((wr (10 * (m 376 18))) + x1)).toNat))) + (m 409 (wr (x2 - 1)).toNat))).toNat 1)) else (J204_36 f x2 m))
set_option maxRecDepth 100000 in
theorem d204 {L : Nat} {xs : Nat → Int32} {k d n : Nat} {c : yS3} {f : Nat} {x1 : Int} {x2 : Int} {m : yM} (hk : k ≤ f) (gx1 : rg x1) (gx2 : rg x2) (hR : RM c m) : PC (gZ L xs) k d 204 [.ref 376, yI x1, yI x2] m n (qV c (F204 f x1 x2 m)) := by
  have hX : F204 f x1 x2 m = F204 f x1 x2 m := rfl
  have Hr : ∀ m', F204 f x1 x2 m = some m' → RM c m' → ∀ n' : Nat, (qV c (F204 f x1 x2 m)) (.inl none) m' n' := fun m' e h n' => ⟨rfl, h, e⟩
  refine PC.mk [some (.ref 376), some (yI x1), some (yI x2), none] kn204 rfl ?_
  refine p_iload 1 c204_0 rfl rfl ?_
  refine p_if 36 4 c204_1 rfl rfl ((yz_le gx2).trans Int.not_lt.symm) (fun hb7943 k7944 hk7944 => ?_) (fun hb7943 k7945 hk7945 => ?_)
  · have hX7946 := hX.trans (if_neg hb7943)
    exact tJ204_36 (f := f) (by omega) gx2 hR (fun m' e' => Hr m' (hX7946.trans e'))
  · have hX7971 := hX.trans (if_pos (Classical.not_not.mp hb7943))
    refine p_aload 5 c204_4 rfl rfl ?_
    refine p_getR 8 c204_5 rfl kf376_48 ?_
    refine p_iconst 10 c204_8 rfl ?_
    refine p_aload 11 c204_10 rfl rfl ?_
    refine p_getR 14 c204_11 rfl kf376_35 ?_
    refine p_iconst 16 c204_14 rfl ?_
    refine p_aload 17 c204_16 rfl rfl ?_
    refine p_getX 20 (m 376 18) c204_17 rfl kf376_18 rfl ?_
    refine p_imul 21 c204_20 rfl ?_
    refine p_iload 22 c204_21 rfl rfl ?_
    refine p_iadd 23 c204_22 rfl ?_
    refine p_iaX 24 (m 398 (wr ((wr (10 * (m 376 18))) + x1)).toNat) c204_23 rfl ka398 (rg_wr _) rfl (fun hx7972 => ?_)
    refine p_imul 25 c204_24 rfl ?_
    refine p_aload 26 c204_25 rfl rfl ?_
    refine p_getR 29 c204_26 rfl kf376_49 ?_
    refine p_iload 30 c204_29 rfl rfl ?_
    refine p_iconst 31 c204_30 rfl ?_
    refine p_isub 32 c204_31 rfl ?_
    refine p_iaX 33 (m 409 (wr (x2 - 1)).toNat) c204_32 rfl ka409 (rg_wr _) rfl (fun hx7973 => ?_)
    refine p_iadd 34 c204_33 rfl ?_
    refine p_iconst 35 c204_34 rfl ?_
    refine p_iaS 36 c204_35 rfl ka408 (rg_wr _) 1 rfl (fun hx7974 => ?_)
    have hR7975 := hR.up 408 (wr ((wr (12 * (m 398 (wr ((wr (10 * (m 376 18))) + x1)).toNat))) + (m 409 (wr (x2 - 1)).toNat))).toNat (v := 1) (nselA (by decide)) (rgD rfl)
    exact tJ204_36 (f := f) (by omega) gx2 hR7975 (fun m' e' => Hr m' (hX7971.trans e'))
def J210_179 (f : Nat) (xs1 : Int) (m : yM) : Option yM := (some (yup m 376 55 xs1))
set_option maxRecDepth 100000 in
theorem tJ210_179 {L : Nat} {xs : Nat → Int32} {Q : xO → yM → Nat → Prop} {k d n : Nat} {c : yS3} {f : Nat} {xs1 : Int} {m : yM} {j0 j1 j2 : Option Value} (hk : k ≤ f) (gxs1 : rg xs1) (hR : RM c m) (Hr : ∀ m', J210_179 f xs1 m = some m' → RM c m' → ∀ n', Q (.inl none) m' n') : PW (gZ L xs) k 210 d 179 [j0, j1, j2] [yI xs1, .ref 376] m n Q := by
  have hX : J210_179 f xs1 m = J210_179 f xs1 m := rfl
  refine p_putI 182 c210_179 rfl kf376_55 ?_
  have hR7624 := hR.up 376 55 (v := xs1) (nselD rfl) gxs1
  refine p_goto 214 c210_182 rfl ?_
  exact p_return c210_214 (Hr _ hX hR7624 _)
def J210_146 (f : Nat) (x1 : Int) (m : yM) : Option yM := (if 0 < F205 (m 403 (wr (x1 + 2)).toNat) m then (J210_179 f (wr ((m 376 55) + 1)) m) else (J210_179 f (m 403 (wr (x1 + 3)).toNat) m))
set_option maxRecDepth 100000 in
theorem tJ210_146 {L : Nat} {xs : Nat → Int32} {Q : xO → yM → Nat → Prop} {k d n : Nat} {c : yS3} {f : Nat} {x1 : Int} {m : yM} {j2 : Option Value} (hk : k ≤ f) (gx1 : rg x1) (hR : RM c m) (Hr : ∀ m', J210_146 f x1 m = some m' → RM c m' → ∀ n', Q (.inl none) m' n') : PW (gZ L xs) k 210 d 146 [some (.ref 376), some (yI x1), j2] [] m n Q := by
  have hX : J210_146 f x1 m = J210_146 f x1 m := rfl
  refine p_aload 147 c210_146 rfl rfl ?_
  refine p_aload 148 c210_147 rfl rfl ?_
  refine p_aload 149 c210_148 rfl rfl ?_
  refine p_getR 152 c210_149 rfl kf376_40 ?_
  refine p_iload 153 c210_152 rfl rfl ?_
  refine p_iconst 154 c210_153 rfl ?_
  refine p_iadd 155 c210_154 rfl ?_
  refine p_iaX 156 (m 403 (wr (x1 + 2)).toNat) c210_155 rfl ka403 (rg_wr _) rfl (fun hx7614 => ?_)
  refine p_cX 159 [.ref 376, yI (m 403 (wr (x1 + 2)).toNat)] [.ref 376] c210_156 rfl rfl rfl (fun k' hk' d' => d205 (hR.rg _ _) hR) (fun hg7618 n7616 k7615 hk7615 => ?_)
  refine p_if 171 162 c210_159 rfl rfl ((yz_le hg7618).trans Int.not_lt.symm) (fun hb7619 k7620 hk7620 => ?_) (fun hb7619 k7621 hk7621 => ?_)
  · have hX7622 := hX.trans (if_neg hb7619)
    refine p_aload 172 c210_171 rfl rfl ?_
    refine p_getR 175 c210_172 rfl kf376_40 ?_
    refine p_iload 176 c210_175 rfl rfl ?_
    refine p_iconst 177 c210_176 rfl ?_
    refine p_iadd 178 c210_177 rfl ?_
    refine p_iaX 179 (m 403 (wr (x1 + 3)).toNat) c210_178 rfl ka403 (rg_wr _) rfl (fun hx7623 => ?_)
    exact tJ210_179 (f := f) (by omega) (hR.rg _ _) hR (fun m' e' => Hr m' (hX7622.trans e'))
  · have hX7625 := hX.trans (if_pos (Classical.not_not.mp hb7619))
    refine p_aload 163 c210_162 rfl rfl ?_
    refine p_getX 166 (m 376 55) c210_163 rfl kf376_55 rfl ?_
    refine p_iconst 167 c210_166 rfl ?_
    refine p_iadd 168 c210_167 rfl ?_
    refine p_goto 179 c210_168 rfl ?_
    exact tJ210_179 (f := f) (by omega) (rg_wr _) hR (fun m' e' => Hr m' (hX7625.trans e'))
def J210_40 (f : Nat) (x1 : Int) (x2 : Int) (m : yM) : Option yM := (if 200 < m 376 56 then (some (yup m 376 57 4)) else (if x2 = 11 then (some (yup m 376 55 (m 403 (wr (x1 + 3)).toNat))) else (if x2 = 12 then (bU (F204 f (m 403 (wr (x1 + 1)).toNat) 0 m) (fun m7990 => (some m7990))) else (if x2 = 6 then (bU (F204 f (m 403 (wr (x1 + 1)).toNat) (F205 (m 403 (wr (x1 + 2)).toNat) m) m) (fun m7980 => (some m7980))) else (if x2 = 9 then (J210_146 f x1 m) else (if x2 = 10 then (J210_146 f x1 m) else (if x2 = 7 then (bU (F207 f x1 m) (fun m7932 => (some m7932))) else (bU (F209 f x1 m) (fun m7845 => (some (yup m7845 376 55 (wr ((m7845 376 55) + 1)))))))))))))
set_option maxRecDepth 100000 in
theorem tJ210_40 {L : Nat} {xs : Nat → Int32} {Q : xO → yM → Nat → Prop} {k d n : Nat} {c : yS3} {f : Nat} {x1 : Int} {x2 : Int} {m : yM} (hk : k ≤ f) (gx1 : rg x1) (gx2 : rg x2) (hR : RM c m) (Hr : ∀ m', J210_40 f x1 x2 m = some m' → RM c m' → ∀ n', Q (.inl none) m' n') : PW (gZ L xs) k 210 d 40 [some (.ref 376), some (yI x1), some (yI x2)] [] m n Q := by
  have hX : J210_40 f x1 x2 m = J210_40 f x1 x2 m := rfl
  refine p_aload 41 c210_40 rfl rfl ?_
  refine p_getX 44 (m 376 56) c210_41 rfl kf376_56 rfl ?_
  refine p_iconst 47 c210_44 rfl ?_
  refine p_icmp 58 50 c210_47 rfl rfl ((yc_le (hR.rg _ _) (rgD rfl)).trans Int.not_lt.symm) (fun hb7594 k7595 hk7595 => ?_) (fun hb7594 k7596 hk7596 => ?_)
  · have hX7597 := hX.trans (if_neg hb7594)
    refine p_iload 59 c210_58 rfl rfl ?_
    refine p_iconst 61 c210_59 rfl ?_
    refine p_icmp 79 64 c210_61 rfl rfl (yc_ne gx2 (rgD rfl)) (fun hb7598 k7599 hk7599 => ?_) (fun hb7598 k7600 hk7600 => ?_)
    · have hX7601 := hX7597.trans (if_neg hb7598)
      refine p_iload 80 c210_79 rfl rfl ?_
      refine p_iconst 82 c210_80 rfl ?_
      refine p_icmp 101 85 c210_82 rfl rfl (yc_ne gx2 (rgD rfl)) (fun hb7602 k7603 hk7603 => ?_) (fun hb7602 k7604 hk7604 => ?_)
      · have hX7605 := hX7601.trans (if_neg hb7602)
        refine p_iload 102 c210_101 rfl rfl ?_
        refine p_iconst 104 c210_102 rfl ?_
        refine p_icmp 134 107 c210_104 rfl rfl (yc_ne gx2 (rgD rfl)) (fun hb7606 k7607 hk7607 => ?_) (fun hb7606 k7608 hk7608 => ?_)
        · have hX7609 := hX7605.trans (if_neg hb7606)
          refine p_iload 135 c210_134 rfl rfl ?_
          refine p_iconst 137 c210_135 rfl ?_
          refine p_icmp 146 140 c210_137 rfl rfl (yc_eq gx2 (rgD rfl)) (fun hb7610 k7611 hk7611 => ?_) (fun hb7610 k7612 hk7612 => ?_)
          · have hX7613 := hX7609.trans (if_pos hb7610)
            exact tJ210_146 (f := f) (by omega) gx1 hR (fun m' e' => Hr m' (hX7613.trans e'))
          · have hX7626 := hX7609.trans (if_neg hb7610)
            refine p_iload 141 c210_140 rfl rfl ?_
            refine p_iconst 143 c210_141 rfl ?_
            refine p_icmp 185 146 c210_143 rfl rfl (yc_ne gx2 (rgD rfl)) (fun hb7627 k7628 hk7628 => ?_) (fun hb7627 k7629 hk7629 => ?_)
            · have hX7630 := hX7626.trans (if_neg hb7627)
              refine p_iload 186 c210_185 rfl rfl ?_
              refine p_iconst 188 c210_186 rfl ?_
              refine p_icmp 199 191 c210_188 rfl rfl (yc_ne gx2 (rgD rfl)) (fun hb7631 k7632 hk7632 => ?_) (fun hb7631 k7633 hk7633 => ?_)
              · have hX7634 := hX7630.trans (if_neg hb7631)
                refine p_aload 200 c210_199 rfl rfl ?_
                refine p_iload 201 c210_200 rfl rfl ?_
                refine p_cV 204 [.ref 376, yI x1] [] c210_201 rfl rfl rfl (fun k' hk' d' => d209 (f := f) (by omega) gx1 hR) (fun m7845 hF7841 hR7846 n7636 k7635 hk7635 => ?_)
                have hX7844 := hX7634.trans (bU_s hF7841)
                refine p_aload 205 c210_204 rfl rfl ?_
                refine p_dup 206 c210_205 rfl rfl ?_
                refine p_getX 209 (m7845 376 55) c210_206 rfl kf376_55 rfl ?_
                refine p_iconst 210 c210_209 rfl ?_
                refine p_iadd 211 c210_210 rfl ?_
                refine p_putI 214 c210_211 rfl kf376_55 ?_
                have hR7847 := hR7846.up 376 55 (v := wr ((m7845 376 55) + 1)) (nselD rfl) (rg_wr _)
                exact p_return c210_214 (Hr _ hX7844 hR7847 _)
              · have hX7848 := hX7630.trans (if_pos (Classical.not_not.mp hb7631))
                refine p_aload 192 c210_191 rfl rfl ?_
                refine p_iload 193 c210_192 rfl rfl ?_
                refine p_cV 196 [.ref 376, yI x1] [] c210_193 rfl rfl rfl (fun k' hk' d' => d207 (f := f) (by omega) gx1 hR) (fun m7932 hF7928 hR7933 n7850 k7849 hk7849 => ?_)
                have hX7931 := hX7848.trans (bU_s hF7928)
                refine p_goto 214 c210_196 rfl ?_
                exact p_return c210_214 (Hr _ hX7931 hR7933 _)
            · have hX7934 := hX7626.trans (if_pos (Classical.not_not.mp hb7627))
              exact tJ210_146 (f := f) (by omega) gx1 hR (fun m' e' => Hr m' (hX7934.trans e'))
        · have hX7935 := hX7605.trans (if_pos (Classical.not_not.mp hb7606))
          refine p_aload 108 c210_107 rfl rfl ?_
          refine p_aload 109 c210_108 rfl rfl ?_
          refine p_getR 112 c210_109 rfl kf376_40 ?_
          refine p_iload 113 c210_112 rfl rfl ?_
          refine p_iconst 114 c210_113 rfl ?_
          refine p_iadd 115 c210_114 rfl ?_
          refine p_iaX 116 (m 403 (wr (x1 + 1)).toNat) c210_115 rfl ka403 (rg_wr _) rfl (fun hx7936 => ?_)
          refine p_aload 117 c210_116 rfl rfl ?_
          refine p_aload 118 c210_117 rfl rfl ?_
          refine p_getR 121 c210_118 rfl kf376_40 ?_
          refine p_iload 122 c210_121 rfl rfl ?_
          refine p_iconst 123 c210_122 rfl ?_
          refine p_iadd 124 c210_123 rfl ?_
          refine p_iaX 125 (m 403 (wr (x1 + 2)).toNat) c210_124 rfl ka403 (rg_wr _) rfl (fun hx7937 => ?_)
          refine p_cX 128 [.ref 376, yI (m 403 (wr (x1 + 2)).toNat)] [yI (m 403 (wr (x1 + 1)).toNat), .ref 376] c210_125 rfl rfl rfl (fun k' hk' d' => d205 (hR.rg _ _) hR) (fun hg7940 n7939 k7938 hk7938 => ?_)
          refine p_cV 131 [.ref 376, yI (m 403 (wr (x1 + 1)).toNat), yI (F205 (m 403 (wr (x1 + 2)).toNat) m)] [] c210_128 rfl rfl rfl (fun k' hk' d' => d204 (f := f) (by omega) (hR.rg _ _) hg7940 hR) (fun m7980 hF7976 hR7981 n7942 k7941 hk7941 => ?_)
          have hX7979 := hX7935.trans (bU_s hF7976)
          refine p_goto 214 c210_131 rfl ?_
          exact p_return c210_214 (Hr _ hX7979 hR7981 _)
      · have hX7982 := hX7601.trans (if_pos (Classical.not_not.mp hb7602))
        refine p_aload 86 c210_85 rfl rfl ?_
        refine p_aload 87 c210_86 rfl rfl ?_
        refine p_getR 90 c210_87 rfl kf376_40 ?_
        refine p_iload 91 c210_90 rfl rfl ?_
        refine p_iconst 92 c210_91 rfl ?_
        refine p_iadd 93 c210_92 rfl ?_
        refine p_iaX 94 (m 403 (wr (x1 + 1)).toNat) c210_93 rfl ka403 (rg_wr _) rfl (fun hx7983 => ?_)
        refine p_iconst 95 c210_94 rfl ?_
        refine p_cV 98 [.ref 376, yI (m 403 (wr (x1 + 1)).toNat), yI 0] [] c210_95 rfl rfl rfl (fun k' hk' d' => d204 (f := f) (by omega) (hR.rg _ _) (rgD rfl) hR) (fun m7990 hF7986 hR7991 n7985 k7984 hk7984 => ?_)
        have hX7989 := hX7982.trans (bU_s hF7986)
        refine p_goto 214 c210_98 rfl ?_
        exact p_return c210_214 (Hr _ hX7989 hR7991 _)
    · have hX7992 := hX7597.trans (if_pos (Classical.not_not.mp hb7598))
      refine p_aload 65 c210_64 rfl rfl ?_
      refine p_aload 66 c210_65 rfl rfl ?_
      refine p_getR 69 c210_66 rfl kf376_40 ?_
      refine p_iload 70 c210_69 rfl rfl ?_
      refine p_iconst 71 c210_70 rfl ?_
      refine p_iadd 72 c210_71 rfl ?_
      refine p_iaX 73 (m 403 (wr (x1 + 3)).toNat) c210_72 rfl ka403 (rg_wr _) rfl (fun hx7993 => ?_)
      refine p_putI 76 c210_73 rfl kf376_55 ?_
      have hR7994 := hR.up 376 55 (v := m 403 (wr (x1 + 3)).toNat) (nselD rfl) (hR.rg _ _)
      refine p_goto 214 c210_76 rfl ?_
      exact p_return c210_214 (Hr _ hX7992 hR7994 _)
  · have hX7995 := hX.trans (if_pos (Classical.not_not.mp hb7594))
    refine p_aload 51 c210_50 rfl rfl ?_
    refine p_iconst 52 c210_51 rfl ?_
    refine p_putI 55 c210_52 rfl kf376_57 ?_
    have hR7996 := hR.up 376 57 (v := 4) (nselD rfl) (rgD rfl)
    refine p_goto 214 c210_55 rfl ?_
    exact p_return c210_214 (Hr _ hX7995 hR7996 _)
def F210 (f : Nat) (m : yM) : Option yM := (if m 403 (wr ((wr (1000 * (m 376 18))) + (wr (8 * (m 376 55))))).toNat < 11 then (J210_40 f (wr ((wr (1000 * (m 376 18))) + (wr (8 * (m 376 55))))) (m 403 (wr ((wr (1000 * (m 376 18))) + (wr (8 * (m 376 55))))).toNat) (yup m 376 56 (wr ((m 376 56) + 1)))) else (J210_40 f (wr ((wr (1000 * (m 376 18))) + (wr (8 * (m 376 55))))) (m 403 (wr ((wr (1000 * (m 376 18))) + (wr (8 * (m 376 55))))).toNat) m))
set_option maxRecDepth 100000 in
theorem d210 {L : Nat} {xs : Nat → Int32} {k d n : Nat} {c : yS3} {f : Nat} {m : yM} (hk : k ≤ f) (hR : RM c m) : PC (gZ L xs) k d 210 [.ref 376] m n (qV c (F210 f m)) := by
  have hX : F210 f m = F210 f m := rfl
  have Hr : ∀ m', F210 f m = some m' → RM c m' → ∀ n' : Nat, (qV c (F210 f m)) (.inl none) m' n' := fun m' e h n' => ⟨rfl, h, e⟩
  refine PC.mk [some (.ref 376), none, none] kn210 rfl ?_
  refine p_iconst 3 c210_0 rfl ?_
  refine p_aload 4 c210_3 rfl rfl ?_
  refine p_getX 7 (m 376 18) c210_4 rfl kf376_18 rfl ?_
  refine p_imul 8 c210_7 rfl ?_
  refine p_iconst 10 c210_8 rfl ?_
  refine p_aload 11 c210_10 rfl rfl ?_
  refine p_getX 14 (m 376 55) c210_11 rfl kf376_55 rfl ?_
  refine p_imul 15 c210_14 rfl ?_
  refine p_iadd 16 c210_15 rfl ?_
  refine p_istore 17 c210_16 rfl rfl ?_
  refine p_aload 18 c210_17 rfl rfl ?_
  refine p_getR 21 c210_18 rfl kf376_40 ?_
  refine p_iload 22 c210_21 rfl rfl ?_
  refine p_iaX 23 (m 403 (wr ((wr (1000 * (m 376 18))) + (wr (8 * (m 376 55))))).toNat) c210_22 rfl ka403 (rg_wr _) rfl (fun hx7589 => ?_)
  refine p_istore 24 c210_23 rfl rfl ?_
  refine p_iload 25 c210_24 rfl rfl ?_
  refine p_iconst 27 c210_25 rfl ?_
  refine p_icmp 40 30 c210_27 rfl rfl ((yc_ge (hR.rg _ _) (rgD rfl)).trans Int.not_lt.symm) (fun hb7590 k7591 hk7591 => ?_) (fun hb7590 k7592 hk7592 => ?_)
  · have hX7593 := hX.trans (if_neg hb7590)
    exact tJ210_40 (f := f) (by omega) (rg_wr _) (hR.rg _ _) hR (fun m' e' => Hr m' (hX7593.trans e'))
  · have hX7997 := hX.trans (if_pos (Classical.not_not.mp hb7590))
    refine p_aload 31 c210_30 rfl rfl ?_
    refine p_dup 32 c210_31 rfl rfl ?_
    refine p_getX 35 (m 376 56) c210_32 rfl kf376_56 rfl ?_
    refine p_iconst 36 c210_35 rfl ?_
    refine p_iadd 37 c210_36 rfl ?_
    refine p_putI 40 c210_37 rfl kf376_56 ?_
    have hR7998 := hR.up 376 56 (v := wr ((m 376 56) + 1)) (nselD rfl) (rg_wr _)
    exact tJ210_40 (f := f) (by omega) (rg_wr _) (hR.rg _ _) hR7998 (fun m' e' => Hr m' (hX7997.trans e'))
