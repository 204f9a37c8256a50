/-! FUNCTIONS OF THE METHODS: printed by wip/fn/dc.py -/
def B211_30 (f : Nat) (x1 : Int) (m : yM) : Option ((Int × yM) ⊕ ((Int × yM) ⊕ (Int × yM))) := (if x1 < 576 then (some (.inl ((wr (x1 + 1)), yup m 408 x1.toNat 0))) else (some (.inr (.inl (x1, m)))))
set_option maxRecDepth 100000 in
theorem tB211_30 {L : Nat} {xs : Nat → Int32} {Q : xO → yM → Nat → Prop} {k d n : Nat} {c : yS3} {f : Nat} {x1 : Int} {m : yM} (hk : k ≤ f) (gx1 : rg x1) (hR : RM c m) (Hn : ∀ (y0 : Int) (m' : yM) (n' : Nat), B211_30 f x1 m = some (.inl (y0, m')) → rg y0 → RM c m' → ∀ k', k' < k → PW (gZ L xs) k' 211 d 30 [some (.ref 376), some (yI y0)] [] m' n' Q) (He : ∀ (y0 : Int) (m' : yM) (n' : Nat), B211_30 f x1 m = some (.inr (.inl (y0, m'))) → rg y0 → RM c m' → ∀ k', k' ≤ k → PW (gZ L xs) k' 211 d 50 [some (.ref 376), some (yI y0)] [] m' n' Q) (Hr : ∀ r m', B211_30 f x1 m = some (.inr (.inr (r, m'))) → rg r → RM c m' → ∀ n', Q (.inl (some (yI r))) m' n') : PW (gZ L xs) k 211 d 30 [some (.ref 376), some (yI x1)] [] m n Q := by
  have hX : B211_30 f x1 m = B211_30 f x1 m := rfl
  refine p_iload 31 c211_30 rfl rfl ?_
  refine p_iconst 34 c211_31 rfl ?_
  refine p_icmp 50 37 c211_34 rfl rfl ((yc_ge gx1 (rgD rfl)).trans Int.not_lt.symm) (fun hb7434 k7435 hk7435 => ?_) (fun hb7434 k7436 hk7436 => ?_)
  · have hX7437 := hX.trans (if_neg hb7434)
    exact He _ _ _ hX7437 gx1 hR _ (by omega)
  · have hX7438 := hX.trans (if_pos (Classical.not_not.mp hb7434))
    refine p_aload 38 c211_37 rfl rfl ?_
    refine p_getR 41 c211_38 rfl kf376_48 ?_
    refine p_iload 42 c211_41 rfl rfl ?_
    refine p_iconst 43 c211_42 rfl ?_
    refine p_iaS 44 c211_43 rfl ka408 gx1 0 rfl (fun hx7439 => ?_)
    have hR7440 := hR.up 408 x1.toNat (v := 0) (nselA (by decide)) (rgD rfl)
    refine p_iinc 47 c211_44 rfl rfl rfl ?_
    refine p_gotoD 30 c211_47 rfl (fun k7441 hk7441 => ?_)
    exact Hn _ _ _ hX7438 (rg_wr _) hR7440 _ (by omega)
def B211_83 (f : Nat) (m : yM) : Option ((Unit × yM) ⊕ ((Unit × yM) ⊕ (Int × yM))) := (if m 376 57 = 0 then (if 0 < m 376 54 then (bU (F210 f m) (fun m8003 => (some (.inl ((), m8003))))) else (some (.inr (.inl ((), m))))) else (some (.inr (.inl ((), m)))))
set_option maxRecDepth 100000 in
theorem tB211_83 {L : Nat} {xs : Nat → Int32} {Q : xO → yM → Nat → Prop} {k d n : Nat} {c : yS3} {f : Nat} {m : yM} {j1 : Option Value} (hk : k ≤ f) (hR : RM c m) (Hn : ∀ (z0 : Option Value) (m' : yM) (n' : Nat), B211_83 f m = some (.inl ((), m')) → RM c m' → ∀ k', k' < k → PW (gZ L xs) k' 211 d 83 [some (.ref 376), z0] [] m' n' Q) (He : ∀ (z0 : Option Value) (m' : yM) (n' : Nat), B211_83 f m = some (.inr (.inl ((), m'))) → RM c m' → ∀ k', k' ≤ k → PW (gZ L xs) k' 211 d 104 [some (.ref 376), z0] [] m' n' Q) (Hr : ∀ r m', B211_83 f m = some (.inr (.inr (r, m'))) → rg r → RM c m' → ∀ n', Q (.inl (some (yI r))) m' n') : PW (gZ L xs) k 211 d 83 [some (.ref 376), j1] [] m n Q := by
  have hX : B211_83 f m = B211_83 f m := rfl
  refine p_aload 84 c211_83 rfl rfl ?_
  refine p_getX 87 (m 376 57) c211_84 rfl kf376_57 rfl ?_
  refine p_if 104 90 c211_87 rfl rfl (yz_ne (hR.rg _ _)) (fun hb7577 k7578 hk7578 => ?_) (fun hb7577 k7579 hk7579 => ?_)
  · have hX7580 := hX.trans (if_neg hb7577)
    exact He _ _ _ hX7580 hR _ (by omega)
  · have hX7581 := hX.trans (if_pos (Classical.not_not.mp hb7577))
    refine p_aload 91 c211_90 rfl rfl ?_
    refine p_getX 94 (m 376 54) c211_91 rfl kf376_54 rfl ?_
    refine p_if 104 97 c211_94 rfl rfl ((yz_le (hR.rg _ _)).trans Int.not_lt.symm) (fun hb7582 k7583 hk7583 => ?_) (fun hb7582 k7584 hk7584 => ?_)
    · have hX7585 := hX7581.trans (if_neg hb7582)
      exact He _ _ _ hX7585 hR _ (by omega)
    · have hX7586 := hX7581.trans (if_pos (Classical.not_not.mp hb7582))
      refine p_aload 98 c211_97 rfl rfl ?_
      refine p_cV 101 [.ref 376] [] c211_98 rfl rfl rfl (fun k' hk' d' => d210 (f := f) (by omega) hR) (fun m8003 hF7999 hR8004 n7588 k7587 hk7587 => ?_)
      have hX8002 := hX7586.trans (bU_s hF7999)
      refine p_gotoD 83 c211_101 rfl (fun k8005 hk8005 => ?_)
      exact Hn _ _ _ hX8002 hR8004 _ (by omega)
def J211_104 (f : Nat) (m : yM) : Option (Int × yM) := (if m 376 57 = 0 then (some (m 376 56, m)) else (some (0, m)))
set_option maxRecDepth 100000 in
theorem tJ211_104 {L : Nat} {xs : Nat → Int32} {Q : xO → yM → Nat → Prop} {k d n : Nat} {c : yS3} {f : Nat} {m : yM} {j1 : Option Value} (hk : k ≤ f) (hR : RM c m) (Hr : ∀ r m', J211_104 f m = some (r, m') → rg r → RM c m' → ∀ n', Q (.inl (some (yI r))) m' n') : PW (gZ L xs) k 211 d 104 [some (.ref 376), j1] [] m n Q := by
  have hX : J211_104 f m = J211_104 f m := rfl
  refine p_aload 105 c211_104 rfl rfl ?_
  refine p_getX 108 (m 376 57) c211_105 rfl kf376_57 rfl ?_
  refine p_if 118 111 c211_108 rfl rfl (yz_ne (hR.rg _ _)) (fun hb8015 k8016 hk8016 => ?_) (fun hb8015 k8017 hk8017 => ?_)
  · have hX8018 := hX.trans (if_neg hb8015)
    refine p_iconst 119 c211_118 rfl ?_
    exact p_ireturn c211_119 (Hr _ _ hX8018 (rgD rfl) hR _)
  · have hX8019 := hX.trans (if_pos (Classical.not_not.mp hb8015))
    refine p_aload 112 c211_111 rfl rfl ?_
    refine p_getX 115 (m 376 56) c211_112 rfl kf376_56 rfl ?_
    refine p_goto 119 c211_115 rfl ?_
    exact p_ireturn c211_119 (Hr _ _ hX8019 (hR.rg _ _) hR _)
def J211_20 (f : Nat) (xs1 : Int) (m : yM) : Option (Int × yM) := (bI (F162 f xs1 m) (fun r7426 m7428 => (if r7426 = 0 then (some (0, m7428)) else (bL (yloop (fun (l : Int) ml => B211_30 f l ml) f 0 m7428) (fun l7442 m7448 => (bI (F201 f 0 (yup (yup (yup m7448 376 51 0) 376 54 0) 376 56 0)) (fun r7484 m7486 => (bP (F143 f m7486) (fun r7492 => (bU (F203 f r7492 r7484 0 0 0 m7486) (fun m7575 => (bL (yloop (fun (l : Unit) ml => B211_83 f ml) f () m7575) (fun _ m8012 => (J211_104 f m8012)) (fun r mr => some (r, mr)))))))))) (fun r mr => some (r, mr))))))
set_option maxRecDepth 100000 in
theorem tJ211_20 {L : Nat} {xs : Nat → Int32} {Q : xO → yM → Nat → Prop} {k d n : Nat} {c : yS3} {f : Nat} {xs1 : Int} {m : yM} {j1 : Option Value} (hk : k ≤ f) (gxs1 : rg xs1) (hR : RM c m) (Hr : ∀ r m', J211_20 f xs1 m = some (r, m') → rg r → RM c m' → ∀ n', Q (.inl (some (yI r))) m' n') : PW (gZ L xs) k 211 d 20 [some (.ref 376), j1] [yI xs1, .ref 376] m n Q := by
  have hX : J211_20 f xs1 m = J211_20 f xs1 m := rfl
  refine p_cS 23 [.ref 376, yI xs1] [] c211_20 rfl rfl rfl (fun k' hk' d' => d162 (f := f) (by omega) gxs1 hR) (fun r7426 m7428 hF7424 hg7425 hR7429 n7423 k7422 hk7422 => ?_)
  have hX7427 := hX.trans (bI_s hF7424)
  refine p_if 28 26 c211_23 rfl rfl (yz_ne hg7425) (fun hb7430 k7431 hk7431 => ?_) (fun hb7430 k7432 hk7432 => ?_)
  · have hX7433 := hX7427.trans (if_neg hb7430)
    refine p_iconst 29 c211_28 rfl ?_
    refine p_istore 30 c211_29 rfl rfl ?_
    refine PW.loop (K := k7431) (pce := 50) (fun (l : Int) ml => B211_30 f l ml) (fun (l : Int) j => [some (.ref 376), some (yI l)]) (fun (l : Int) => rg l) (RM c) (fun r' m' => rg r' → RM c m' → ∀ n' : Nat, Q (.inl (some (yI r'))) m' n') (fun k' hk' l j m' n' hl hI Hn' He' Hr' => tB211_30 (f := f) (by omega) hl hI (fun y0 m2 n2 e h0 hR2 => Hn' y0 (fun q => ([none, none] : List (Option Value)).getD q none) m2 n2 e h0 hR2) (fun y0 m2 n2 e h0 hR2 => He' y0 (fun q => ([none, none] : List (Option Value)).getD q none) m2 n2 e h0 hR2) Hr') f k7431 (by omega) (Nat.le_refl _) 0 (fun q => ([some (.ref 376), some (yI 0)] : xL).getD q none) _ _ (rgD rfl) hR7429 (fun l7442 j7445 m7448 n7447 e7444 hl7443 hR7449 k7446 hk7446 => ?_) (fun r' m' e' => ?_)
    · have hX7450 := hX7433.trans (bL_l e7444)
      refine p_aload 51 c211_50 rfl rfl ?_
      refine p_iconst 52 c211_51 rfl ?_
      refine p_putI 55 c211_52 rfl kf376_51 ?_
      have hR7451 := hR7449.up 376 51 (v := 0) (nselD rfl) (rgD rfl)
      refine p_aload 56 c211_55 rfl rfl ?_
      refine p_iconst 57 c211_56 rfl ?_
      refine p_putI 60 c211_57 rfl kf376_54 ?_
      have hR7452 := hR7451.up 376 54 (v := 0) (nselD rfl) (rgD rfl)
      refine p_aload 61 c211_60 rfl rfl ?_
      refine p_iconst 62 c211_61 rfl ?_
      refine p_putI 65 c211_62 rfl kf376_56 ?_
      have hR7453 := hR7452.up 376 56 (v := 0) (nselD rfl) (rgD rfl)
      refine p_aload 66 c211_65 rfl rfl ?_
      refine p_iconst 67 c211_66 rfl ?_
      refine p_cS 70 [.ref 376, yI 0] [] c211_67 rfl rfl rfl (fun k' hk' d' => d201 (f := f) (by omega) (rgD rfl) hR7453) (fun r7484 m7486 hF7482 hg7483 hR7487 n7455 k7454 hk7454 => ?_)
      have hX7485 := hX7450.trans (bI_s hF7482)
      refine p_istore 71 c211_70 rfl rfl ?_
      refine p_aload 72 c211_71 rfl rfl ?_
      refine p_aload 73 c211_72 rfl rfl ?_
      refine p_cO 76 [.ref 376] [.ref 376] c211_73 rfl rfl rfl (fun k' hk' d' => d143 (f := f) (by omega) hR7487) (fun r7492 hF7490 hg7491 n7489 k7488 hk7488 => ?_)
      have hX7493 := hX7485.trans (bP_s hF7490)
      refine p_iload 77 c211_76 rfl rfl ?_
      refine p_iconst 78 c211_77 rfl ?_
      refine p_iconst 79 c211_78 rfl ?_
      refine p_iconst 80 c211_79 rfl ?_
      refine p_cV 83 [.ref 376, yI r7492, yI r7484, yI 0, yI 0, yI 0] [] c211_80 rfl rfl rfl (fun k' hk' d' => d203 (f := f) (by omega) hg7491 hg7483 (rgD rfl) (rgD rfl) (rgD rfl) hR7487) (fun m7575 hF7571 hR7576 n7495 k7494 hk7494 => ?_)
      have hX7574 := hX7493.trans (bU_s hF7571)
      refine PW.loop (K := k7494) (pce := 104) (fun (l : Unit) ml => B211_83 f ml) (fun (l : Unit) j => [some (.ref 376), j 1]) (fun (l : Unit) => True) (RM c) (fun r' m' => rg r' → RM c m' → ∀ n' : Nat, Q (.inl (some (yI r'))) m' n') (fun k' hk' l j m' n' hl hI Hn' He' Hr' => tB211_83 (f := f) (by omega) hI (fun y0 m2 n2 e  hR2 => Hn' () (fun q => ([none, y0] : List (Option Value)).getD q none) m2 n2 e trivial hR2) (fun y0 m2 n2 e  hR2 => He' () (fun q => ([none, y0] : List (Option Value)).getD q none) m2 n2 e trivial hR2) Hr') f k7494 (by omega) (Nat.le_refl _) () (fun q => ([some (.ref 376), some (yI r7484)] : xL).getD q none) _ _ trivial hR7576 (fun l8006 j8009 m8012 n8011 e8008 hl8007 hR8013 k8010 hk8010 => ?_) (fun r' m' e' => ?_)
      · have hX8014 := hX7574.trans (bL_l e8008)
        exact tJ211_104 (f := f) (by omega) hR8013 (fun r' m' e' => Hr r' m' (hX8014.trans e'))
      · exact Hr r' m' (hX7574.trans (bL_r e'))
    · exact Hr r' m' (hX7433.trans (bL_r e'))
  · have hX8020 := hX7427.trans (if_pos (Classical.not_not.mp hb7430))
    refine p_iconst 27 c211_26 rfl ?_
    exact p_ireturn c211_27 (Hr _ _ hX8020 (rgD rfl) hR7429 _)
def J211_19 (f : Nat) (m : yM) : Option (Int × yM) := (J211_20 f 0 m)
set_option maxRecDepth 100000 in
theorem tJ211_19 {L : Nat} {xs : Nat → Int32} {Q : xO → yM → Nat → Prop} {k d n : Nat} {c : yS3} {f : Nat} {m : yM} {j1 : Option Value} (hk : k ≤ f) (hR : RM c m) (Hr : ∀ r m', J211_19 f m = some (r, m') → rg r → RM c m' → ∀ n', Q (.inl (some (yI r))) m' n') : PW (gZ L xs) k 211 d 19 [some (.ref 376), j1] [.ref 376] m n Q := by
  have hX : J211_19 f m = J211_19 f m := rfl
  refine p_iconst 20 c211_19 rfl ?_
  exact tJ211_20 (f := f) (by omega) (rgD rfl) hR (fun r' m' e' => Hr r' m' (hX.trans e'))
def F211 (f : Nat) (m : yM) : Option (Int × yM) := (if m 376 19 = 0 then (J211_19 f m) else (bP (F143 f m) (fun r8026 => (if r8026 < 0 then (J211_19 f m) else (J211_20 f 1 m)))))
set_option maxRecDepth 100000 in
theorem d211 {L : Nat} {xs : Nat → Int32} {k d n : Nat} {c : yS3} {f : Nat} {m : yM} (hk : k ≤ f) (hR : RM c m) : PC (gZ L xs) k d 211 [.ref 376] m n (qS c (F211 f m)) := by
  have hX : F211 f m = F211 f m := rfl
  have Hr : ∀ r m', F211 f m = some (r, m') → rg r → RM c m' → ∀ n' : Nat, (qS c (F211 f m)) (.inl (some (yI r))) m' n' := fun r m' e h1 h2 n' => ⟨r, rfl, h1, h2, e⟩
  refine PC.mk [some (.ref 376), none] kn211 rfl ?_
  refine p_aload 1 c211_0 rfl rfl ?_
  refine p_aload 2 c211_1 rfl rfl ?_
  refine p_getX 5 (m 376 19) c211_2 rfl kf376_19 rfl ?_
  refine p_if 19 8 c211_5 rfl rfl (yz_eq (hR.rg _ _)) (fun hb7418 k7419 hk7419 => ?_) (fun hb7418 k7420 hk7420 => ?_)
  · have hX7421 := hX.trans (if_pos hb7418)
    exact tJ211_19 (f := f) (by omega) hR (fun r' m' e' => Hr r' m' (hX7421.trans e'))
  · have hX8021 := hX.trans (if_neg hb7418)
    refine p_aload 9 c211_8 rfl rfl ?_
    refine p_cO 12 [.ref 376] [.ref 376] c211_9 rfl rfl rfl (fun k' hk' d' => d143 (f := f) (by omega) hR) (fun r8026 hF8024 hg8025 n8023 k8022 hk8022 => ?_)
    have hX8027 := hX8021.trans (bP_s hF8024)
    refine p_if 19 15 c211_12 rfl rfl (yz_lt hg8025) (fun hb8028 k8029 hk8029 => ?_) (fun hb8028 k8030 hk8030 => ?_)
    · have hX8031 := hX8027.trans (if_pos hb8028)
      exact tJ211_19 (f := f) (by omega) hR (fun r' m' e' => Hr r' m' (hX8031.trans e'))
    · have hX8032 := hX8027.trans (if_neg hb8028)
      refine p_iconst 16 c211_15 rfl ?_
      refine p_goto 20 c211_16 rfl ?_
      exact tJ211_20 (f := f) (by omega) (rgD rfl) hR (fun r' m' e' => Hr r' m' (hX8032.trans e'))
def J212_16 (f : Nat) (m : yM) : Option ((Int ⊕ Nat) × yM) := (some (.inr 11, m))
set_option maxRecDepth 100000 in
theorem tJ212_16 {L : Nat} {xs : Nat → Int32} {Q : xO → yM → Nat → Prop} {k d n : Nat} {c : yS3} {f : Nat} {m : yM} {j0 j1 j2 : Option Value} (hk : k ≤ f) (hR : RM c m) (Hr : ∀ r m', J212_16 f m = some (.inl r, m') → rg r → RM c m' → ∀ n', Q (.inl (some (yI r))) m' n') (Ht : ∀ e m', J212_16 f m = some (.inr e, m') → (fun e => e = 11) e → RM c m' → ∀ x n', Q (.inr (e, x)) m' n') : PW (gZ L xs) k 212 d 16 [j0, j1, j2] [] m n Q := by
  have hX : J212_16 f m = J212_16 f m := rfl
  exact p_throw c212_16 (fun x n' => Ht _ _ hX rfl hR x n')
def F212 (f : Nat) (x1 : Int) (x2 : Int) (m : yM) : Option ((Int ⊕ Nat) × yM) := (if F156 x1 m = 0 then (J212_16 f m) else (if F157 x2 m = 0 then (J212_16 f m) else (if 0 ≤ x1 ∧ x1 < ((48 : Nat) : Int) then (some (.inl (m (171 + (x1).toNat) x2.toNat), m)) else none)))
set_option maxRecDepth 100000 in
theorem d212 {L : Nat} {xs : Nat → Int32} {k d n : Nat} {c : yS3} {f : Nat} {x1 : Int} {x2 : Int} {m : yM} (hk : k ≤ f) (gx1 : rg x1) (gx2 : rg x2) (hR : RM c m) : PC (gZ L xs) k d 212 [.ref 0, yI x1, yI x2] m n (qEI (fun e => e = 11) c (F212 f x1 x2 m)) := by
  have hX : F212 f x1 x2 m = F212 f x1 x2 m := rfl
  have Hr : ∀ r m', F212 f x1 x2 m = some (.inl r, m') → rg r → RM c m' → ∀ n' : Nat, (qEI (fun e => e = 11) c (F212 f x1 x2 m)) (.inl (some (yI r))) m' n' := fun r m' e h1 h2 n' => Or.inl ⟨r, rfl, h1, h2, e⟩
  have Ht : ∀ e m', F212 f x1 x2 m = some (.inr e, m') → (fun e => e = 11) e → RM c m' → ∀ x n' : Nat, (qEI (fun e => e = 11) c (F212 f x1 x2 m)) (.inr (e, x)) m' n' := fun e m' e1 h1 h2 x n' => Or.inr ⟨e, x, rfl, h1, h2, e1⟩
  refine PC.mk [some (.ref 0), some (yI x1), some (yI x2)] kn212 rfl ?_
  refine p_aload 1 c212_0 rfl rfl ?_
  refine p_iload 2 c212_1 rfl rfl ?_
  refine p_cX 5 [.ref 0, yI x1] [] c212_2 rfl rfl rfl (fun k' hk' d' => d156 gx1 hR) (fun hg8050 n8049 k8048 hk8048 => ?_)
  refine p_if 16 8 c212_5 rfl rfl (yz_eq hg8050) (fun hb8051 k8052 hk8052 => ?_) (fun hb8051 k8053 hk8053 => ?_)
  · have hX8054 := hX.trans (if_pos hb8051)
    exact tJ212_16 (f := f) (by omega) hR (fun r' m' e' => Hr r' m' (hX8054.trans e')) (fun r' m' e' => Ht r' m' (hX8054.trans e'))
  · have hX8055 := hX.trans (if_neg hb8051)
    refine p_aload 9 c212_8 rfl rfl ?_
    refine p_iload 10 c212_9 rfl rfl ?_
    refine p_cX 13 [.ref 0, yI x2] [] c212_10 rfl rfl rfl (fun k' hk' d' => d157 gx2 hR) (fun hg8058 n8057 k8056 hk8056 => ?_)
    refine p_if 24 16 c212_13 rfl rfl (yz_ne hg8058) (fun hb8059 k8060 hk8060 => ?_) (fun hb8059 k8061 hk8061 => ?_)
    · have hX8062 := hX8055.trans (if_neg hb8059)
      refine p_aload 25 c212_24 rfl rfl ?_
      refine p_getR 28 c212_25 rfl kf0_3 ?_
      refine p_getR 31 c212_28 rfl kf169_0 ?_
      refine p_iload 32 c212_31 rfl rfl ?_
      refine p_aaX 33 c212_32 rfl kr170 gx1 (fun hx8063 => ?_)
      have hX8064 := hX8062.trans (if_pos hx8063)
      refine p_iload 34 c212_33 rfl rfl ?_
      refine p_iaX 35 (m (171 + (x1).toNat) x2.toNat) c212_34 rfl (kR170 hx8063) gx2 rfl (fun hx8065 => ?_)
      exact p_ireturn c212_35 (Hr _ _ hX8064 (hR.rg _ _) hR _)
    · have hX8066 := hX8055.trans (if_pos (Classical.not_not.mp hb8059))
      exact tJ212_16 (f := f) (by omega) hR (fun r' m' e' => Hr r' m' (hX8066.trans e')) (fun r' m' e' => Ht r' m' (hX8066.trans e'))
def F213 (f : Nat) (x1 : Int) (x2 : Int) (m : yM) : Option (Int × yM) := (bT (F212 f x1 x2 m) (fun r8069 m8071 => (some (0, yup m8071 413 0 ((i2l r8069).toInt)))) (fun e' m8071 => (if e' = 11 then (some (1, m8071)) else none)))
set_option maxRecDepth 100000 in
theorem d213 {L : Nat} {xs : Nat → Int32} {k d n : Nat} {c : yS3} {f : Nat} {x1 : Int} {x2 : Int} {m : yM} (hk : k ≤ f) (gx1 : rg x1) (gx2 : rg x2) (hR : RM c m) : PC (gZ L xs) k d 213 [.ref 0, yI x1, yI x2, .ref 413] m n (qS c (F213 f x1 x2 m)) := by
  have hX : F213 f x1 x2 m = F213 f x1 x2 m := rfl
  have Hr : ∀ r m', F213 f x1 x2 m = some (r, m') → rg r → RM c m' → ∀ n' : Nat, (qS c (F213 f x1 x2 m)) (.inl (some (yI r))) m' n' := fun r m' e h1 h2 n' => ⟨r, rfl, h1, h2, e⟩
  refine PC.mk [some (.ref 0), some (yI x1), some (yI x2), some (.ref 413), none] kn213 rfl ?_
  refine p_aload 1 c213_0 rfl rfl ?_
  refine p_iconst 2 c213_1 rfl ?_
  refine p_aload 3 c213_2 rfl rfl ?_
  refine p_iload 4 c213_3 rfl rfl ?_
  refine p_iload 5 c213_4 rfl rfl ?_
  refine p_cTI 8 [.ref 0, yI x1, yI x2] [yI 0, .ref 413] c213_5 rfl rfl rfl (fun k' hk' d' => d212 (f := f) (by omega) gx1 gx2 hR) (fun r8069 m8071 hF8067 hg8068 hR8072 n8047 k8046 hk8046 => ?_) (fun e' q8076 m8071 n' hF8067 hE8074 hR8075 => ?_)
  · have hX8070 := hX.trans (bT_l hF8067)
    refine p_i2l 9 c213_8 rfl ?_
    refine p_laS 10 c213_9 rfl kl413 (rgD rfl) (fun hx8077 => ?_)
    have hR8078 := hR8072.up 413 0 (v := (i2l r8069).toInt) (nselD rfl) (rg_i2l _)
    refine p_goto 17 c213_10 rfl ?_
    refine p_iconst 18 c213_17 rfl ?_
    exact p_ireturn c213_18 (Hr _ _ hX8070 (rgD rfl) hR8078 _)
  · have hXe := hX.trans (bT_r hF8067)
    cases (show e' = 11 from hE8074)
    have hX8079 := hXe.trans (if_pos rfl)
    refine ⟨fun pq hpq k8080 hk8080 => ?_, fun hno => absurd (r_kh213_5_11.symm.trans hno) (by simp)⟩
    have hpp : pq = 13 := by have := r_kh213_5_11.symm.trans hpq; simpa using this.symm
    subst hpp
    refine p_astore 15 c213_13 rfl rfl ?_
    refine p_iconst 16 c213_15 rfl ?_
    exact p_ireturn c213_16 (Hr _ _ hX8079 (rgD rfl) hR8075 _)
def J214_22 (f : Nat) (x1 : Int) (x2 : Int) (xs1 : Int) (m : yM) : Option (Int × yM) := (bI (F162 f xs1 m) (fun r8102 m8104 => (if r8102 = 0 then (some (0, m8104)) else (if m8104 408 (wr ((wr (12 * x1)) + x2)).toNat = 0 then (some (0, m8104)) else (some (1, m8104))))))
set_option maxRecDepth 100000 in
theorem tJ214_22 {L : Nat} {xs : Nat → Int32} {Q : xO → yM → Nat → Prop} {k d n : Nat} {c : yS3} {f : Nat} {x1 : Int} {x2 : Int} {xs1 : Int} {m : yM} (hk : k ≤ f) (gx1 : rg x1) (gx2 : rg x2) (gxs1 : rg xs1) (hR : RM c m) (Hr : ∀ r m', J214_22 f x1 x2 xs1 m = some (r, m') → rg r → RM c m' → ∀ n', Q (.inl (some (yI r))) m' n') : PW (gZ L xs) k 214 d 22 [some (.ref 376), some (yI x1), some (yI x2)] [yI xs1, .ref 376] m n Q := by
  have hX : J214_22 f x1 x2 xs1 m = J214_22 f x1 x2 xs1 m := rfl
  refine p_cS 25 [.ref 376, yI xs1] [] c214_22 rfl rfl rfl (fun k' hk' d' => d162 (f := f) (by omega) gxs1 hR) (fun r8102 m8104 hF8100 hg8101 hR8105 n8099 k8098 hk8098 => ?_)
  have hX8103 := hX.trans (bI_s hF8100)
  refine p_if 46 28 c214_25 rfl rfl (yz_eq hg8101) (fun hb8106 k8107 hk8107 => ?_) (fun hb8106 k8108 hk8108 => ?_)
  · have hX8109 := hX8103.trans (if_pos hb8106)
    refine p_iconst 47 c214_46 rfl ?_
    exact p_ireturn c214_47 (Hr _ _ hX8109 (rgD rfl) hR8105 _)
  · have hX8110 := hX8103.trans (if_neg hb8106)
    refine p_aload 29 c214_28 rfl rfl ?_
    refine p_getR 32 c214_29 rfl kf376_48 ?_
    refine p_iconst 34 c214_32 rfl ?_
    refine p_iload 35 c214_34 rfl rfl ?_
    refine p_imul 36 c214_35 rfl ?_
    refine p_iload 37 c214_36 rfl rfl ?_
    refine p_iadd 38 c214_37 rfl ?_
    refine p_iaX 39 (m8104 408 (wr ((wr (12 * x1)) + x2)).toNat) c214_38 rfl ka408 (rg_wr _) rfl (fun hx8111 => ?_)
    refine p_if 46 42 c214_39 rfl rfl (yz_eq (hR8105.rg _ _)) (fun hb8112 k8113 hk8113 => ?_) (fun hb8112 k8114 hk8114 => ?_)
    · have hX8115 := hX8110.trans (if_pos hb8112)
      refine p_iconst 47 c214_46 rfl ?_
      exact p_ireturn c214_47 (Hr _ _ hX8115 (rgD rfl) hR8105 _)
    · have hX8116 := hX8110.trans (if_neg hb8112)
      refine p_iconst 43 c214_42 rfl ?_
      refine p_goto 47 c214_43 rfl ?_
      exact p_ireturn c214_47 (Hr _ _ hX8116 (rgD rfl) hR8105 _)
def J214_21 (f : Nat) (x1 : Int) (x2 : Int) (m : yM) : Option (Int × yM) := (J214_22 f x1 x2 0 m)
set_option maxRecDepth 100000 in
theorem tJ214_21 {L : Nat} {xs : Nat → Int32} {Q : xO → yM → Nat → Prop} {k d n : Nat} {c : yS3} {f : Nat} {x1 : Int} {x2 : Int} {m : yM} (hk : k ≤ f) (gx1 : rg x1) (gx2 : rg x2) (hR : RM c m) (Hr : ∀ r m', J214_21 f x1 x2 m = some (r, m') → rg r → RM c m' → ∀ n', Q (.inl (some (yI r))) m' n') : PW (gZ L xs) k 214 d 21 [some (.ref 376), some (yI x1), some (yI x2)] [.ref 376] m n Q := by
  have hX : J214_21 f x1 x2 m = J214_21 f x1 x2 m := rfl
  refine p_iconst 22 c214_21 rfl ?_
  exact tJ214_22 (f := f) (by omega) gx1 gx2 (rgD rfl) hR (fun r' m' e' => Hr r' m' (hX.trans e'))
def F214 (f : Nat) (x1 : Int) (x2 : Int) (m : yM) : Option (Int × yM) := (if F160 x1 m = 0 then (J214_21 f x1 x2 m) else (if F161 x2 m = 0 then (J214_21 f x1 x2 m) else (J214_22 f x1 x2 1 m)))
set_option maxRecDepth 100000 in
theorem d214 {L : Nat} {xs : Nat → Int32} {k d n : Nat} {c : yS3} {f : Nat} {x1 : Int} {x2 : Int} {m : yM} (hk : k ≤ f) (gx1 : rg x1) (gx2 : rg x2) (hR : RM c m) : PC (gZ L xs) k d 214 [.ref 376, yI x1, yI x2] m n (qS c (F214 f x1 x2 m)) := by
  have hX : F214 f x1 x2 m = F214 f x1 x2 m := rfl
  have Hr : ∀ r m', F214 f x1 x2 m = some (r, m') → rg r → RM c m' → ∀ n' : Nat, (qS c (F214 f x1 x2 m)) (.inl (some (yI r))) m' n' := fun r m' e h1 h2 n' => ⟨r, rfl, h1, h2, e⟩
  refine PC.mk [some (.ref 376), some (yI x1), some (yI x2)] kn214 rfl ?_
  refine p_aload 1 c214_0 rfl rfl ?_
  refine p_aload 2 c214_1 rfl rfl ?_
  refine p_iload 3 c214_2 rfl rfl ?_
  refine p_cX 6 [.ref 376, yI x1] [.ref 376] c214_3 rfl rfl rfl (fun k' hk' d' => d160 gx1 hR) (fun hg8093 n8092 k8091 hk8091 => ?_)
  refine p_if 21 9 c214_6 rfl rfl (yz_eq hg8093) (fun hb8094 k8095 hk8095 => ?_) (fun hb8094 k8096 hk8096 => ?_)
  · have hX8097 := hX.trans (if_pos hb8094)
    exact tJ214_21 (f := f) (by omega) gx1 gx2 hR (fun r' m' e' => Hr r' m' (hX8097.trans e'))
  · have hX8117 := hX.trans (if_neg hb8094)
    refine p_aload 10 c214_9 rfl rfl ?_
    refine p_iload 11 c214_10 rfl rfl ?_
    refine p_cX 14 [.ref 376, yI x2] [.ref 376] c214_11 rfl rfl rfl (fun k' hk' d' => d161 gx2 hR) (fun hg8120 n8119 k8118 hk8118 => ?_)
    refine p_if 21 17 c214_14 rfl rfl (yz_eq hg8120) (fun hb8121 k8122 hk8122 => ?_) (fun hb8121 k8123 hk8123 => ?_)
    · have hX8124 := hX8117.trans (if_pos hb8121)
      exact tJ214_21 (f := f) (by omega) gx1 gx2 hR (fun r' m' e' => Hr r' m' (hX8124.trans e'))
    · have hX8125 := hX8117.trans (if_neg hb8121)
      refine p_iconst 18 c214_17 rfl ?_
      refine p_goto 22 c214_18 rfl ?_
      exact tJ214_22 (f := f) (by omega) gx1 gx2 (rgD rfl) hR (fun r' m' e' => Hr r' m' (hX8125.trans e'))
def F215 (f : Nat) (x1 : Int) (m : yM) : Option ((Int ⊕ Nat) × yM) := (if x1 = 0 then (some (.inl (m (pA (m 0 4)) 9), m)) else (if x1 = 1 then (some (.inl (m (pA (m 0 4)) 10), m)) else (if x1 = 2 then (some (.inl (m (pA (m 0 4)) 11), m)) else (if x1 = 3 then (some (.inl (m (pA (m 0 4)) 12), m)) else (if x1 = 4 then (some (.inl (m (pA (m 0 4)) 13), m)) else (if x1 = 5 then (some (.inl (m (pA (m 0 4)) 14), m)) else (if x1 = 6 then (some (.inl (m (pA (m 0 4)) 15), m)) else (if x1 = 7 then (some (.inl (m 8 6), m)) else (if x1 = 8 then (some (.inl (m 169 5), m)) else (if x1 = 9 then (some (.inl (m 0 6), m)) else (some (.inr 9, m))))))))))))
set_option maxRecDepth 100000 in
theorem d215 {L : Nat} {xs : Nat → Int32} {k d n : Nat} {c : yS3} {f : Nat} {x1 : Int} {m : yM} (hk : k ≤ f) (gx1 : rg x1) (hR : RM c m) : PC (gZ L xs) k d 215 [.ref 0, yI x1] m n (qEI (fun e => e = 9) c (F215 f x1 m)) := by
  have hX : F215 f x1 m = F215 f x1 m := rfl
  have Hr : ∀ r m', F215 f x1 m = some (.inl r, m') → rg r → RM c m' → ∀ n' : Nat, (qEI (fun e => e = 9) c (F215 f x1 m)) (.inl (some (yI r))) m' n' := fun r m' e h1 h2 n' => Or.inl ⟨r, rfl, h1, h2, e⟩
  have Ht : ∀ e m', F215 f x1 m = some (.inr e, m') → (fun e => e = 9) e → RM c m' → ∀ x n' : Nat, (qEI (fun e => e = 9) c (F215 f x1 m)) (.inr (e, x)) m' n' := fun e m' e1 h1 h2 x n' => Or.inr ⟨e, x, rfl, h1, h2, e1⟩
  refine PC.mk [some (.ref 0), some (yI x1)] kn215 rfl ?_
  refine p_iload 1 c215_0 rfl rfl ?_
  by_cases hk8140 : x1 = 0
  · have hX8141 := hX.trans (if_pos hk8140)
    refine p_top 0 hk8140 ?_
    refine p_tsw 56 c215_1 (rgD rfl) (by decide) rfl rfl ?_
    refine p_aload 57 c215_56 rfl rfl ?_
    refine p_getV 60 (.ref (pA (m 0 4))) c215_57 rfl kf0_4 (pA_sv2 hR.2.1 rfl) ?_
    refine p_getX 63 (m (pA (m 0 4)) 9) c215_60 rfl (kP_9 (pA_is _)) rfl ?_
    exact p_ireturn c215_63 (Hr _ _ hX8141 (hR.rg _ _) hR _)
  have hX8142 := hX.trans (if_neg hk8140)
  by_cases hk8143 : x1 = 1
  · have hX8144 := hX8142.trans (if_pos hk8143)
    refine p_top 1 hk8143 ?_
    refine p_tsw 64 c215_1 (rgD rfl) (by decide) rfl rfl ?_
    refine p_aload 65 c215_64 rfl rfl ?_
    refine p_getV 68 (.ref (pA (m 0 4))) c215_65 rfl kf0_4 (pA_sv2 hR.2.1 rfl) ?_
    refine p_getX 71 (m (pA (m 0 4)) 10) c215_68 rfl (kP_10 (pA_is _)) rfl ?_
    exact p_ireturn c215_71 (Hr _ _ hX8144 (hR.rg _ _) hR _)
  have hX8145 := hX8142.trans (if_neg hk8143)
  by_cases hk8146 : x1 = 2
  · have hX8147 := hX8145.trans (if_pos hk8146)
    refine p_top 2 hk8146 ?_
    refine p_tsw 72 c215_1 (rgD rfl) (by decide) rfl rfl ?_
    refine p_aload 73 c215_72 rfl rfl ?_
    refine p_getV 76 (.ref (pA (m 0 4))) c215_73 rfl kf0_4 (pA_sv2 hR.2.1 rfl) ?_
    refine p_getX 79 (m (pA (m 0 4)) 11) c215_76 rfl (kP_11 (pA_is _)) rfl ?_
    exact p_ireturn c215_79 (Hr _ _ hX8147 (hR.rg _ _) hR _)
  have hX8148 := hX8145.trans (if_neg hk8146)
  by_cases hk8149 : x1 = 3
  · have hX8150 := hX8148.trans (if_pos hk8149)
    refine p_top 3 hk8149 ?_
    refine p_tsw 80 c215_1 (rgD rfl) (by decide) rfl rfl ?_
    refine p_aload 81 c215_80 rfl rfl ?_
    refine p_getV 84 (.ref (pA (m 0 4))) c215_81 rfl kf0_4 (pA_sv2 hR.2.1 rfl) ?_
    refine p_getX 87 (m (pA (m 0 4)) 12) c215_84 rfl (kP_12 (pA_is _)) rfl ?_
    exact p_ireturn c215_87 (Hr _ _ hX8150 (hR.rg _ _) hR _)
  have hX8151 := hX8148.trans (if_neg hk8149)
  by_cases hk8152 : x1 = 4
  · have hX8153 := hX8151.trans (if_pos hk8152)
    refine p_top 4 hk8152 ?_
    refine p_tsw 88 c215_1 (rgD rfl) (by decide) rfl rfl ?_
    refine p_aload 89 c215_88 rfl rfl ?_
    refine p_getV 92 (.ref (pA (m 0 4))) c215_89 rfl kf0_4 (pA_sv2 hR.2.1 rfl) ?_
    refine p_getX 95 (m (pA (m 0 4)) 13) c215_92 rfl (kP_13 (pA_is _)) rfl ?_
    exact p_ireturn c215_95 (Hr _ _ hX8153 (hR.rg _ _) hR _)
  have hX8154 := hX8151.trans (if_neg hk8152)
  by_cases hk8155 : x1 = 5
  · have hX8156 := hX8154.trans (if_pos hk8155)
    refine p_top 5 hk8155 ?_
    refine p_tsw 96 c215_1 (rgD rfl) (by decide) rfl rfl ?_
    refine p_aload 97 c215_96 rfl rfl ?_
    refine p_getV 100 (.ref (pA (m 0 4))) c215_97 rfl kf0_4 (pA_sv2 hR.2.1 rfl) ?_
    refine p_getX 103 (m (pA (m 0 4)) 14) c215_100 rfl (kP_14 (pA_is _)) rfl ?_
    exact p_ireturn c215_103 (Hr _ _ hX8156 (hR.rg _ _) hR _)
  have hX8157 := hX8154.trans (if_neg hk8155)
  by_cases hk8158 : x1 = 6
  · have hX8159 := hX8157.trans (if_pos hk8158)
    refine p_top 6 hk8158 ?_
    refine p_tsw 104 c215_1 (rgD rfl) (by decide) rfl rfl ?_
    refine p_aload 105 c215_104 rfl rfl ?_
    refine p_getV 108 (.ref (pA (m 0 4))) c215_105 rfl kf0_4 (pA_sv2 hR.2.1 rfl) ?_
    refine p_getX 111 (m (pA (m 0 4)) 15) c215_108 rfl (kP_15 (pA_is _)) rfl ?_
    exact p_ireturn c215_111 (Hr _ _ hX8159 (hR.rg _ _) hR _)
  have hX8160 := hX8157.trans (if_neg hk8158)
  by_cases hk8161 : x1 = 7
  · have hX8162 := hX8160.trans (if_pos hk8161)
    refine p_top 7 hk8161 ?_
    refine p_tsw 112 c215_1 (rgD rfl) (by decide) rfl rfl ?_
    refine p_aload 113 c215_112 rfl rfl ?_
    refine p_getR 116 c215_113 rfl kf0_2 ?_
    refine p_getX 119 (m 8 6) c215_116 rfl kf8_6 rfl ?_
    exact p_ireturn c215_119 (Hr _ _ hX8162 (hR.rg _ _) hR _)
  have hX8163 := hX8160.trans (if_neg hk8161)
  by_cases hk8164 : x1 = 8
  · have hX8165 := hX8163.trans (if_pos hk8164)
    refine p_top 8 hk8164 ?_
    refine p_tsw 120 c215_1 (rgD rfl) (by decide) rfl rfl ?_
    refine p_aload 121 c215_120 rfl rfl ?_
    refine p_getR 124 c215_121 rfl kf0_3 ?_
    refine p_getX 127 (m 169 5) c215_124 rfl kf169_5 rfl ?_
    exact p_ireturn c215_127 (Hr _ _ hX8165 (hR.rg _ _) hR _)
  have hX8166 := hX8163.trans (if_neg hk8164)
  by_cases hk8167 : x1 = 9
  · have hX8168 := hX8166.trans (if_pos hk8167)
    refine p_top 9 hk8167 ?_
    refine p_tsw 128 c215_1 (rgD rfl) (by decide) rfl rfl ?_
    refine p_aload 129 c215_128 rfl rfl ?_
    refine p_getX 132 (m 0 6) c215_129 rfl kf0_6 rfl ?_
    exact p_ireturn c215_132 (Hr _ _ hX8168 (hR.rg _ _) hR _)
  have hX8169 := hX8166.trans (if_neg hk8167)
  refine p_tswd 133 c215_1 gx1 (by omega) rfl ?_
  exact p_throw c215_133 (fun x n' => Ht _ _ hX8169 rfl hR x n')
def F216 (f : Nat) (x1 : Int) (m : yM) : Option (Int × yM) := (bT (F215 f x1 m) (fun r8172 m8174 => (some (0, yup m8174 413 0 ((i2l r8172).toInt)))) (fun e' m8174 => (if e' = 9 then (some (1, m8174)) else none)))
set_option maxRecDepth 100000 in
theorem d216 {L : Nat} {xs : Nat → Int32} {k d n : Nat} {c : yS3} {f : Nat} {x1 : Int} {m : yM} (hk : k ≤ f) (gx1 : rg x1) (hR : RM c m) : PC (gZ L xs) k d 216 [.ref 0, yI x1, .ref 413] m n (qS c (F216 f x1 m)) := by
  have hX : F216 f x1 m = F216 f x1 m := rfl
  have Hr : ∀ r m', F216 f x1 m = some (r, m') → rg r → RM c m' → ∀ n' : Nat, (qS c (F216 f x1 m)) (.inl (some (yI r))) m' n' := fun r m' e h1 h2 n' => ⟨r, rfl, h1, h2, e⟩
  refine PC.mk [some (.ref 0), some (yI x1), some (.ref 413), none] kn216 rfl ?_
  refine p_aload 1 c216_0 rfl rfl ?_
  refine p_iconst 2 c216_1 rfl ?_
  refine p_aload 3 c216_2 rfl rfl ?_
  refine p_iload 4 c216_3 rfl rfl ?_
  refine p_cTI 7 [.ref 0, yI x1] [yI 0, .ref 413] c216_4 rfl rfl rfl (fun k' hk' d' => d215 (f := f) (by omega) gx1 hR) (fun r8172 m8174 hF8170 hg8171 hR8175 n8139 k8138 hk8138 => ?_) (fun e' q8179 m8174 n' hF8170 hE8177 hR8178 => ?_)
  · have hX8173 := hX.trans (bT_l hF8170)
    refine p_i2l 8 c216_7 rfl ?_
    refine p_laS 9 c216_8 rfl kl413 (rgD rfl) (fun hx8180 => ?_)
    have hR8181 := hR8175.up 413 0 (v := (i2l r8172).toInt) (nselD rfl) (rg_i2l _)
    refine p_goto 15 c216_9 rfl ?_
    refine p_iconst 16 c216_15 rfl ?_
    exact p_ireturn c216_16 (Hr _ _ hX8173 (rgD rfl) hR8181 _)
  · have hXe := hX.trans (bT_r hF8170)
    cases (show e' = 9 from hE8177)
    have hX8182 := hXe.trans (if_pos rfl)
    refine ⟨fun pq hpq k8183 hk8183 => ?_, fun hno => absurd (r_kh216_4_9.symm.trans hno) (by simp)⟩
    have hpp : pq = 12 := by have := r_kh216_4_9.symm.trans hpq; simpa using this.symm
    subst hpp
    refine p_astore 13 c216_12 rfl rfl ?_
    refine p_iconst 14 c216_13 rfl ?_
    exact p_ireturn c216_14 (Hr _ _ hX8182 (rgD rfl) hR8178 _)
def F217 (f : Nat) (x1 : Int) (m : yM) : Option (Int × yM) := (bI (F23 f (F22 x1 0 9) 1 m) (fun r8200 m8202 => (if r8200 = 0 then (some (0, m8202)) else (if x1 = 9 then (some (m8202 376 1, m8202)) else (if m8202 376 19 = 0 then (some (0, m8202)) else (if x1 < 4 then (if x1 = 0 then (some (m8202 383 (m8202 376 18).toNat, m8202)) else (if x1 = 1 then (some (m8202 384 (m8202 376 18).toNat, m8202)) else (if x1 = 2 then (some (m8202 385 (m8202 376 18).toNat, m8202)) else (some (m8202 386 (m8202 376 18).toNat, m8202))))) else (if x1 = 4 then (some (m8202 387 (m8202 376 18).toNat, m8202)) else (if x1 = 5 then (some (m8202 388 (m8202 376 18).toNat, m8202)) else (if x1 = 6 then (some (m8202 389 (m8202 376 18).toNat, m8202)) else (if x1 = 7 then (some (m8202 376 47, m8202)) else (some (m8202 376 51, m8202))))))))))))
set_option maxRecDepth 100000 in
theorem d217 {L : Nat} {xs : Nat → Int32} {k d n : Nat} {c : yS3} {f : Nat} {x1 : Int} {m : yM} (hk : k ≤ f) (gx1 : rg x1) (hR : RM c m) : PC (gZ L xs) k d 217 [.ref 376, yI x1] m n (qS c (F217 f x1 m)) := by
  have hX : F217 f x1 m = F217 f x1 m := rfl
  have Hr : ∀ r m', F217 f x1 m = some (r, m') → rg r → RM c m' → ∀ n' : Nat, (qS c (F217 f x1 m)) (.inl (some (yI r))) m' n' := fun r m' e h1 h2 n' => ⟨r, rfl, h1, h2, e⟩
  refine PC.mk [some (.ref 376), some (yI x1)] kn217 rfl ?_
  refine p_aload 1 c217_0 rfl rfl ?_
  refine p_iload 2 c217_1 rfl rfl ?_
  refine p_iconst 3 c217_2 rfl ?_
  refine p_iconst 5 c217_3 rfl ?_
  refine p_cX 8 [yI x1, yI 0, yI 9] [.ref 376] c217_5 rfl rfl rfl (fun k' hk' d' => d22 gx1 (rgD rfl) (rgD rfl) hR) (fun hg8195 n8194 k8193 hk8193 => ?_)
  refine p_iconst 9 c217_8 rfl ?_
  refine p_cS 12 [.ref 376, yI (F22 x1 0 9), yI 1] [] c217_9 rfl rfl rfl (fun k' hk' d' => d23 (f := f) (by omega) hg8195 (rgD rfl) hR) (fun r8200 m8202 hF8198 hg8199 hR8203 n8197 k8196 hk8196 => ?_)
  have hX8201 := hX.trans (bI_s hF8198)
  refine p_if 17 15 c217_12 rfl rfl (yz_ne hg8199) (fun hb8204 k8205 hk8205 => ?_) (fun hb8204 k8206 hk8206 => ?_)
  · have hX8207 := hX8201.trans (if_neg hb8204)
    refine p_iload 18 c217_17 rfl rfl ?_
    refine p_iconst 20 c217_18 rfl ?_
    refine p_icmp 28 23 c217_20 rfl rfl (yc_ne gx1 (rgD rfl)) (fun hb8208 k8209 hk8209 => ?_) (fun hb8208 k8210 hk8210 => ?_)
    · have hX8211 := hX8207.trans (if_neg hb8208)
      refine p_aload 29 c217_28 rfl rfl ?_
      refine p_getX 32 (m8202 376 19) c217_29 rfl kf376_19 rfl ?_
      refine p_if 37 35 c217_32 rfl rfl (yz_ne (hR8203.rg _ _)) (fun hb8212 k8213 hk8213 => ?_) (fun hb8212 k8214 hk8214 => ?_)
      · have hX8215 := hX8211.trans (if_neg hb8212)
        refine p_iload 38 c217_37 rfl rfl ?_
        refine p_iconst 39 c217_38 rfl ?_
        refine p_icmp 102 42 c217_39 rfl rfl ((yc_ge gx1 (rgD rfl)).trans Int.not_lt.symm) (fun hb8216 k8217 hk8217 => ?_) (fun hb8216 k8218 hk8218 => ?_)
        · have hX8219 := hX8215.trans (if_neg hb8216)
          refine p_iload 103 c217_102 rfl rfl ?_
          refine p_iconst 104 c217_103 rfl ?_
          refine p_icmp 119 107 c217_104 rfl rfl (yc_ne gx1 (rgD rfl)) (fun hb8220 k8221 hk8221 => ?_) (fun hb8220 k8222 hk8222 => ?_)
          · have hX8223 := hX8219.trans (if_neg hb8220)
            refine p_iload 120 c217_119 rfl rfl ?_
            refine p_iconst 121 c217_120 rfl ?_
            refine p_icmp 136 124 c217_121 rfl rfl (yc_ne gx1 (rgD rfl)) (fun hb8224 k8225 hk8225 => ?_) (fun hb8224 k8226 hk8226 => ?_)
            · have hX8227 := hX8223.trans (if_neg hb8224)
              refine p_iload 137 c217_136 rfl rfl ?_
              refine p_iconst 139 c217_137 rfl ?_
              refine p_icmp 154 142 c217_139 rfl rfl (yc_ne gx1 (rgD rfl)) (fun hb8228 k8229 hk8229 => ?_) (fun hb8228 k8230 hk8230 => ?_)
              · have hX8231 := hX8227.trans (if_neg hb8228)
                refine p_iload 155 c217_154 rfl rfl ?_
                refine p_iconst 157 c217_155 rfl ?_
                refine p_icmp 167 160 c217_157 rfl rfl (yc_ne gx1 (rgD rfl)) (fun hb8232 k8233 hk8233 => ?_) (fun hb8232 k8234 hk8234 => ?_)
                · have hX8235 := hX8231.trans (if_neg hb8232)
                  refine p_aload 168 c217_167 rfl rfl ?_
                  refine p_getX 171 (m8202 376 51) c217_168 rfl kf376_51 rfl ?_
                  exact p_ireturn c217_171 (Hr _ _ hX8235 (hR8203.rg _ _) hR8203 _)
                · have hX8236 := hX8231.trans (if_pos (Classical.not_not.mp hb8232))
                  refine p_aload 161 c217_160 rfl rfl ?_
                  refine p_getX 164 (m8202 376 47) c217_161 rfl kf376_47 rfl ?_
                  refine p_goto 171 c217_164 rfl ?_
                  exact p_ireturn c217_171 (Hr _ _ hX8236 (hR8203.rg _ _) hR8203 _)
              · have hX8237 := hX8227.trans (if_pos (Classical.not_not.mp hb8228))
                refine p_aload 143 c217_142 rfl rfl ?_
                refine p_getR 146 c217_143 rfl kf376_26 ?_
                refine p_aload 147 c217_146 rfl rfl ?_
                refine p_getX 150 (m8202 376 18) c217_147 rfl kf376_18 rfl ?_
                refine p_iaX 151 (m8202 389 (m8202 376 18).toNat) c217_150 rfl ka389 (hR8203.rg _ _) rfl (fun hx8238 => ?_)
                refine p_goto 171 c217_151 rfl ?_
                exact p_ireturn c217_171 (Hr _ _ hX8237 (hR8203.rg _ _) hR8203 _)
            · have hX8239 := hX8223.trans (if_pos (Classical.not_not.mp hb8224))
              refine p_aload 125 c217_124 rfl rfl ?_
              refine p_getR 128 c217_125 rfl kf376_25 ?_
              refine p_aload 129 c217_128 rfl rfl ?_
              refine p_getX 132 (m8202 376 18) c217_129 rfl kf376_18 rfl ?_
              refine p_iaX 133 (m8202 388 (m8202 376 18).toNat) c217_132 rfl ka388 (hR8203.rg _ _) rfl (fun hx8240 => ?_)
              refine p_goto 171 c217_133 rfl ?_
              exact p_ireturn c217_171 (Hr _ _ hX8239 (hR8203.rg _ _) hR8203 _)
          · have hX8241 := hX8219.trans (if_pos (Classical.not_not.mp hb8220))
            refine p_aload 108 c217_107 rfl rfl ?_
            refine p_getR 111 c217_108 rfl kf376_24 ?_
            refine p_aload 112 c217_111 rfl rfl ?_
            refine p_getX 115 (m8202 376 18) c217_112 rfl kf376_18 rfl ?_
            refine p_iaX 116 (m8202 387 (m8202 376 18).toNat) c217_115 rfl ka387 (hR8203.rg _ _) rfl (fun hx8242 => ?_)
            refine p_goto 171 c217_116 rfl ?_
            exact p_ireturn c217_171 (Hr _ _ hX8241 (hR8203.rg _ _) hR8203 _)
        · have hX8243 := hX8215.trans (if_pos (Classical.not_not.mp hb8216))
          refine p_iload 43 c217_42 rfl rfl ?_
          refine p_if 58 46 c217_43 rfl rfl (yz_ne gx1) (fun hb8244 k8245 hk8245 => ?_) (fun hb8244 k8246 hk8246 => ?_)
          · have hX8247 := hX8243.trans (if_neg hb8244)
            refine p_iload 59 c217_58 rfl rfl ?_
            refine p_iconst 60 c217_59 rfl ?_
            refine p_icmp 75 63 c217_60 rfl rfl (yc_ne gx1 (rgD rfl)) (fun hb8248 k8249 hk8249 => ?_) (fun hb8248 k8250 hk8250 => ?_)
            · have hX8251 := hX8247.trans (if_neg hb8248)
              refine p_iload 76 c217_75 rfl rfl ?_
              refine p_iconst 77 c217_76 rfl ?_
              refine p_icmp 92 80 c217_77 rfl rfl (yc_ne gx1 (rgD rfl)) (fun hb8252 k8253 hk8253 => ?_) (fun hb8252 k8254 hk8254 => ?_)
              · have hX8255 := hX8251.trans (if_neg hb8252)
                refine p_aload 93 c217_92 rfl rfl ?_
                refine p_getR 96 c217_93 rfl kf376_23 ?_
                refine p_aload 97 c217_96 rfl rfl ?_
                refine p_getX 100 (m8202 376 18) c217_97 rfl kf376_18 rfl ?_
                refine p_iaX 101 (m8202 386 (m8202 376 18).toNat) c217_100 rfl ka386 (hR8203.rg _ _) rfl (fun hx8256 => ?_)
                exact p_ireturn c217_101 (Hr _ _ hX8255 (hR8203.rg _ _) hR8203 _)
              · have hX8257 := hX8251.trans (if_pos (Classical.not_not.mp hb8252))
                refine p_aload 81 c217_80 rfl rfl ?_
                refine p_getR 84 c217_81 rfl kf376_22 ?_
                refine p_aload 85 c217_84 rfl rfl ?_
                refine p_getX 88 (m8202 376 18) c217_85 rfl kf376_18 rfl ?_
                refine p_iaX 89 (m8202 385 (m8202 376 18).toNat) c217_88 rfl ka385 (hR8203.rg _ _) rfl (fun hx8258 => ?_)
                refine p_goto 101 c217_89 rfl ?_
                exact p_ireturn c217_101 (Hr _ _ hX8257 (hR8203.rg _ _) hR8203 _)
            · have hX8259 := hX8247.trans (if_pos (Classical.not_not.mp hb8248))
              refine p_aload 64 c217_63 rfl rfl ?_
              refine p_getR 67 c217_64 rfl kf376_21 ?_
              refine p_aload 68 c217_67 rfl rfl ?_
              refine p_getX 71 (m8202 376 18) c217_68 rfl kf376_18 rfl ?_
              refine p_iaX 72 (m8202 384 (m8202 376 18).toNat) c217_71 rfl ka384 (hR8203.rg _ _) rfl (fun hx8260 => ?_)
              refine p_goto 101 c217_72 rfl ?_
              exact p_ireturn c217_101 (Hr _ _ hX8259 (hR8203.rg _ _) hR8203 _)
          · have hX8261 := hX8243.trans (if_pos (Classical.not_not.mp hb8244))
            refine p_aload 47 c217_46 rfl rfl ?_
            refine p_getR 50 c217_47 rfl kf376_20 ?_
            refine p_aload 51 c217_50 rfl rfl ?_
            refine p_getX 54 (m8202 376 18) c217_51 rfl kf376_18 rfl ?_
            refine p_iaX 55 (m8202 383 (m8202 376 18).toNat) c217_54 rfl ka383 (hR8203.rg _ _) rfl (fun hx8262 => ?_)
            refine p_goto 101 c217_55 rfl ?_
            exact p_ireturn c217_101 (Hr _ _ hX8261 (hR8203.rg _ _) hR8203 _)
      · have hX8263 := hX8211.trans (if_pos (Classical.not_not.mp hb8212))
        refine p_iconst 36 c217_35 rfl ?_
        exact p_ireturn c217_36 (Hr _ _ hX8263 (rgD rfl) hR8203 _)
    · have hX8264 := hX8207.trans (if_pos (Classical.not_not.mp hb8208))
      refine p_aload 24 c217_23 rfl rfl ?_
      refine p_getX 27 (m8202 376 1) c217_24 rfl kf376_1 rfl ?_
      exact p_ireturn c217_27 (Hr _ _ hX8264 (hR8203.rg _ _) hR8203 _)
  · have hX8265 := hX8201.trans (if_pos (Classical.not_not.mp hb8204))
    refine p_iconst 16 c217_15 rfl ?_
    exact p_ireturn c217_16 (Hr _ _ hX8265 (rgD rfl) hR8203 _)
def J218_t0_617 (f : Nat) (L : Nat) (xs : Nat → Int32) (x4 : Int) (m : yM) : Option ((Int × yM) ⊕ ((Int × yM) ⊕ (Int × yM))) := (some (.inl ((wr (x4 + 4)), m)))
set_option maxRecDepth 100000 in
theorem tJ218_t0_617 {L : Nat} {xs : Nat → Int32} {Q : xO → yM → Nat → Prop} {k d n : Nat} {c : yS3} {f : Nat} {x4 : Int} {m : yM} {j5 j6 : Option Value} (hk : k ≤ f) (hL : zLn (gZ L xs) ≤ 100000) (hLr : rg (L : Int)) (gx4 : rg x4) (hR : RM c m) (Hn : ∀ (y0 : Int) (z0 z1 : Option Value) (m' : yM) (n' : Nat), J218_t0_617 f L xs x4 m = some (.inl (y0, m')) → rg y0 → (∃ c, RM c m') → ∀ k', k' < k → PW (gZ L xs) k' 218 d 23 [some (.retAddr 0), some (.ref 0), some (.ref 376), some (.ref 413), some (yI y0), z0, z1] [] m' n' Q) (He : ∀ (y0 : Int) (z0 z1 : Option Value) (m' : yM) (n' : Nat), J218_t0_617 f L xs x4 m = some (.inr (.inl (y0, m'))) → rg y0 → (∃ c, RM c m') → ∀ k', k' ≤ k → PW (gZ L xs) k' 218 d 623 [some (.retAddr 0), some (.ref 0), some (.ref 376), some (.ref 413), some (yI y0), z0, z1] [] m' n' Q) (Hr : ∀ r m', J218_t0_617 f L xs x4 m = some (.inr (.inr (r, m'))) → rg r → (∃ c, RM c m') → ∀ n', Q (.inl (some (yI r))) m' n') : PW (gZ L xs) k 218 d 617 [some (.retAddr 0), some (.ref 0), some (.ref 376), some (.ref 413), some (yI x4), j5, j6] [] m n Q := by
  have hX : J218_t0_617 f L xs x4 m = J218_t0_617 f L xs x4 m := rfl
  refine p_iinc 620 r_c218_617 rfl rfl rfl ?_
  refine p_gotoD 23 r_c218_620 rfl (fun k222 hk222 => ?_)
  exact Hn _ _ _ _ _ hX (rg_wr _) ⟨_, hR⟩ _ (by omega)
def J218_t0_450 (f : Nat) (L : Nat) (xs : Nat → Int32) (x4 : Int) (m : yM) : Option ((Int × yM) ⊕ ((Int × yM) ⊕ (Int × yM))) := (J218_t0_617 f L xs x4 m)
set_option maxRecDepth 100000 in
theorem tJ218_t0_450 {L : Nat} {xs : Nat → Int32} {Q : xO → yM → Nat → Prop} {k d n : Nat} {c : yS3} {f : Nat} {x4 : Int} {m : yM} {j5 j6 : Option Value} (hk : k ≤ f) (hL : zLn (gZ L xs) ≤ 100000) (hLr : rg (L : Int)) (gx4 : rg x4) (hR : RM c m) (Hn : ∀ (y0 : Int) (z0 z1 : Option Value) (m' : yM) (n' : Nat), J218_t0_450 f L xs x4 m = some (.inl (y0, m')) → rg y0 → (∃ c, RM c m') → ∀ k', k' < k → PW (gZ L xs) k' 218 d 23 [some (.retAddr 0), some (.ref 0), some (.ref 376), some (.ref 413), some (yI y0), z0, z1] [] m' n' Q) (He : ∀ (y0 : Int) (z0 z1 : Option Value) (m' : yM) (n' : Nat), J218_t0_450 f L xs x4 m = some (.inr (.inl (y0, m'))) → rg y0 → (∃ c, RM c m') → ∀ k', k' ≤ k → PW (gZ L xs) k' 218 d 623 [some (.retAddr 0), some (.ref 0), some (.ref 376), some (.ref 413), some (yI y0), z0, z1] [] m' n' Q) (Hr : ∀ r m', J218_t0_450 f L xs x4 m = some (.inr (.inr (r, m'))) → rg r → (∃ c, RM c m') → ∀ n', Q (.inl (some (yI r))) m' n') : PW (gZ L xs) k 218 d 450 [some (.retAddr 0), some (.ref 0), some (.ref 376), some (.ref 413), some (yI x4), j5, j6] [] m n Q := by
  have hX : J218_t0_450 f L xs x4 m = J218_t0_450 f L xs x4 m := rfl
  refine p_goto 617 r_c218_450 rfl ?_
  exact tJ218_t0_617 (f := f) (by omega) hL hLr gx4 hR (fun y0 y1 y2 m' n' e' h0 hR' k' hk' => Hn y0 y1 y2 m' n' (hX.trans e') h0 hR' k' (by omega)) (fun y0 y1 y2 m' n' e' h0 hR' k' hk' => He y0 y1 y2 m' n' (hX.trans e') h0 hR' k' (by omega)) (fun r' m' e' => Hr r' m' (hX.trans e'))
def B218_t0_23 (f : Nat) (L : Nat) (xs : Nat → Int32) (x4 : Int) (m : yM) : Option ((Int × yM) ⊕ ((Int × yM) ⊕ (Int × yM))) := (if wr (((L : Int)) - 4) < x4 then (some (.inr (.inl (x4, m)))) else (if iAnd ((xs (x4).toNat).toInt) 15 = 0 then (bI (F21 f ((lShl (i2l ((xs (wr (x4 + 1)).toNat).toInt)) 32) ||| ((i2l ((xs (wr (x4 + 2)).toNat).toInt)) &&& (Int64.ofInt 4294967295))) ((xs (wr (x4 + 3)).toNat).toInt) m) (fun r107 m109 => (bI (F25 f ((lShl (i2l ((xs (wr (x4 + 1)).toNat).toInt)) 32) ||| ((i2l ((xs (wr (x4 + 2)).toNat).toInt)) &&& (Int64.ofInt 4294967295))) ((xs (wr (x4 + 3)).toNat).toInt) m109) (fun r218 m220 => (J218_t0_617 f L xs x4 m220))))) else (if iAnd ((xs (x4).toNat).toInt) 15 = 1 then (bI (F28 f ((xs (wr (x4 + 1)).toNat).toInt) m) (fun r258 m260 => (bI (F29 f ((xs (wr (x4 + 1)).toNat).toInt) m260) (fun r284 m286 => (J218_t0_617 f L xs x4 m286))))) else (if iAnd ((xs (x4).toNat).toInt) 15 = 2 then (bI (F95 f m) (fun r2874 m2876 => (bI (F152 f m2876) (fun r5884 m5886 => (J218_t0_617 f L xs x4 m5886))))) else (if iAnd ((xs (x4).toNat).toInt) 15 = 3 then (bI (F154 f m) (fun r5899 m5901 => (J218_t0_617 f L xs x4 m5901))) else (if iAnd ((xs (x4).toNat).toInt) 15 = 4 then (bI (F159 f ((xs (wr (x4 + 1)).toNat).toInt) ((xs (wr (x4 + 2)).toNat).toInt) m) (fun r5963 m5965 => (bI (F163 f ((xs (wr (x4 + 1)).toNat).toInt) ((xs (wr (x4 + 2)).toNat).toInt) m5965) (fun r6049 m6051 => (J218_t0_617 f L xs x4 m6051))))) else (if iAnd ((xs (x4).toNat).toInt) 15 = 5 then (bI (F165 f ((xs (wr (x4 + 1)).toNat).toInt) ((xs (wr (x4 + 2)).toNat).toInt) ((xs (wr (x4 + 3)).toNat).toInt) m) (fun r6108 m6110 => (bI (F166 f ((xs (wr (x4 + 1)).toNat).toInt) ((xs (wr (x4 + 2)).toNat).toInt) ((xs (wr (x4 + 3)).toNat).toInt) m6110) (fun r6158 m6160 => (J218_t0_617 f L xs x4 m6160))))) else (if iAnd ((xs (x4).toNat).toInt) 15 = 6 then (bI (F169 f ((xs (wr (x4 + 1)).toNat).toInt) ((xs (wr (x4 + 2)).toNat).toInt) m) (fun r6209 m6211 => (bI (F171 f ((xs (wr (x4 + 1)).toNat).toInt) ((xs (wr (x4 + 2)).toNat).toInt) m6211) (fun r6264 m6266 => (J218_t0_617 f L xs x4 m6266))))) else (if iAnd ((xs (x4).toNat).toInt) 15 = 7 then (bI (F173 f ((xs (wr (x4 + 1)).toNat).toInt) m) (fun r6301 m6303 => (bI (F174 f ((xs (wr (x4 + 1)).toNat).toInt) m6303) (fun r6327 m6329 => (J218_t0_617 f L xs x4 m6329))))) else (if iAnd ((xs (x4).toNat).toInt) 15 = 8 then (bI (F177 f ((xs (wr (x4 + 1)).toNat).toInt) m) (fun r6410 m6412 => (bI (F178 f ((xs (wr (x4 + 1)).toNat).toInt) m6412) (fun r6472 m6474 => (if F26 m6474 = r6410 then (if r6410 = 0 then (if lcm (Int64.ofInt (m6474 413 0)) (i2l r6472) = 0 then (J218_t0_450 f L xs x4 m6474) else (some (.inr (.inr (0, m6474))))) else (J218_t0_450 f L xs x4 m6474)) else (some (.inr (.inr (0, m6474))))))))) else (if iAnd ((xs (x4).toNat).toInt) 15 = 9 then (bI (F181 f ((xs (wr (x4 + 1)).toNat).toInt) ((xs (wr (x4 + 2)).toNat).toInt) m) (fun r6576 m6578 => (bI (F182 f ((xs (wr (x4 + 1)).toNat).toInt) ((xs (wr (x4 + 2)).toNat).toInt) m6578) (fun r6643 m6645 => (J218_t0_617 f L xs x4 m6645))))) else (if iAnd ((xs (x4).toNat).toInt) 15 = 10 then (bI (F184 f ((xs (wr (x4 + 1)).toNat).toInt) ((xs (wr (x4 + 2)).toNat).toInt) m) (fun r6708 m6710 => (bI (F185 f ((xs (wr (x4 + 1)).toNat).toInt) ((xs (wr (x4 + 2)).toNat).toInt) m6710) (fun r6763 m6765 => (J218_t0_617 f L xs x4 m6765))))) else (if iAnd ((xs (x4).toNat).toInt) 15 = 11 then (bI (F200 f m) (fun r7411 m7413 => (bI (F211 f m7413) (fun r8035 m8037 => (J218_t0_617 f L xs x4 m8037))))) else (if iAnd ((xs (x4).toNat).toInt) 15 = 12 then (bI (F213 f ((xs (wr (x4 + 1)).toNat).toInt) ((xs (wr (x4 + 2)).toNat).toInt) m) (fun r8083 m8085 => (bI (F214 f ((xs (wr (x4 + 1)).toNat).toInt) ((xs (wr (x4 + 2)).toNat).toInt) m8085) (fun r8128 m8130 => (J218_t0_617 f L xs x4 m8130))))) else (if iAnd ((xs (x4).toNat).toInt) 15 = 13 then (bI (F216 f ((xs (wr (x4 + 1)).toNat).toInt) m) (fun r8186 m8188 => (bI (F217 f ((xs (wr (x4 + 1)).toNat).toInt) m8188) (fun r8268 m8270 => (J218_t0_617 f L xs x4 m8270))))) else (J218_t0_617 f L xs x4 m))))))))))))))))
set_option maxRecDepth 100000 in
theorem tB218_t0_23 {L : Nat} {xs : Nat → Int32} {Q : xO → yM → Nat → Prop} {k d n : Nat} {c : yS3} {f : Nat} {x4 : Int} {m : yM} {j5 j6 : Option Value} (hk : k ≤ f) (hL : zLn (gZ L xs) ≤ 100000) (hLr : rg (L : Int)) (gx4 : rg x4) (hR : RM c m) (Hn : ∀ (y0 : Int) (z0 z1 : Option Value) (m' : yM) (n' : Nat), B218_t0_23 f L xs x4 m = some (.inl (y0, m')) → rg y0 → (∃ c, RM c m') → ∀ k', k' < k → PW (gZ L xs) k' 218 d 23 [some (.retAddr 0), some (.ref 0), some (.ref 376), some (.ref 413), some (yI y0), z0, z1] [] m' n' Q) (He : ∀ (y0 : Int) (z0 z1 : Option Value) (m' : yM) (n' : Nat), B218_t0_23 f L xs x4 m = some (.inr (.inl (y0, m'))) → rg y0 → (∃ c, RM c m') → ∀ k', k' ≤ k → PW (gZ L xs) k' 218 d 623 [some (.retAddr 0), some (.ref 0), some (.ref 376), some (.ref 413), some (yI y0), z0, z1] [] m' n' Q) (Hr : ∀ r m', B218_t0_23 f L xs x4 m = some (.inr (.inr (r, m'))) → rg r → (∃ c, RM c m') → ∀ n', Q (.inl (some (yI r))) m' n') : PW (gZ L xs) k 218 d 23 [some (.retAddr 0), some (.ref 0), some (.ref 376), some (.ref 413), some (yI x4), j5, j6] [] m n Q := by
  have hX : B218_t0_23 f L xs x4 m = B218_t0_23 f L xs x4 m := rfl
  refine p_iload 25 r_c218_23 rfl rfl ?_
  refine p_aload 26 r_c218_25 rfl rfl ?_
  refine p_slen 27 r_c218_26 rfl ?_
  refine p_top (L : Int) rfl ?_
  refine p_iconst 28 r_c218_27 rfl ?_
  refine p_isub 29 r_c218_28 rfl ?_
  refine p_icmp 623 32 r_c218_29 rfl rfl (yc_gt gx4 (rg_wr _)) (fun hb1 k2 hk2 => ?_) (fun hb1 k3 hk3 => ?_)
  · have hX4 := hX.trans (if_pos hb1)
    exact He _ _ _ _ _ hX4 gx4 ⟨_, hR⟩ _ (by omega)
  · have hX5 := hX.trans (if_neg hb1)
    refine p_aload 33 r_c218_32 rfl rfl ?_
    refine p_iload 35 r_c218_33 rfl rfl ?_
    refine p_script 36 r_c218_35 rfl hL gx4 (fun hx6 => ?_)
    refine p_top (xs (x4).toNat).toInt rfl ?_
    refine p_iconst 38 r_c218_36 rfl ?_
    refine p_iand 39 r_c218_38 rfl ?_
    by_cases hk7 : iAnd ((xs (x4).toNat).toInt) 15 = 0
    · have hX8 := hX5.trans (if_pos hk7)
      refine p_top 0 hk7 ?_
      refine p_tsw 108 r_c218_39 (rgD rfl) (by decide) rfl rfl ?_
      refine p_aload 109 r_c218_108 rfl rfl ?_
      refine p_aload 110 r_c218_109 rfl rfl ?_
      refine p_iload 112 r_c218_110 rfl rfl ?_
      refine p_iconst 113 r_c218_112 rfl ?_
      refine p_iadd 114 r_c218_113 rfl ?_
      refine p_script 115 r_c218_114 rfl hL (rg_wr _) (fun hx9 => ?_)
      refine p_top (xs (wr (x4 + 1)).toNat).toInt rfl ?_
      refine p_i2l 116 r_c218_115 rfl ?_
      refine p_iconst 118 r_c218_116 rfl ?_
      refine p_lshl 119 r_c218_118 rfl ?_
      refine p_aload 120 r_c218_119 rfl rfl ?_
      refine p_iload 122 r_c218_120 rfl rfl ?_
      refine p_iconst 123 r_c218_122 rfl ?_
      refine p_iadd 124 r_c218_123 rfl ?_
      refine p_script 125 r_c218_124 rfl hL (rg_wr _) (fun hx10 => ?_)
      refine p_top (xs (wr (x4 + 2)).toNat).toInt rfl ?_
      refine p_i2l 126 r_c218_125 rfl ?_
      refine p_lconst 129 r_c218_126 rfl ?_
      refine p_land 130 r_c218_129 rfl ?_
      refine p_lor 131 r_c218_130 rfl ?_
      refine p_aload 132 r_c218_131 rfl rfl ?_
      refine p_iload 134 r_c218_132 rfl rfl ?_
      refine p_iconst 135 r_c218_134 rfl ?_
      refine p_iadd 136 r_c218_135 rfl ?_
      refine p_script 137 r_c218_136 rfl hL (rg_wr _) (fun hx11 => ?_)
      refine p_top (xs (wr (x4 + 3)).toNat).toInt rfl ?_
      refine p_aload 138 r_c218_137 rfl rfl ?_
      refine p_cS 141 [.ref 0, .long ((lShl (i2l ((xs (wr (x4 + 1)).toNat).toInt)) 32) ||| ((i2l ((xs (wr (x4 + 2)).toNat).toInt)) &&& (Int64.ofInt 4294967295))), yI ((xs (wr (x4 + 3)).toNat).toInt), .ref 413] [] r_c218_138 rfl rfl rfl (fun k' hk' d' => d21 (f := f) (by omega) (rg_to _) hR) (fun r107 m109 hF105 hg106 hR110 n13 k12 hk12 => ?_)
      have hX108 := hX8.trans (bI_s hF105)
      refine p_istore 143 r_c218_141 rfl rfl ?_
      refine p_aload 144 r_c218_143 rfl rfl ?_
      refine p_aload 145 r_c218_144 rfl rfl ?_
      refine p_iload 147 r_c218_145 rfl rfl ?_
      refine p_iconst 148 r_c218_147 rfl ?_
      refine p_iadd 149 r_c218_148 rfl ?_
      refine p_script 150 r_c218_149 rfl hL (rg_wr _) (fun hx111 => ?_)
      refine p_top (xs (wr (x4 + 1)).toNat).toInt rfl ?_
      refine p_i2l 151 r_c218_150 rfl ?_
      refine p_iconst 153 r_c218_151 rfl ?_
      refine p_lshl 154 r_c218_153 rfl ?_
      refine p_aload 155 r_c218_154 rfl rfl ?_
      refine p_iload 157 r_c218_155 rfl rfl ?_
      refine p_iconst 158 r_c218_157 rfl ?_
      refine p_iadd 159 r_c218_158 rfl ?_
      refine p_script 160 r_c218_159 rfl hL (rg_wr _) (fun hx112 => ?_)
      refine p_top (xs (wr (x4 + 2)).toNat).toInt rfl ?_
      refine p_i2l 161 r_c218_160 rfl ?_
      refine p_lconst 164 r_c218_161 rfl ?_
      refine p_land 165 r_c218_164 rfl ?_
      refine p_lor 166 r_c218_165 rfl ?_
      refine p_aload 167 r_c218_166 rfl rfl ?_
      refine p_iload 169 r_c218_167 rfl rfl ?_
      refine p_iconst 170 r_c218_169 rfl ?_
      refine p_iadd 171 r_c218_170 rfl ?_
      refine p_script 172 r_c218_171 rfl hL (rg_wr _) (fun hx113 => ?_)
      refine p_top (xs (wr (x4 + 3)).toNat).toInt rfl ?_
      refine p_cS 175 [.ref 376, .long ((lShl (i2l ((xs (wr (x4 + 1)).toNat).toInt)) 32) ||| ((i2l ((xs (wr (x4 + 2)).toNat).toInt)) &&& (Int64.ofInt 4294967295))), yI ((xs (wr (x4 + 3)).toNat).toInt)] [] r_c218_172 rfl rfl rfl (fun k' hk' d' => d25 (f := f) (by omega) (rg_to _) hR110) (fun r218 m220 hF216 hg217 hR221 n115 k114 hk114 => ?_)
      have hX219 := hX108.trans (bI_s hF216)
      refine p_istore 177 r_c218_175 rfl rfl ?_
      refine p_goto 617 r_c218_177 rfl ?_
      exact tJ218_t0_617 (f := f) (by omega) hL hLr gx4 hR221 (fun y0 y1 y2 m' n' e' h0 hR' k' hk' => Hn y0 y1 y2 m' n' (hX219.trans e') h0 hR' k' (by omega)) (fun y0 y1 y2 m' n' e' h0 hR' k' hk' => He y0 y1 y2 m' n' (hX219.trans e') h0 hR' k' (by omega)) (fun r' m' e' => Hr r' m' (hX219.trans e'))
    have hX223 := hX5.trans (if_neg hk7)
    by_cases hk224 : iAnd ((xs (x4).toNat).toInt) 15 = 1
    · have hX225 := hX223.trans (if_pos hk224)
      refine p_top 1 hk224 ?_
      refine p_tsw 180 r_c218_39 (rgD rfl) (by decide) rfl rfl ?_
      refine p_aload 181 r_c218_180 rfl rfl ?_
      refine p_aload 182 r_c218_181 rfl rfl ?_
      refine p_iload 184 r_c218_182 rfl rfl ?_
      refine p_iconst 185 r_c218_184 rfl ?_
      refine p_iadd 186 r_c218_185 rfl ?_
      refine p_script 187 r_c218_186 rfl hL (rg_wr _) (fun hx226 => ?_)
      refine p_top (xs (wr (x4 + 1)).toNat).toInt rfl ?_
      refine p_aload 188 r_c218_187 rfl rfl ?_
      refine p_cS 191 [.ref 0, yI ((xs (wr (x4 + 1)).toNat).toInt), .ref 413] [] r_c218_188 rfl rfl rfl (fun k' hk' d' => d28 (f := f) (by omega) (rg_to _) hR) (fun r258 m260 hF256 hg257 hR261 n228 k227 hk227 => ?_)
      have hX259 := hX225.trans (bI_s hF256)
      refine p_istore 193 r_c218_191 rfl rfl ?_
      refine p_aload 194 r_c218_193 rfl rfl ?_
      refine p_aload 195 r_c218_194 rfl rfl ?_
      refine p_iload 197 r_c218_195 rfl rfl ?_
      refine p_iconst 198 r_c218_197 rfl ?_
      refine p_iadd 199 r_c218_198 rfl ?_
      refine p_script 200 r_c218_199 rfl hL (rg_wr _) (fun hx262 => ?_)
      refine p_top (xs (wr (x4 + 1)).toNat).toInt rfl ?_
      refine p_cS 203 [.ref 376, yI ((xs (wr (x4 + 1)).toNat).toInt)] [] r_c218_200 rfl rfl rfl (fun k' hk' d' => d29 (f := f) (by omega) (rg_to _) hR261) (fun r284 m286 hF282 hg283 hR287 n264 k263 hk263 => ?_)
      have hX285 := hX259.trans (bI_s hF282)
      refine p_istore 205 r_c218_203 rfl rfl ?_
      refine p_goto 617 r_c218_205 rfl ?_
      exact tJ218_t0_617 (f := f) (by omega) hL hLr gx4 hR287 (fun y0 y1 y2 m' n' e' h0 hR' k' hk' => Hn y0 y1 y2 m' n' (hX285.trans e') h0 hR' k' (by omega)) (fun y0 y1 y2 m' n' e' h0 hR' k' hk' => He y0 y1 y2 m' n' (hX285.trans e') h0 hR' k' (by omega)) (fun r' m' e' => Hr r' m' (hX285.trans e'))
    have hX288 := hX223.trans (if_neg hk224)
    by_cases hk289 : iAnd ((xs (x4).toNat).toInt) 15 = 2
    · have hX290 := hX288.trans (if_pos hk289)
      refine p_top 2 hk289 ?_
      refine p_tsw 208 r_c218_39 (rgD rfl) (by decide) rfl rfl ?_
      refine p_aload 209 r_c218_208 rfl rfl ?_
      refine p_aload 210 r_c218_209 rfl rfl ?_
      refine p_cSe 213 [.ref 0, .ref 413] [] r_c218_210 rfl rfl rfl (fun k' hk' d' => d95 (f := f) (by omega) hR) (fun r2874 m2876 c2878 hF2872 hg2873 hR2877 n292 k291 hk291 => ?_)
      have hX2875 := hX290.trans (bI_s hF2872)
      refine p_istore 215 r_c218_213 rfl rfl ?_
      refine p_aload 216 r_c218_215 rfl rfl ?_
      refine p_cS 219 [.ref 376] [] r_c218_216 rfl rfl rfl (fun k' hk' d' => d152 (f := f) (by omega) hR2877) (fun r5884 m5886 hF5882 hg5883 hR5887 n2880 k2879 hk2879 => ?_)
      have hX5885 := hX2875.trans (bI_s hF5882)
      refine p_istore 221 r_c218_219 rfl rfl ?_
      refine p_goto 617 r_c218_221 rfl ?_
      exact tJ218_t0_617 (f := f) (by omega) hL hLr gx4 hR5887 (fun y0 y1 y2 m' n' e' h0 hR' k' hk' => Hn y0 y1 y2 m' n' (hX5885.trans e') h0 hR' k' (by omega)) (fun y0 y1 y2 m' n' e' h0 hR' k' hk' => He y0 y1 y2 m' n' (hX5885.trans e') h0 hR' k' (by omega)) (fun r' m' e' => Hr r' m' (hX5885.trans e'))
    have hX5888 := hX288.trans (if_neg hk289)
    by_cases hk5889 : iAnd ((xs (x4).toNat).toInt) 15 = 3
    · have hX5890 := hX5888.trans (if_pos hk5889)
      refine p_top 3 hk5889 ?_
      refine p_tsw 224 r_c218_39 (rgD rfl) (by decide) rfl rfl ?_
      refine p_aload 225 r_c218_224 rfl rfl ?_
      refine p_cX 228 [.ref 0] [] r_c218_225 rfl rfl rfl (fun k' hk' d' => d153 hR) (fun hg5893 n5892 k5891 hk5891 => ?_)
      refine p_pop 229 r_c218_228 rfl rfl ?_
      refine p_aload 230 r_c218_229 rfl rfl ?_
      refine p_cS 233 [.ref 376] [] r_c218_230 rfl rfl rfl (fun k' hk' d' => d154 (f := f) (by omega) hR) (fun r5899 m5901 hF5897 hg5898 hR5902 n5895 k5894 hk5894 => ?_)
      have hX5900 := hX5890.trans (bI_s hF5897)
      refine p_pop 234 r_c218_233 rfl rfl ?_
      refine p_goto 617 r_c218_234 rfl ?_
      exact tJ218_t0_617 (f := f) (by omega) hL hLr gx4 hR5902 (fun y0 y1 y2 m' n' e' h0 hR' k' hk' => Hn y0 y1 y2 m' n' (hX5900.trans e') h0 hR' k' (by omega)) (fun y0 y1 y2 m' n' e' h0 hR' k' hk' => He y0 y1 y2 m' n' (hX5900.trans e') h0 hR' k' (by omega)) (fun r' m' e' => Hr r' m' (hX5900.trans e'))
    have hX5903 := hX5888.trans (if_neg hk5889)
    by_cases hk5904 : iAnd ((xs (x4).toNat).toInt) 15 = 4
    · have hX5905 := hX5903.trans (if_pos hk5904)
      refine p_top 4 hk5904 ?_
      refine p_tsw 237 r_c218_39 (rgD rfl) (by decide) rfl rfl ?_
      refine p_aload 238 r_c218_237 rfl rfl ?_
      refine p_aload 239 r_c218_238 rfl rfl ?_
      refine p_iload 241 r_c218_239 rfl rfl ?_
      refine p_iconst 242 r_c218_241 rfl ?_
      refine p_iadd 243 r_c218_242 rfl ?_
      refine p_script 244 r_c218_243 rfl hL (rg_wr _) (fun hx5906 => ?_)
      refine p_top (xs (wr (x4 + 1)).toNat).toInt rfl ?_
      refine p_aload 245 r_c218_244 rfl rfl ?_
      refine p_iload 247 r_c218_245 rfl rfl ?_
      refine p_iconst 248 r_c218_247 rfl ?_
      refine p_iadd 249 r_c218_248 rfl ?_
      refine p_script 250 r_c218_249 rfl hL (rg_wr _) (fun hx5907 => ?_)
      refine p_top (xs (wr (x4 + 2)).toNat).toInt rfl ?_
      refine p_aload 251 r_c218_250 rfl rfl ?_
      refine p_cS 254 [.ref 0, yI ((xs (wr (x4 + 1)).toNat).toInt), yI ((xs (wr (x4 + 2)).toNat).toInt), .ref 413] [] r_c218_251 rfl rfl rfl (fun k' hk' d' => d159 (f := f) (by omega) (rg_to _) (rg_to _) hR) (fun r5963 m5965 hF5961 hg5962 hR5966 n5909 k5908 hk5908 => ?_)
      have hX5964 := hX5905.trans (bI_s hF5961)
      refine p_istore 256 r_c218_254 rfl rfl ?_
      refine p_aload 257 r_c218_256 rfl rfl ?_
      refine p_aload 258 r_c218_257 rfl rfl ?_
      refine p_iload 260 r_c218_258 rfl rfl ?_
      refine p_iconst 261 r_c218_260 rfl ?_
      refine p_iadd 262 r_c218_261 rfl ?_
      refine p_script 263 r_c218_262 rfl hL (rg_wr _) (fun hx5967 => ?_)
      refine p_top (xs (wr (x4 + 1)).toNat).toInt rfl ?_
      refine p_aload 264 r_c218_263 rfl rfl ?_
      refine p_iload 266 r_c218_264 rfl rfl ?_
      refine p_iconst 267 r_c218_266 rfl ?_
      refine p_iadd 268 r_c218_267 rfl ?_
      refine p_script 269 r_c218_268 rfl hL (rg_wr _) (fun hx5968 => ?_)
      refine p_top (xs (wr (x4 + 2)).toNat).toInt rfl ?_
      refine p_cS 272 [.ref 376, yI ((xs (wr (x4 + 1)).toNat).toInt), yI ((xs (wr (x4 + 2)).toNat).toInt)] [] r_c218_269 rfl rfl rfl (fun k' hk' d' => d163 (f := f) (by omega) (rg_to _) (rg_to _) hR5966) (fun r6049 m6051 hF6047 hg6048 hR6052 n5970 k5969 hk5969 => ?_)
      have hX6050 := hX5964.trans (bI_s hF6047)
      refine p_istore 274 r_c218_272 rfl rfl ?_
      refine p_goto 617 r_c218_274 rfl ?_
      exact tJ218_t0_617 (f := f) (by omega) hL hLr gx4 hR6052 (fun y0 y1 y2 m' n' e' h0 hR' k' hk' => Hn y0 y1 y2 m' n' (hX6050.trans e') h0 hR' k' (by omega)) (fun y0 y1 y2 m' n' e' h0 hR' k' hk' => He y0 y1 y2 m' n' (hX6050.trans e') h0 hR' k' (by omega)) (fun r' m' e' => Hr r' m' (hX6050.trans e'))
    have hX6053 := hX5903.trans (if_neg hk5904)
    by_cases hk6054 : iAnd ((xs (x4).toNat).toInt) 15 = 5
    · have hX6055 := hX6053.trans (if_pos hk6054)
      refine p_top 5 hk6054 ?_
      refine p_tsw 277 r_c218_39 (rgD rfl) (by decide) rfl rfl ?_
      refine p_aload 278 r_c218_277 rfl rfl ?_
      refine p_aload 279 r_c218_278 rfl rfl ?_
      refine p_iload 281 r_c218_279 rfl rfl ?_
      refine p_iconst 282 r_c218_281 rfl ?_
      refine p_iadd 283 r_c218_282 rfl ?_
      refine p_script 284 r_c218_283 rfl hL (rg_wr _) (fun hx6056 => ?_)
      refine p_top (xs (wr (x4 + 1)).toNat).toInt rfl ?_
      refine p_aload 285 r_c218_284 rfl rfl ?_
      refine p_iload 287 r_c218_285 rfl rfl ?_
      refine p_iconst 288 r_c218_287 rfl ?_
      refine p_iadd 289 r_c218_288 rfl ?_
      refine p_script 290 r_c218_289 rfl hL (rg_wr _) (fun hx6057 => ?_)
      refine p_top (xs (wr (x4 + 2)).toNat).toInt rfl ?_
      refine p_aload 291 r_c218_290 rfl rfl ?_
      refine p_iload 293 r_c218_291 rfl rfl ?_
      refine p_iconst 294 r_c218_293 rfl ?_
      refine p_iadd 295 r_c218_294 rfl ?_
      refine p_script 296 r_c218_295 rfl hL (rg_wr _) (fun hx6058 => ?_)
      refine p_top (xs (wr (x4 + 3)).toNat).toInt rfl ?_
      refine p_aload 297 r_c218_296 rfl rfl ?_
      refine p_cS 300 [.ref 0, yI ((xs (wr (x4 + 1)).toNat).toInt), yI ((xs (wr (x4 + 2)).toNat).toInt), yI ((xs (wr (x4 + 3)).toNat).toInt), .ref 413] [] r_c218_297 rfl rfl rfl (fun k' hk' d' => d165 (f := f) (by omega) (rg_to _) (rg_to _) (rg_to _) hR) (fun r6108 m6110 hF6106 hg6107 hR6111 n6060 k6059 hk6059 => ?_)
      have hX6109 := hX6055.trans (bI_s hF6106)
      refine p_istore 302 r_c218_300 rfl rfl ?_
      refine p_aload 303 r_c218_302 rfl rfl ?_
      refine p_aload 304 r_c218_303 rfl rfl ?_
      refine p_iload 306 r_c218_304 rfl rfl ?_
      refine p_iconst 307 r_c218_306 rfl ?_
      refine p_iadd 308 r_c218_307 rfl ?_
      refine p_script 309 r_c218_308 rfl hL (rg_wr _) (fun hx6112 => ?_)
      refine p_top (xs (wr (x4 + 1)).toNat).toInt rfl ?_
      refine p_aload 310 r_c218_309 rfl rfl ?_
      refine p_iload 312 r_c218_310 rfl rfl ?_
      refine p_iconst 313 r_c218_312 rfl ?_
      refine p_iadd 314 r_c218_313 rfl ?_
      refine p_script 315 r_c218_314 rfl hL (rg_wr _) (fun hx6113 => ?_)
      refine p_top (xs (wr (x4 + 2)).toNat).toInt rfl ?_
      refine p_aload 316 r_c218_315 rfl rfl ?_
      refine p_iload 318 r_c218_316 rfl rfl ?_
      refine p_iconst 319 r_c218_318 rfl ?_
      refine p_iadd 320 r_c218_319 rfl ?_
      refine p_script 321 r_c218_320 rfl hL (rg_wr _) (fun hx6114 => ?_)
      refine p_top (xs (wr (x4 + 3)).toNat).toInt rfl ?_
      refine p_cS 324 [.ref 376, yI ((xs (wr (x4 + 1)).toNat).toInt), yI ((xs (wr (x4 + 2)).toNat).toInt), yI ((xs (wr (x4 + 3)).toNat).toInt)] [] r_c218_321 rfl rfl rfl (fun k' hk' d' => d166 (f := f) (by omega) (rg_to _) (rg_to _) (rg_to _) hR6111) (fun r6158 m6160 hF6156 hg6157 hR6161 n6116 k6115 hk6115 => ?_)
      have hX6159 := hX6109.trans (bI_s hF6156)
      refine p_istore 326 r_c218_324 rfl rfl ?_
      refine p_goto 617 r_c218_326 rfl ?_
      exact tJ218_t0_617 (f := f) (by omega) hL hLr gx4 hR6161 (fun y0 y1 y2 m' n' e' h0 hR' k' hk' => Hn y0 y1 y2 m' n' (hX6159.trans e') h0 hR' k' (by omega)) (fun y0 y1 y2 m' n' e' h0 hR' k' hk' => He y0 y1 y2 m' n' (hX6159.trans e') h0 hR' k' (by omega)) (fun r' m' e' => Hr r' m' (hX6159.trans e'))
    have hX6162 := hX6053.trans (if_neg hk6054)
    by_cases hk6163 : iAnd ((xs (x4).toNat).toInt) 15 = 6
    · have hX6164 := hX6162.trans (if_pos hk6163)
      refine p_top 6 hk6163 ?_
      refine p_tsw 329 r_c218_39 (rgD rfl) (by decide) rfl rfl ?_
      refine p_aload 330 r_c218_329 rfl rfl ?_
      refine p_aload 331 r_c218_330 rfl rfl ?_
      refine p_iload 333 r_c218_331 rfl rfl ?_
      refine p_iconst 334 r_c218_333 rfl ?_
      refine p_iadd 335 r_c218_334 rfl ?_
      refine p_script 336 r_c218_335 rfl hL (rg_wr _) (fun hx6165 => ?_)
      refine p_top (xs (wr (x4 + 1)).toNat).toInt rfl ?_
      refine p_aload 337 r_c218_336 rfl rfl ?_
      refine p_iload 339 r_c218_337 rfl rfl ?_
      refine p_iconst 340 r_c218_339 rfl ?_
      refine p_iadd 341 r_c218_340 rfl ?_
      refine p_script 342 r_c218_341 rfl hL (rg_wr _) (fun hx6166 => ?_)
      refine p_top (xs (wr (x4 + 2)).toNat).toInt rfl ?_
      refine p_aload 343 r_c218_342 rfl rfl ?_
      refine p_cS 346 [.ref 0, yI ((xs (wr (x4 + 1)).toNat).toInt), yI ((xs (wr (x4 + 2)).toNat).toInt), .ref 413] [] r_c218_343 rfl rfl rfl (fun k' hk' d' => d169 (f := f) (by omega) (rg_to _) (rg_to _) hR) (fun r6209 m6211 hF6207 hg6208 hR6212 n6168 k6167 hk6167 => ?_)
      have hX6210 := hX6164.trans (bI_s hF6207)
      refine p_istore 348 r_c218_346 rfl rfl ?_
      refine p_aload 349 r_c218_348 rfl rfl ?_
      refine p_aload 350 r_c218_349 rfl rfl ?_
      refine p_iload 352 r_c218_350 rfl rfl ?_
      refine p_iconst 353 r_c218_352 rfl ?_
      refine p_iadd 354 r_c218_353 rfl ?_
      refine p_script 355 r_c218_354 rfl hL (rg_wr _) (fun hx6213 => ?_)
      refine p_top (xs (wr (x4 + 1)).toNat).toInt rfl ?_
      refine p_aload 356 r_c218_355 rfl rfl ?_
      refine p_iload 358 r_c218_356 rfl rfl ?_
      refine p_iconst 359 r_c218_358 rfl ?_
      refine p_iadd 360 r_c218_359 rfl ?_
      refine p_script 361 r_c218_360 rfl hL (rg_wr _) (fun hx6214 => ?_)
      refine p_top (xs (wr (x4 + 2)).toNat).toInt rfl ?_
      refine p_cS 364 [.ref 376, yI ((xs (wr (x4 + 1)).toNat).toInt), yI ((xs (wr (x4 + 2)).toNat).toInt)] [] r_c218_361 rfl rfl rfl (fun k' hk' d' => d171 (f := f) (by omega) (rg_to _) (rg_to _) hR6212) (fun r6264 m6266 hF6262 hg6263 hR6267 n6216 k6215 hk6215 => ?_)
      have hX6265 := hX6210.trans (bI_s hF6262)
      refine p_istore 366 r_c218_364 rfl rfl ?_
      refine p_goto 617 r_c218_366 rfl ?_
      exact tJ218_t0_617 (f := f) (by omega) hL hLr gx4 hR6267 (fun y0 y1 y2 m' n' e' h0 hR' k' hk' => Hn y0 y1 y2 m' n' (hX6265.trans e') h0 hR' k' (by omega)) (fun y0 y1 y2 m' n' e' h0 hR' k' hk' => He y0 y1 y2 m' n' (hX6265.trans e') h0 hR' k' (by omega)) (fun r' m' e' => Hr r' m' (hX6265.trans e'))
    have hX6268 := hX6162.trans (if_neg hk6163)
    by_cases hk6269 : iAnd ((xs (x4).toNat).toInt) 15 = 7
    · have hX6270 := hX6268.trans (if_pos hk6269)
      refine p_top 7 hk6269 ?_
      refine p_tsw 369 r_c218_39 (rgD rfl) (by decide) rfl rfl ?_
      refine p_aload 370 r_c218_369 rfl rfl ?_
      refine p_aload 371 r_c218_370 rfl rfl ?_
      refine p_iload 373 r_c218_371 rfl rfl ?_
      refine p_iconst 374 r_c218_373 rfl ?_
      refine p_iadd 375 r_c218_374 rfl ?_
      refine p_script 376 r_c218_375 rfl hL (rg_wr _) (fun hx6271 => ?_)
      refine p_top (xs (wr (x4 + 1)).toNat).toInt rfl ?_
      refine p_aload 377 r_c218_376 rfl rfl ?_
      refine p_cS 380 [.ref 0, yI ((xs (wr (x4 + 1)).toNat).toInt), .ref 413] [] r_c218_377 rfl rfl rfl (fun k' hk' d' => d173 (f := f) (by omega) (rg_to _) hR) (fun r6301 m6303 hF6299 hg6300 hR6304 n6273 k6272 hk6272 => ?_)
      have hX6302 := hX6270.trans (bI_s hF6299)
      refine p_istore 382 r_c218_380 rfl rfl ?_
      refine p_aload 383 r_c218_382 rfl rfl ?_
      refine p_aload 384 r_c218_383 rfl rfl ?_
      refine p_iload 386 r_c218_384 rfl rfl ?_
      refine p_iconst 387 r_c218_386 rfl ?_
      refine p_iadd 388 r_c218_387 rfl ?_
      refine p_script 389 r_c218_388 rfl hL (rg_wr _) (fun hx6305 => ?_)
      refine p_top (xs (wr (x4 + 1)).toNat).toInt rfl ?_
      refine p_cS 392 [.ref 376, yI ((xs (wr (x4 + 1)).toNat).toInt)] [] r_c218_389 rfl rfl rfl (fun k' hk' d' => d174 (f := f) (by omega) (rg_to _) hR6304) (fun r6327 m6329 hF6325 hg6326 hR6330 n6307 k6306 hk6306 => ?_)
      have hX6328 := hX6302.trans (bI_s hF6325)
      refine p_istore 394 r_c218_392 rfl rfl ?_
      refine p_goto 617 r_c218_394 rfl ?_
      exact tJ218_t0_617 (f := f) (by omega) hL hLr gx4 hR6330 (fun y0 y1 y2 m' n' e' h0 hR' k' hk' => Hn y0 y1 y2 m' n' (hX6328.trans e') h0 hR' k' (by omega)) (fun y0 y1 y2 m' n' e' h0 hR' k' hk' => He y0 y1 y2 m' n' (hX6328.trans e') h0 hR' k' (by omega)) (fun r' m' e' => Hr r' m' (hX6328.trans e'))
    have hX6331 := hX6268.trans (if_neg hk6269)
    by_cases hk6332 : iAnd ((xs (x4).toNat).toInt) 15 = 8
    · have hX6333 := hX6331.trans (if_pos hk6332)
      refine p_top 8 hk6332 ?_
      refine p_tsw 397 r_c218_39 (rgD rfl) (by decide) rfl rfl ?_
      refine p_aload 398 r_c218_397 rfl rfl ?_
      refine p_aload 399 r_c218_398 rfl rfl ?_
      refine p_iload 401 r_c218_399 rfl rfl ?_
      refine p_iconst 402 r_c218_401 rfl ?_
      refine p_iadd 403 r_c218_402 rfl ?_
      refine p_script 404 r_c218_403 rfl hL (rg_wr _) (fun hx6334 => ?_)
      refine p_top (xs (wr (x4 + 1)).toNat).toInt rfl ?_
      refine p_aload 405 r_c218_404 rfl rfl ?_
      refine p_cS 408 [.ref 0, yI ((xs (wr (x4 + 1)).toNat).toInt), .ref 413] [] r_c218_405 rfl rfl rfl (fun k' hk' d' => d177 (f := f) (by omega) (rg_to _) hR) (fun r6410 m6412 hF6408 hg6409 hR6413 n6336 k6335 hk6335 => ?_)
      have hX6411 := hX6333.trans (bI_s hF6408)
      refine p_istore 410 r_c218_408 rfl rfl ?_
      refine p_aload 411 r_c218_410 rfl rfl ?_
      refine p_aload 412 r_c218_411 rfl rfl ?_
      refine p_iload 414 r_c218_412 rfl rfl ?_
      refine p_iconst 415 r_c218_414 rfl ?_
      refine p_iadd 416 r_c218_415 rfl ?_
      refine p_script 417 r_c218_416 rfl hL (rg_wr _) (fun hx6414 => ?_)
      refine p_top (xs (wr (x4 + 1)).toNat).toInt rfl ?_
      refine p_cS 420 [.ref 376, yI ((xs (wr (x4 + 1)).toNat).toInt)] [] r_c218_417 rfl rfl rfl (fun k' hk' d' => d178 (f := f) (by omega) (rg_to _) hR6413) (fun r6472 m6474 hF6470 hg6471 hR6475 n6416 k6415 hk6415 => ?_)
      have hX6473 := hX6411.trans (bI_s hF6470)
      refine p_istore 422 r_c218_420 rfl rfl ?_
      refine p_aload 423 r_c218_422 rfl rfl ?_
      refine p_cX 426 [.ref 376] [] r_c218_423 rfl rfl rfl (fun k' hk' d' => d26 hR6475) (fun hg6478 n6477 k6476 hk6476 => ?_)
      refine p_iload 428 r_c218_426 rfl rfl ?_
      refine p_icmp 433 431 r_c218_428 rfl rfl (yc_eq hg6478 hg6409) (fun hb6479 k6480 hk6480 => ?_) (fun hb6479 k6481 hk6481 => ?_)
      · have hX6482 := hX6473.trans (if_pos hb6479)
        refine p_iload 435 r_c218_433 rfl rfl ?_
        refine p_if 450 438 r_c218_435 rfl rfl (yz_ne hg6409) (fun hb6483 k6484 hk6484 => ?_) (fun hb6483 k6485 hk6485 => ?_)
        · have hX6486 := hX6482.trans (if_neg hb6483)
          exact tJ218_t0_450 (f := f) (by omega) hL hLr gx4 hR6475 (fun y0 y1 y2 m' n' e' h0 hR' k' hk' => Hn y0 y1 y2 m' n' (hX6486.trans e') h0 hR' k' (by omega)) (fun y0 y1 y2 m' n' e' h0 hR' k' hk' => He y0 y1 y2 m' n' (hX6486.trans e') h0 hR' k' (by omega)) (fun r' m' e' => Hr r' m' (hX6486.trans e'))
        · have hX6487 := hX6482.trans (if_pos (Classical.not_not.mp hb6483))
          refine p_aload 439 r_c218_438 rfl rfl ?_
          refine p_iconst 440 r_c218_439 rfl ?_
          refine p_laX 441 (Int64.ofInt (m6474 413 0)) r_c218_440 rfl kl413 (rgD rfl) (congrArg Int64.ofInt rfl) (fun hx6488 => ?_)
          refine p_iload 443 r_c218_441 rfl rfl ?_
          refine p_i2l 444 r_c218_443 rfl ?_
          refine p_lcmp 445 r_c218_444 rfl ?_
          refine p_if 450 448 r_c218_445 rfl rfl (yz_eq (rg_to _)) (fun hb6489 k6490 hk6490 => ?_) (fun hb6489 k6491 hk6491 => ?_)
          · have hX6492 := hX6487.trans (if_pos hb6489)
            exact tJ218_t0_450 (f := f) (by omega) hL hLr gx4 hR6475 (fun y0 y1 y2 m' n' e' h0 hR' k' hk' => Hn y0 y1 y2 m' n' (hX6492.trans e') h0 hR' k' (by omega)) (fun y0 y1 y2 m' n' e' h0 hR' k' hk' => He y0 y1 y2 m' n' (hX6492.trans e') h0 hR' k' (by omega)) (fun r' m' e' => Hr r' m' (hX6492.trans e'))
          · have hX6493 := hX6487.trans (if_neg hb6489)
            refine p_iconst 449 r_c218_448 rfl ?_
            exact p_ireturn r_c218_449 (Hr _ _ hX6493 (rgD rfl) ⟨_, hR6475⟩ _)
      · have hX6494 := hX6473.trans (if_neg hb6479)
        refine p_iconst 432 r_c218_431 rfl ?_
        exact p_ireturn r_c218_432 (Hr _ _ hX6494 (rgD rfl) ⟨_, hR6475⟩ _)
    have hX6495 := hX6331.trans (if_neg hk6332)
    by_cases hk6496 : iAnd ((xs (x4).toNat).toInt) 15 = 9
    · have hX6497 := hX6495.trans (if_pos hk6496)
      refine p_top 9 hk6496 ?_
      refine p_tsw 453 r_c218_39 (rgD rfl) (by decide) rfl rfl ?_
      refine p_aload 454 r_c218_453 rfl rfl ?_
      refine p_aload 455 r_c218_454 rfl rfl ?_
      refine p_iload 457 r_c218_455 rfl rfl ?_
      refine p_iconst 458 r_c218_457 rfl ?_
      refine p_iadd 459 r_c218_458 rfl ?_
      refine p_script 460 r_c218_459 rfl hL (rg_wr _) (fun hx6498 => ?_)
      refine p_top (xs (wr (x4 + 1)).toNat).toInt rfl ?_
      refine p_aload 461 r_c218_460 rfl rfl ?_
      refine p_iload 463 r_c218_461 rfl rfl ?_
      refine p_iconst 464 r_c218_463 rfl ?_
      refine p_iadd 465 r_c218_464 rfl ?_
      refine p_script 466 r_c218_465 rfl hL (rg_wr _) (fun hx6499 => ?_)
      refine p_top (xs (wr (x4 + 2)).toNat).toInt rfl ?_
      refine p_aload 467 r_c218_466 rfl rfl ?_
      refine p_cS 470 [.ref 0, yI ((xs (wr (x4 + 1)).toNat).toInt), yI ((xs (wr (x4 + 2)).toNat).toInt), .ref 413] [] r_c218_467 rfl rfl rfl (fun k' hk' d' => d181 (f := f) (by omega) (rg_to _) (rg_to _) hR) (fun r6576 m6578 hF6574 hg6575 hR6579 n6501 k6500 hk6500 => ?_)
      have hX6577 := hX6497.trans (bI_s hF6574)
      refine p_istore 472 r_c218_470 rfl rfl ?_
      refine p_aload 473 r_c218_472 rfl rfl ?_
      refine p_aload 474 r_c218_473 rfl rfl ?_
      refine p_iload 476 r_c218_474 rfl rfl ?_
      refine p_iconst 477 r_c218_476 rfl ?_
      refine p_iadd 478 r_c218_477 rfl ?_
      refine p_script 479 r_c218_478 rfl hL (rg_wr _) (fun hx6580 => ?_)
      refine p_top (xs (wr (x4 + 1)).toNat).toInt rfl ?_
      refine p_aload 480 r_c218_479 rfl rfl ?_
      refine p_iload 482 r_c218_480 rfl rfl ?_
      refine p_iconst 483 r_c218_482 rfl ?_
      refine p_iadd 484 r_c218_483 rfl ?_
      refine p_script 485 r_c218_484 rfl hL (rg_wr _) (fun hx6581 => ?_)
      refine p_top (xs (wr (x4 + 2)).toNat).toInt rfl ?_
      refine p_cS 488 [.ref 376, yI ((xs (wr (x4 + 1)).toNat).toInt), yI ((xs (wr (x4 + 2)).toNat).toInt)] [] r_c218_485 rfl rfl rfl (fun k' hk' d' => d182 (f := f) (by omega) (rg_to _) (rg_to _) hR6579) (fun r6643 m6645 hF6641 hg6642 hR6646 n6583 k6582 hk6582 => ?_)
      have hX6644 := hX6577.trans (bI_s hF6641)
      refine p_istore 490 r_c218_488 rfl rfl ?_
      refine p_goto 617 r_c218_490 rfl ?_
      exact tJ218_t0_617 (f := f) (by omega) hL hLr gx4 hR6646 (fun y0 y1 y2 m' n' e' h0 hR' k' hk' => Hn y0 y1 y2 m' n' (hX6644.trans e') h0 hR' k' (by omega)) (fun y0 y1 y2 m' n' e' h0 hR' k' hk' => He y0 y1 y2 m' n' (hX6644.trans e') h0 hR' k' (by omega)) (fun r' m' e' => Hr r' m' (hX6644.trans e'))
    have hX6647 := hX6495.trans (if_neg hk6496)
    by_cases hk6648 : iAnd ((xs (x4).toNat).toInt) 15 = 10
    · have hX6649 := hX6647.trans (if_pos hk6648)
      refine p_top 10 hk6648 ?_
      refine p_tsw 493 r_c218_39 (rgD rfl) (by decide) rfl rfl ?_
      refine p_aload 494 r_c218_493 rfl rfl ?_
      refine p_aload 495 r_c218_494 rfl rfl ?_
      refine p_iload 497 r_c218_495 rfl rfl ?_
      refine p_iconst 498 r_c218_497 rfl ?_
      refine p_iadd 499 r_c218_498 rfl ?_
      refine p_script 500 r_c218_499 rfl hL (rg_wr _) (fun hx6650 => ?_)
      refine p_top (xs (wr (x4 + 1)).toNat).toInt rfl ?_
      refine p_aload 501 r_c218_500 rfl rfl ?_
      refine p_iload 503 r_c218_501 rfl rfl ?_
      refine p_iconst 504 r_c218_503 rfl ?_
      refine p_iadd 505 r_c218_504 rfl ?_
      refine p_script 506 r_c218_505 rfl hL (rg_wr _) (fun hx6651 => ?_)
      refine p_top (xs (wr (x4 + 2)).toNat).toInt rfl ?_
      refine p_aload 507 r_c218_506 rfl rfl ?_
      refine p_cS 510 [.ref 0, yI ((xs (wr (x4 + 1)).toNat).toInt), yI ((xs (wr (x4 + 2)).toNat).toInt), .ref 413] [] r_c218_507 rfl rfl rfl (fun k' hk' d' => d184 (f := f) (by omega) (rg_to _) (rg_to _) hR) (fun r6708 m6710 hF6706 hg6707 hR6711 n6653 k6652 hk6652 => ?_)
      have hX6709 := hX6649.trans (bI_s hF6706)
      refine p_istore 512 r_c218_510 rfl rfl ?_
      refine p_aload 513 r_c218_512 rfl rfl ?_
      refine p_aload 514 r_c218_513 rfl rfl ?_
      refine p_iload 516 r_c218_514 rfl rfl ?_
      refine p_iconst 517 r_c218_516 rfl ?_
      refine p_iadd 518 r_c218_517 rfl ?_
      refine p_script 519 r_c218_518 rfl hL (rg_wr _) (fun hx6712 => ?_)
      refine p_top (xs (wr (x4 + 1)).toNat).toInt rfl ?_
      refine p_aload 520 r_c218_519 rfl rfl ?_
      refine p_iload 522 r_c218_520 rfl rfl ?_
      refine p_iconst 523 r_c218_522 rfl ?_
      refine p_iadd 524 r_c218_523 rfl ?_
      refine p_script 525 r_c218_524 rfl hL (rg_wr _) (fun hx6713 => ?_)
      refine p_top (xs (wr (x4 + 2)).toNat).toInt rfl ?_
      refine p_cS 528 [.ref 376, yI ((xs (wr (x4 + 1)).toNat).toInt), yI ((xs (wr (x4 + 2)).toNat).toInt)] [] r_c218_525 rfl rfl rfl (fun k' hk' d' => d185 (f := f) (by omega) (rg_to _) (rg_to _) hR6711) (fun r6763 m6765 hF6761 hg6762 hR6766 n6715 k6714 hk6714 => ?_)
      have hX6764 := hX6709.trans (bI_s hF6761)
      refine p_istore 530 r_c218_528 rfl rfl ?_
      refine p_goto 617 r_c218_530 rfl ?_
      exact tJ218_t0_617 (f := f) (by omega) hL hLr gx4 hR6766 (fun y0 y1 y2 m' n' e' h0 hR' k' hk' => Hn y0 y1 y2 m' n' (hX6764.trans e') h0 hR' k' (by omega)) (fun y0 y1 y2 m' n' e' h0 hR' k' hk' => He y0 y1 y2 m' n' (hX6764.trans e') h0 hR' k' (by omega)) (fun r' m' e' => Hr r' m' (hX6764.trans e'))
    have hX6767 := hX6647.trans (if_neg hk6648)
    by_cases hk6768 : iAnd ((xs (x4).toNat).toInt) 15 = 11
    · have hX6769 := hX6767.trans (if_pos hk6768)
      refine p_top 11 hk6768 ?_
      refine p_tsw 533 r_c218_39 (rgD rfl) (by decide) rfl rfl ?_
      refine p_aload 534 r_c218_533 rfl rfl ?_
      refine p_aload 535 r_c218_534 rfl rfl ?_
      refine p_cSe 538 [.ref 0, .ref 413] [] r_c218_535 rfl rfl rfl (fun k' hk' d' => d200 (f := f) (by omega) hR) (fun r7411 m7413 c7415 hF7409 hg7410 hR7414 n6771 k6770 hk6770 => ?_)
      have hX7412 := hX6769.trans (bI_s hF7409)
      refine p_istore 540 r_c218_538 rfl rfl ?_
      refine p_aload 541 r_c218_540 rfl rfl ?_
      refine p_cS 544 [.ref 376] [] r_c218_541 rfl rfl rfl (fun k' hk' d' => d211 (f := f) (by omega) hR7414) (fun r8035 m8037 hF8033 hg8034 hR8038 n7417 k7416 hk7416 => ?_)
      have hX8036 := hX7412.trans (bI_s hF8033)
      refine p_istore 546 r_c218_544 rfl rfl ?_
      refine p_goto 617 r_c218_546 rfl ?_
      exact tJ218_t0_617 (f := f) (by omega) hL hLr gx4 hR8038 (fun y0 y1 y2 m' n' e' h0 hR' k' hk' => Hn y0 y1 y2 m' n' (hX8036.trans e') h0 hR' k' (by omega)) (fun y0 y1 y2 m' n' e' h0 hR' k' hk' => He y0 y1 y2 m' n' (hX8036.trans e') h0 hR' k' (by omega)) (fun r' m' e' => Hr r' m' (hX8036.trans e'))
    have hX8039 := hX6767.trans (if_neg hk6768)
    by_cases hk8040 : iAnd ((xs (x4).toNat).toInt) 15 = 12
    · have hX8041 := hX8039.trans (if_pos hk8040)
      refine p_top 12 hk8040 ?_
      refine p_tsw 549 r_c218_39 (rgD rfl) (by decide) rfl rfl ?_
      refine p_aload 550 r_c218_549 rfl rfl ?_
      refine p_aload 551 r_c218_550 rfl rfl ?_
      refine p_iload 553 r_c218_551 rfl rfl ?_
      refine p_iconst 554 r_c218_553 rfl ?_
      refine p_iadd 555 r_c218_554 rfl ?_
      refine p_script 556 r_c218_555 rfl hL (rg_wr _) (fun hx8042 => ?_)
      refine p_top (xs (wr (x4 + 1)).toNat).toInt rfl ?_
      refine p_aload 557 r_c218_556 rfl rfl ?_
      refine p_iload 559 r_c218_557 rfl rfl ?_
      refine p_iconst 560 r_c218_559 rfl ?_
      refine p_iadd 561 r_c218_560 rfl ?_
      refine p_script 562 r_c218_561 rfl hL (rg_wr _) (fun hx8043 => ?_)
      refine p_top (xs (wr (x4 + 2)).toNat).toInt rfl ?_
      refine p_aload 563 r_c218_562 rfl rfl ?_
      refine p_cS 566 [.ref 0, yI ((xs (wr (x4 + 1)).toNat).toInt), yI ((xs (wr (x4 + 2)).toNat).toInt), .ref 413] [] r_c218_563 rfl rfl rfl (fun k' hk' d' => d213 (f := f) (by omega) (rg_to _) (rg_to _) hR) (fun r8083 m8085 hF8081 hg8082 hR8086 n8045 k8044 hk8044 => ?_)
      have hX8084 := hX8041.trans (bI_s hF8081)
      refine p_istore 568 r_c218_566 rfl rfl ?_
      refine p_aload 569 r_c218_568 rfl rfl ?_
      refine p_aload 570 r_c218_569 rfl rfl ?_
      refine p_iload 572 r_c218_570 rfl rfl ?_
      refine p_iconst 573 r_c218_572 rfl ?_
      refine p_iadd 574 r_c218_573 rfl ?_
      refine p_script 575 r_c218_574 rfl hL (rg_wr _) (fun hx8087 => ?_)
      refine p_top (xs (wr (x4 + 1)).toNat).toInt rfl ?_
      refine p_aload 576 r_c218_575 rfl rfl ?_
      refine p_iload 578 r_c218_576 rfl rfl ?_
      refine p_iconst 579 r_c218_578 rfl ?_
      refine p_iadd 580 r_c218_579 rfl ?_
      refine p_script 581 r_c218_580 rfl hL (rg_wr _) (fun hx8088 => ?_)
      refine p_top (xs (wr (x4 + 2)).toNat).toInt rfl ?_
      refine p_cS 584 [.ref 376, yI ((xs (wr (x4 + 1)).toNat).toInt), yI ((xs (wr (x4 + 2)).toNat).toInt)] [] r_c218_581 rfl rfl rfl (fun k' hk' d' => d214 (f := f) (by omega) (rg_to _) (rg_to _) hR8086) (fun r8128 m8130 hF8126 hg8127 hR8131 n8090 k8089 hk8089 => ?_)
      have hX8129 := hX8084.trans (bI_s hF8126)
      refine p_istore 586 r_c218_584 rfl rfl ?_
      refine p_goto 617 r_c218_586 rfl ?_
      exact tJ218_t0_617 (f := f) (by omega) hL hLr gx4 hR8131 (fun y0 y1 y2 m' n' e' h0 hR' k' hk' => Hn y0 y1 y2 m' n' (hX8129.trans e') h0 hR' k' (by omega)) (fun y0 y1 y2 m' n' e' h0 hR' k' hk' => He y0 y1 y2 m' n' (hX8129.trans e') h0 hR' k' (by omega)) (fun r' m' e' => Hr r' m' (hX8129.trans e'))
    have hX8132 := hX8039.trans (if_neg hk8040)
    by_cases hk8133 : iAnd ((xs (x4).toNat).toInt) 15 = 13
    · have hX8134 := hX8132.trans (if_pos hk8133)
      refine p_top 13 hk8133 ?_
      refine p_tsw 589 r_c218_39 (rgD rfl) (by decide) rfl rfl ?_
      refine p_aload 590 r_c218_589 rfl rfl ?_
      refine p_aload 591 r_c218_590 rfl rfl ?_
      refine p_iload 593 r_c218_591 rfl rfl ?_
      refine p_iconst 594 r_c218_593 rfl ?_
      refine p_iadd 595 r_c218_594 rfl ?_
      refine p_script 596 r_c218_595 rfl hL (rg_wr _) (fun hx8135 => ?_)
      refine p_top (xs (wr (x4 + 1)).toNat).toInt rfl ?_
      refine p_aload 597 r_c218_596 rfl rfl ?_
      refine p_cS 600 [.ref 0, yI ((xs (wr (x4 + 1)).toNat).toInt), .ref 413] [] r_c218_597 rfl rfl rfl (fun k' hk' d' => d216 (f := f) (by omega) (rg_to _) hR) (fun r8186 m8188 hF8184 hg8185 hR8189 n8137 k8136 hk8136 => ?_)
      have hX8187 := hX8134.trans (bI_s hF8184)
      refine p_istore 602 r_c218_600 rfl rfl ?_
      refine p_aload 603 r_c218_602 rfl rfl ?_
      refine p_aload 604 r_c218_603 rfl rfl ?_
      refine p_iload 606 r_c218_604 rfl rfl ?_
      refine p_iconst 607 r_c218_606 rfl ?_
      refine p_iadd 608 r_c218_607 rfl ?_
      refine p_script 609 r_c218_608 rfl hL (rg_wr _) (fun hx8190 => ?_)
      refine p_top (xs (wr (x4 + 1)).toNat).toInt rfl ?_
      refine p_cS 612 [.ref 376, yI ((xs (wr (x4 + 1)).toNat).toInt)] [] r_c218_609 rfl rfl rfl (fun k' hk' d' => d217 (f := f) (by omega) (rg_to _) hR8189) (fun r8268 m8270 hF8266 hg8267 hR8271 n8192 k8191 hk8191 => ?_)
      have hX8269 := hX8187.trans (bI_s hF8266)
      refine p_istore 614 r_c218_612 rfl rfl ?_
      refine p_goto 617 r_c218_614 rfl ?_
      exact tJ218_t0_617 (f := f) (by omega) hL hLr gx4 hR8271 (fun y0 y1 y2 m' n' e' h0 hR' k' hk' => Hn y0 y1 y2 m' n' (hX8269.trans e') h0 hR' k' (by omega)) (fun y0 y1 y2 m' n' e' h0 hR' k' hk' => He y0 y1 y2 m' n' (hX8269.trans e') h0 hR' k' (by omega)) (fun r' m' e' => Hr r' m' (hX8269.trans e'))
    have hX8272 := hX8132.trans (if_neg hk8133)
    refine p_tswd 617 r_c218_39 (rg_to _) (by omega) rfl ?_
    exact tJ218_t0_617 (f := f) (by omega) hL hLr gx4 hR (fun y0 y1 y2 m' n' e' h0 hR' k' hk' => Hn y0 y1 y2 m' n' (hX8272.trans e') h0 hR' k' (by omega)) (fun y0 y1 y2 m' n' e' h0 hR' k' hk' => He y0 y1 y2 m' n' (hX8272.trans e') h0 hR' k' (by omega)) (fun r' m' e' => Hr r' m' (hX8272.trans e'))
def FL (f : Nat) (L : Nat) (xs : Nat → Int32) (x4 : Int) (m : yM) : Option (Int × yM) := (bL (yloop (fun (l : Int) ml => B218_t0_23 f L xs l ml) f x4 m) (fun l8273 m8279 => (some (1, m8279))) (fun r mr => some (r, mr)))
set_option maxRecDepth 100000 in
theorem tFL {L : Nat} {xs : Nat → Int32} {Q : xO → yM → Nat → Prop} {k d n : Nat} {c : yS3} {f : Nat} {x4 : Int} {m : yM} {j5 j6 : Option Value} (hk : k ≤ f) (hL : zLn (gZ L xs) ≤ 100000) (hLr : rg (L : Int)) (gx4 : rg x4) (hR : RM c m) (Hr : ∀ r m', FL f L xs x4 m = some (r, m') → rg r → (∃ c, RM c m') → ∀ n', Q (.inl (some (yI r))) m' n') : PW (gZ L xs) k 218 d 23 [some (.retAddr 0), some (.ref 0), some (.ref 376), some (.ref 413), some (yI x4), j5, j6] [] m n Q := by
  have hX : FL f L xs x4 m = FL f L xs x4 m := rfl
  refine PW.loop (K := k) (pce := 623) (fun (l : Int) ml => B218_t0_23 f L xs l ml) (fun (l : Int) j => [some (.retAddr 0), some (.ref 0), some (.ref 376), some (.ref 413), some (yI l), j 5, j 6]) (fun (l : Int) => rg l) (fun m' => ∃ c, RM c m') (fun r' m' => rg r' → (∃ c, RM c m') → ∀ n' : Nat, Q (.inl (some (yI r'))) m' n') (fun k' hk' l j m' n' hl hI Hn' He' Hr' => tB218_t0_23 (f := f) (by omega) hL hLr hl (hI.choose_spec) (fun y0 y1 y2 m2 n2 e h0 hR2 => Hn' y0 (fun q => ([none, none, none, none, none, y1, y2] : List (Option Value)).getD q none) m2 n2 e h0 hR2) (fun y0 y1 y2 m2 n2 e h0 hR2 => He' y0 (fun q => ([none, none, none, none, none, y1, y2] : List (Option Value)).getD q none) m2 n2 e h0 hR2) Hr') f k (by omega) (Nat.le_refl _) x4 (fun q => ([some (.retAddr 0), some (.ref 0), some (.ref 376), some (.ref 413), some (yI x4), j5, j6] : xL).getD q none) _ _ gx4 ⟨_, hR⟩ (fun l8273 j8276 m8279 n8278 e8275 hl8274 hR8280 k8277 hk8277 => ?_) (fun r' m' e' => ?_)
  · have hX8281 := hX.trans (bL_l e8275)
    obtain ⟨c8282, hR8283⟩ := hR8280
    refine p_iconst 624 r_c218_623 rfl ?_
    exact p_ireturn r_c218_624 (Hr _ _ hX8281 (rgD rfl) ⟨_, hR8283⟩ _)
  · exact Hr r' m' (hX.trans (bL_r e'))
