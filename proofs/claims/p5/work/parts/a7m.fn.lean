/-! FUNCTIONS OF THE METHODS: printed by wip/fn/dc.py -/
def B211_30 (f : Nat) (x1 : Int) (m : yM) : Option ((Int × yM) ⊕ ((Int × yM) ⊕ (Int × yM))) := (if x1 < 576 then (some (.inl ((wr (x1 + 1)), yup m 408 x1.toNat 0))) else (some (.inr (.inl (x1, m)))))
set_option maxRecDepth 100000 in
theorem tB211_30 {L : Nat} {xs : Nat → Int32} {Q : xO → yM → Nat → Prop} {k d n : Nat} {c : yS3} {f : Nat} {x1 : Int} {m : yM} (hk : k ≤ f) (gx1 : rg x1) (hR : RM c m) (Hn : ∀ (y0 : Int) (m' : yM) (n' : Nat), B211_30 f x1 m = some (.inl (y0, m')) → rg y0 → RM c m' → ∀ k', k' < k → PW (gZ L xs) k' 211 d 30 [some (.ref 376), some (yI y0)] [] m' n' Q) (He : ∀ (y0 : Int) (m' : yM) (n' : Nat), B211_30 f x1 m = some (.inr (.inl (y0, m'))) → rg y0 → RM c m' → ∀ k', k' ≤ k → PW (gZ L xs) k' 211 d 50 [some (.ref 376), some (yI y0)] [] m' n' Q) (Hr : ∀ r m', B211_30 f x1 m = some (.inr (.inr (r, m'))) → rg r → RM c m' → ∀ n', Q (.inl (some (yI r))) m' n') : PW (gZ L xs) k 211 d 30 [some (.ref 376), some (yI x1)] [] m n Q := by
  have hX : B211_30 f x1 m = B211_30 f x1 m := rfl
  refine p_iload 31 c211_30 rfl rfl ?_
  refine p_iconst 34 c211_31 rfl ?_
  refine p_icmp 50 37 c211_34 rfl rfl ((yc_ge gx1 (rgD rfl)).trans Int.not_lt.symm) (fun hb7420 k7421 hk7421 => ?_) (fun hb7420 k7422 hk7422 => ?_)
  · have hX7423 := hX.trans (if_neg hb7420)
    exact He _ _ _ hX7423 gx1 hR _ (by omega)
  · have hX7424 := hX.trans (if_pos (Classical.not_not.mp hb7420))
    refine p_aload 38 c211_37 rfl rfl ?_
    refine p_getR 41 c211_38 rfl kf376_48 ?_
    refine p_iload 42 c211_41 rfl rfl ?_
    refine p_iconst 43 c211_42 rfl ?_
    refine p_iaS 44 c211_43 rfl ka408 gx1 0 rfl (fun hx7425 => ?_)
    have hR7426 := hR.up 408 x1.toNat (v := 0) (nselA (by decide)) (rgD rfl)
    refine p_iinc 47 c211_44 rfl rfl rfl ?_
    refine p_gotoD 30 c211_47 rfl (fun k7427 hk7427 => ?_)
    exact Hn _ _ _ hX7424 (rg_wr _) hR7426 _ (by omega)
def B211_83 (f : Nat) (m : yM) : Option ((Unit × yM) ⊕ ((Unit × yM) ⊕ (Int × yM))) := (if m 376 57 = 0 then (if 0 < m 376 54 then (bU (F210 f m) (fun m7989 => (some (.inl ((), m7989))))) else (some (.inr (.inl ((), m))))) else (some (.inr (.inl ((), m)))))
set_option maxRecDepth 100000 in
theorem tB211_83 {L : Nat} {xs : Nat → Int32} {Q : xO → yM → Nat → Prop} {k d n : Nat} {c : yS3} {f : Nat} {m : yM} {j1 : Option Value} (hk : k ≤ f) (hR : RM c m) (Hn : ∀ (z0 : Option Value) (m' : yM) (n' : Nat), B211_83 f m = some (.inl ((), m')) → RM c m' → ∀ k', k' < k → PW (gZ L xs) k' 211 d 83 [some (.ref 376), z0] [] m' n' Q) (He : ∀ (z0 : Option Value) (m' : yM) (n' : Nat), B211_83 f m = some (.inr (.inl ((), m'))) → RM c m' → ∀ k', k' ≤ k → PW (gZ L xs) k' 211 d 104 [some (.ref 376), z0] [] m' n' Q) (Hr : ∀ r m', B211_83 f m = some (.inr (.inr (r, m'))) → rg r → RM c m' → ∀ n', Q (.inl (some (yI r))) m' n') : PW (gZ L xs) k 211 d 83 [some (.ref 376), j1] [] m n Q := by
  have hX : B211_83 f m = B211_83 f m := rfl
  refine p_aload 84 c211_83 rfl rfl ?_
  refine p_getX 87 (m 376 57) c211_84 rfl kf376_57 rfl ?_
  refine p_if 104 90 c211_87 rfl rfl (yz_ne (hR.rg _ _)) (fun hb7563 k7564 hk7564 => ?_) (fun hb7563 k7565 hk7565 => ?_)
  · have hX7566 := hX.trans (if_neg hb7563)
    exact He _ _ _ hX7566 hR _ (by omega)
  · have hX7567 := hX.trans (if_pos (Classical.not_not.mp hb7563))
    refine p_aload 91 c211_90 rfl rfl ?_
    refine p_getX 94 (m 376 54) c211_91 rfl kf376_54 rfl ?_
    refine p_if 104 97 c211_94 rfl rfl ((yz_le (hR.rg _ _)).trans Int.not_lt.symm) (fun hb7568 k7569 hk7569 => ?_) (fun hb7568 k7570 hk7570 => ?_)
    · have hX7571 := hX7567.trans (if_neg hb7568)
      exact He _ _ _ hX7571 hR _ (by omega)
    · have hX7572 := hX7567.trans (if_pos (Classical.not_not.mp hb7568))
      refine p_aload 98 c211_97 rfl rfl ?_
      refine p_cV 101 [.ref 376] [] c211_98 rfl rfl rfl (fun k' hk' d' => d210 (f := f) (by omega) hR) (fun m7989 hF7985 hR7990 n7574 k7573 hk7573 => ?_)
      have hX7988 := hX7572.trans (bU_s hF7985)
      refine p_gotoD 83 c211_101 rfl (fun k7991 hk7991 => ?_)
      exact Hn _ _ _ hX7988 hR7990 _ (by omega)
def J211_104 (f : Nat) (m : yM) : Option (Int × yM) := (if m 376 57 = 0 then (some (m 376 56, m)) else (some (0, m)))
set_option maxRecDepth 100000 in
theorem tJ211_104 {L : Nat} {xs : Nat → Int32} {Q : xO → yM → Nat → Prop} {k d n : Nat} {c : yS3} {f : Nat} {m : yM} {j1 : Option Value} (hk : k ≤ f) (hR : RM c m) (Hr : ∀ r m', J211_104 f m = some (r, m') → rg r → RM c m' → ∀ n', Q (.inl (some (yI r))) m' n') : PW (gZ L xs) k 211 d 104 [some (.ref 376), j1] [] m n Q := by
  have hX : J211_104 f m = J211_104 f m := rfl
  refine p_aload 105 c211_104 rfl rfl ?_
  refine p_getX 108 (m 376 57) c211_105 rfl kf376_57 rfl ?_
  refine p_if 118 111 c211_108 rfl rfl (yz_ne (hR.rg _ _)) (fun hb8001 k8002 hk8002 => ?_) (fun hb8001 k8003 hk8003 => ?_)
  · have hX8004 := hX.trans (if_neg hb8001)
    refine p_iconst 119 c211_118 rfl ?_
    exact p_ireturn c211_119 (Hr _ _ hX8004 (rgD rfl) hR _)
  · have hX8005 := hX.trans (if_pos (Classical.not_not.mp hb8001))
    refine p_aload 112 c211_111 rfl rfl ?_
    refine p_getX 115 (m 376 56) c211_112 rfl kf376_56 rfl ?_
    refine p_goto 119 c211_115 rfl ?_
    exact p_ireturn c211_119 (Hr _ _ hX8005 (hR.rg _ _) hR _)
def J211_20 (f : Nat) (xs1 : Int) (m : yM) : Option (Int × yM) := (bI (F162 f xs1 m) (fun r7412 m7414 => (if r7412 = 0 then (some (0, m7414)) else (bL (yloop (fun (l : Int) ml => B211_30 f l ml) f 0 m7414) (fun l7428 m7434 => (bI (F201 f 0 (yup (yup (yup m7434 376 51 0) 376 54 0) 376 56 0)) (fun r7470 m7472 => (bP (F143 f m7472) (fun r7478 => (bU (F203 f r7478 r7470 0 0 0 m7472) (fun m7561 => (bL (yloop (fun (l : Unit) ml => B211_83 f ml) f () m7561) (fun _ m7998 => (J211_104 f m7998)) (fun r mr => some (r, mr)))))))))) (fun r mr => some (r, mr))))))
set_option maxRecDepth 100000 in
theorem tJ211_20 {L : Nat} {xs : Nat → Int32} {Q : xO → yM → Nat → Prop} {k d n : Nat} {c : yS3} {f : Nat} {xs1 : Int} {m : yM} {j1 : Option Value} (hk : k ≤ f) (gxs1 : rg xs1) (hR : RM c m) (Hr : ∀ r m', J211_20 f xs1 m = some (r, m') → rg r → RM c m' → ∀ n', Q (.inl (some (yI r))) m' n') : PW (gZ L xs) k 211 d 20 [some (.ref 376), j1] [yI xs1, .ref 376] m n Q := by
  have hX : J211_20 f xs1 m = J211_20 f xs1 m := rfl
  refine p_cS 23 [.ref 376, yI xs1] [] c211_20 rfl rfl rfl (fun k' hk' d' => d162 (f := f) (by omega) gxs1 hR) (fun r7412 m7414 hF7410 hg7411 hR7415 n7409 k7408 hk7408 => ?_)
  have hX7413 := hX.trans (bI_s hF7410)
  refine p_if 28 26 c211_23 rfl rfl (yz_ne hg7411) (fun hb7416 k7417 hk7417 => ?_) (fun hb7416 k7418 hk7418 => ?_)
  · have hX7419 := hX7413.trans (if_neg hb7416)
    refine p_iconst 29 c211_28 rfl ?_
    refine p_istore 30 c211_29 rfl rfl ?_
    refine PW.loop (K := k7417) (pce := 50) (fun (l : Int) ml => B211_30 f l ml) (fun (l : Int) j => [some (.ref 376), some (yI l)]) (fun (l : Int) => rg l) (RM c) (fun r' m' => rg r' → RM c m' → ∀ n' : Nat, Q (.inl (some (yI r'))) m' n') (fun k' hk' l j m' n' hl hI Hn' He' Hr' => tB211_30 (f := f) (by omega) hl hI (fun y0 m2 n2 e h0 hR2 => Hn' y0 (fun q => ([none, none] : List (Option Value)).getD q none) m2 n2 e h0 hR2) (fun y0 m2 n2 e h0 hR2 => He' y0 (fun q => ([none, none] : List (Option Value)).getD q none) m2 n2 e h0 hR2) Hr') f k7417 (by omega) (Nat.le_refl _) 0 (fun q => ([some (.ref 376), some (yI 0)] : xL).getD q none) _ _ (rgD rfl) hR7415 (fun l7428 j7431 m7434 n7433 e7430 hl7429 hR7435 k7432 hk7432 => ?_) (fun r' m' e' => ?_)
    · have hX7436 := hX7419.trans (bL_l e7430)
      refine p_aload 51 c211_50 rfl rfl ?_
      refine p_iconst 52 c211_51 rfl ?_
      refine p_putI 55 c211_52 rfl kf376_51 ?_
      have hR7437 := hR7435.up 376 51 (v := 0) (nselD rfl) (rgD rfl)
      refine p_aload 56 c211_55 rfl rfl ?_
      refine p_iconst 57 c211_56 rfl ?_
      refine p_putI 60 c211_57 rfl kf376_54 ?_
      have hR7438 := hR7437.up 376 54 (v := 0) (nselD rfl) (rgD rfl)
      refine p_aload 61 c211_60 rfl rfl ?_
      refine p_iconst 62 c211_61 rfl ?_
      refine p_putI 65 c211_62 rfl kf376_56 ?_
      have hR7439 := hR7438.up 376 56 (v := 0) (nselD rfl) (rgD rfl)
      refine p_aload 66 c211_65 rfl rfl ?_
      refine p_iconst 67 c211_66 rfl ?_
      refine p_cS 70 [.ref 376, yI 0] [] c211_67 rfl rfl rfl (fun k' hk' d' => d201 (f := f) (by omega) (rgD rfl) hR7439) (fun r7470 m7472 hF7468 hg7469 hR7473 n7441 k7440 hk7440 => ?_)
      have hX7471 := hX7436.trans (bI_s hF7468)
      refine p_istore 71 c211_70 rfl rfl ?_
      refine p_aload 72 c211_71 rfl rfl ?_
      refine p_aload 73 c211_72 rfl rfl ?_
      refine p_cO 76 [.ref 376] [.ref 376] c211_73 rfl rfl rfl (fun k' hk' d' => d143 (f := f) (by omega) hR7473) (fun r7478 hF7476 hg7477 n7475 k7474 hk7474 => ?_)
      have hX7479 := hX7471.trans (bP_s hF7476)
      refine p_iload 77 c211_76 rfl rfl ?_
      refine p_iconst 78 c211_77 rfl ?_
      refine p_iconst 79 c211_78 rfl ?_
      refine p_iconst 80 c211_79 rfl ?_
      refine p_cV 83 [.ref 376, yI r7478, yI r7470, yI 0, yI 0, yI 0] [] c211_80 rfl rfl rfl (fun k' hk' d' => d203 (f := f) (by omega) hg7477 hg7469 (rgD rfl) (rgD rfl) (rgD rfl) hR7473) (fun m7561 hF7557 hR7562 n7481 k7480 hk7480 => ?_)
      have hX7560 := hX7479.trans (bU_s hF7557)
      refine PW.loop (K := k7480) (pce := 104) (fun (l : Unit) ml => B211_83 f ml) (fun (l : Unit) j => [some (.ref 376), j 1]) (fun (l : Unit) => True) (RM c) (fun r' m' => rg r' → RM c m' → ∀ n' : Nat, Q (.inl (some (yI r'))) m' n') (fun k' hk' l j m' n' hl hI Hn' He' Hr' => tB211_83 (f := f) (by omega) hI (fun y0 m2 n2 e  hR2 => Hn' () (fun q => ([none, y0] : List (Option Value)).getD q none) m2 n2 e trivial hR2) (fun y0 m2 n2 e  hR2 => He' () (fun q => ([none, y0] : List (Option Value)).getD q none) m2 n2 e trivial hR2) Hr') f k7480 (by omega) (Nat.le_refl _) () (fun q => ([some (.ref 376), some (yI r7470)] : xL).getD q none) _ _ trivial hR7562 (fun l7992 j7995 m7998 n7997 e7994 hl7993 hR7999 k7996 hk7996 => ?_) (fun r' m' e' => ?_)
      · have hX8000 := hX7560.trans (bL_l e7994)
        exact tJ211_104 (f := f) (by omega) hR7999 (fun r' m' e' => Hr r' m' (hX8000.trans e'))
      · exact Hr r' m' (hX7560.trans (bL_r e'))
    · exact Hr r' m' (hX7419.trans (bL_r e'))
  · have hX8006 := hX7413.trans (if_pos (Classical.not_not.mp hb7416))
    refine p_iconst 27 c211_26 rfl ?_
    exact p_ireturn c211_27 (Hr _ _ hX8006 (rgD rfl) hR7415 _)
def J211_19 (f : Nat) (m : yM) : Option (Int × yM) := (J211_20 f 0 m)
set_option maxRecDepth 100000 in
theorem tJ211_19 {L : Nat} {xs : Nat → Int32} {Q : xO → yM → Nat → Prop} {k d n : Nat} {c : yS3} {f : Nat} {m : yM} {j1 : Option Value} (hk : k ≤ f) (hR : RM c m) (Hr : ∀ r m', J211_19 f m = some (r, m') → rg r → RM c m' → ∀ n', Q (.inl (some (yI r))) m' n') : PW (gZ L xs) k 211 d 19 [some (.ref 376), j1] [.ref 376] m n Q := by
  have hX : J211_19 f m = J211_19 f m := rfl
  refine p_iconst 20 c211_19 rfl ?_
  exact tJ211_20 (f := f) (by omega) (rgD rfl) hR (fun r' m' e' => Hr r' m' (hX.trans e'))
def F211 (f : Nat) (m : yM) : Option (Int × yM) := (if m 376 19 = 0 then (J211_19 f m) else (bP (F143 f m) (fun r8012 => (if r8012 < 0 then (J211_19 f m) else (J211_20 f 1 m)))))
set_option maxRecDepth 100000 in
theorem d211 {L : Nat} {xs : Nat → Int32} {k d n : Nat} {c : yS3} {f : Nat} {m : yM} (hk : k ≤ f) (hR : RM c m) : PC (gZ L xs) k d 211 [.ref 376] m n (qS c (F211 f m)) := by
  have hX : F211 f m = F211 f m := rfl
  have Hr : ∀ r m', F211 f m = some (r, m') → rg r → RM c m' → ∀ n' : Nat, (qS c (F211 f m)) (.inl (some (yI r))) m' n' := fun r m' e h1 h2 n' => ⟨r, rfl, h1, h2, e⟩
  refine PC.mk [some (.ref 376), none] kn211 rfl ?_
  refine p_aload 1 c211_0 rfl rfl ?_
  refine p_aload 2 c211_1 rfl rfl ?_
  refine p_getX 5 (m 376 19) c211_2 rfl kf376_19 rfl ?_
  refine p_if 19 8 c211_5 rfl rfl (yz_eq (hR.rg _ _)) (fun hb7404 k7405 hk7405 => ?_) (fun hb7404 k7406 hk7406 => ?_)
  · have hX7407 := hX.trans (if_pos hb7404)
    exact tJ211_19 (f := f) (by omega) hR (fun r' m' e' => Hr r' m' (hX7407.trans e'))
  · have hX8007 := hX.trans (if_neg hb7404)
    refine p_aload 9 c211_8 rfl rfl ?_
    refine p_cO 12 [.ref 376] [.ref 376] c211_9 rfl rfl rfl (fun k' hk' d' => d143 (f := f) (by omega) hR) (fun r8012 hF8010 hg8011 n8009 k8008 hk8008 => ?_)
    have hX8013 := hX8007.trans (bP_s hF8010)
    refine p_if 19 15 c211_12 rfl rfl (yz_lt hg8011) (fun hb8014 k8015 hk8015 => ?_) (fun hb8014 k8016 hk8016 => ?_)
    · have hX8017 := hX8013.trans (if_pos hb8014)
      exact tJ211_19 (f := f) (by omega) hR (fun r' m' e' => Hr r' m' (hX8017.trans e'))
    · have hX8018 := hX8013.trans (if_neg hb8014)
      refine p_iconst 16 c211_15 rfl ?_
      refine p_goto 20 c211_16 rfl ?_
      exact tJ211_20 (f := f) (by omega) (rgD rfl) hR (fun r' m' e' => Hr r' m' (hX8018.trans e'))
def J212_16 (f : Nat) (m : yM) : Option ((Int ⊕ Nat) × yM) := (some (.inr 11, m))
set_option maxRecDepth 100000 in
theorem tJ212_16 {L : Nat} {xs : Nat → Int32} {Q : xO → yM → Nat → Prop} {k d n : Nat} {c : yS3} {f : Nat} {m : yM} {j0 j1 j2 : Option Value} (hk : k ≤ f) (hR : RM c m) (Hr : ∀ r m', J212_16 f m = some (.inl r, m') → rg r → RM c m' → ∀ n', Q (.inl (some (yI r))) m' n') (Ht : ∀ e m', J212_16 f m = some (.inr e, m') → (fun e => e = 11) e → RM c m' → ∀ x n', Q (.inr (e, x)) m' n') : PW (gZ L xs) k 212 d 16 [j0, j1, j2] [] m n Q := by
  have hX : J212_16 f m = J212_16 f m := rfl
  exact p_throw c212_16 (fun x n' => Ht _ _ hX rfl hR x n')
def F212 (f : Nat) (x1 : Int) (x2 : Int) (m : yM) : Option ((Int ⊕ Nat) × yM) := (if F156 x1 m = 0 then (J212_16 f m) else (if F157 x2 m = 0 then (J212_16 f m) else (if 0 ≤ x1 ∧ x1 < ((48 : Nat) : Int) then (some (.inl (m (171 + (x1).toNat) x2.toNat), m)) else none)))
set_option maxRecDepth 100000 in
theorem d212 {L : Nat} {xs : Nat → Int32} {k d n : Nat} {c : yS3} {f : Nat} {x1 : Int} {x2 : Int} {m : yM} (hk : k ≤ f) (gx1 : rg x1) (gx2 : rg x2) (hR : RM c m) : PC (gZ L xs) k d 212 [.ref 0, yI x1, yI x2] m n (qEI (fun e => e = 11) c (F212 f x1 x2 m)) := by
  have hX : F212 f x1 x2 m = F212 f x1 x2 m := rfl
  have Hr : ∀ r m', F212 f x1 x2 m = some (.inl r, m') → rg r → RM c m' → ∀ n' : Nat, (qEI (fun e => e = 11) c (F212 f x1 x2 m)) (.inl (some (yI r))) m' n' := fun r m' e h1 h2 n' => Or.inl ⟨r, rfl, h1, h2, e⟩
  have Ht : ∀ e m', F212 f x1 x2 m = some (.inr e, m') → (fun e => e = 11) e → RM c m' → ∀ x n' : Nat, (qEI (fun e => e = 11) c (F212 f x1 x2 m)) (.inr (e, x)) m' n' := fun e m' e1 h1 h2 x n' => Or.inr ⟨e, x, rfl, h1, h2, e1⟩
  refine PC.mk [some (.ref 0), some (yI x1), some (yI x2)] kn212 rfl ?_
  refine p_aload 1 c212_0 rfl rfl ?_
  refine p_iload 2 c212_1 rfl rfl ?_
  refine p_cX 5 [.ref 0, yI x1] [] c212_2 rfl rfl rfl (fun k' hk' d' => d156 gx1 hR) (fun hg8036 n8035 k8034 hk8034 => ?_)
  refine p_if 16 8 c212_5 rfl rfl (yz_eq hg8036) (fun hb8037 k8038 hk8038 => ?_) (fun hb8037 k8039 hk8039 => ?_)
  · have hX8040 := hX.trans (if_pos hb8037)
    exact tJ212_16 (f := f) (by omega) hR (fun r' m' e' => Hr r' m' (hX8040.trans e')) (fun r' m' e' => Ht r' m' (hX8040.trans e'))
  · have hX8041 := hX.trans (if_neg hb8037)
    refine p_aload 9 c212_8 rfl rfl ?_
    refine p_iload 10 c212_9 rfl rfl ?_
    refine p_cX 13 [.ref 0, yI x2] [] c212_10 rfl rfl rfl (fun k' hk' d' => d157 gx2 hR) (fun hg8044 n8043 k8042 hk8042 => ?_)
    refine p_if 24 16 c212_13 rfl rfl (yz_ne hg8044) (fun hb8045 k8046 hk8046 => ?_) (fun hb8045 k8047 hk8047 => ?_)
    · have hX8048 := hX8041.trans (if_neg hb8045)
      refine p_aload 25 c212_24 rfl rfl ?_
      refine p_getR 28 c212_25 rfl kf0_3 ?_
      refine p_getR 31 c212_28 rfl kf169_0 ?_
      refine p_iload 32 c212_31 rfl rfl ?_
      refine p_aaX 33 c212_32 rfl kr170 gx1 (fun hx8049 => ?_)
      have hX8050 := hX8048.trans (if_pos hx8049)
      refine p_iload 34 c212_33 rfl rfl ?_
      refine p_iaX 35 (m (171 + (x1).toNat) x2.toNat) c212_34 rfl (kR170 hx8049) gx2 rfl (fun hx8051 => ?_)
      exact p_ireturn c212_35 (Hr _ _ hX8050 (hR.rg _ _) hR _)
    · have hX8052 := hX8041.trans (if_pos (Classical.not_not.mp hb8045))
      exact tJ212_16 (f := f) (by omega) hR (fun r' m' e' => Hr r' m' (hX8052.trans e')) (fun r' m' e' => Ht r' m' (hX8052.trans e'))
def F213 (f : Nat) (x1 : Int) (x2 : Int) (m : yM) : Option (Int × yM) := (bT (F212 f x1 x2 m) (fun r8055 m8057 => (some (0, yup m8057 413 0 ((i2l r8055).toInt)))) (fun e' m8057 => (if e' = 11 then (some (1, m8057)) else none)))
set_option maxRecDepth 100000 in
theorem d213 {L : Nat} {xs : Nat → Int32} {k d n : Nat} {c : yS3} {f : Nat} {x1 : Int} {x2 : Int} {m : yM} (hk : k ≤ f) (gx1 : rg x1) (gx2 : rg x2) (hR : RM c m) : PC (gZ L xs) k d 213 [.ref 0, yI x1, yI x2, .ref 413] m n (qS c (F213 f x1 x2 m)) := by
  have hX : F213 f x1 x2 m = F213 f x1 x2 m := rfl
  have Hr : ∀ r m', F213 f x1 x2 m = some (r, m') → rg r → RM c m' → ∀ n' : Nat, (qS c (F213 f x1 x2 m)) (.inl (some (yI r))) m' n' := fun r m' e h1 h2 n' => ⟨r, rfl, h1, h2, e⟩
  refine PC.mk [some (.ref 0), some (yI x1), some (yI x2), some (.ref 413), none] kn213 rfl ?_
  refine p_aload 1 c213_0 rfl rfl ?_
  refine p_iconst 2 c213_1 rfl ?_
  refine p_aload 3 c213_2 rfl rfl ?_
  refine p_iload 4 c213_3 rfl rfl ?_
  refine p_iload 5 c213_4 rfl rfl ?_
  refine p_cTI 8 [.ref 0, yI x1, yI x2] [yI 0, .ref 413] c213_5 rfl rfl rfl (fun k' hk' d' => d212 (f := f) (by omega) gx1 gx2 hR) (fun r8055 m8057 hF8053 hg8054 hR8058 n8033 k8032 hk8032 => ?_) (fun e' q8062 m8057 n' hF8053 hE8060 hR8061 => ?_)
  · have hX8056 := hX.trans (bT_l hF8053)
    refine p_i2l 9 c213_8 rfl ?_
    refine p_laS 10 c213_9 rfl kl413 (rgD rfl) (fun hx8063 => ?_)
    have hR8064 := hR8058.up 413 0 (v := (i2l r8055).toInt) (nselD rfl) (rg_i2l _)
    refine p_goto 17 c213_10 rfl ?_
    refine p_iconst 18 c213_17 rfl ?_
    exact p_ireturn c213_18 (Hr _ _ hX8056 (rgD rfl) hR8064 _)
  · have hXe := hX.trans (bT_r hF8053)
    cases (show e' = 11 from hE8060)
    have hX8065 := hXe.trans (if_pos rfl)
    refine ⟨fun pq hpq k8066 hk8066 => ?_, fun hno => absurd (r_kh213_5_11.symm.trans hno) (by simp)⟩
    have hpp : pq = 13 := by have := r_kh213_5_11.symm.trans hpq; simpa using this.symm
    subst hpp
    refine p_astore 15 c213_13 rfl rfl ?_
    refine p_iconst 16 c213_15 rfl ?_
    exact p_ireturn c213_16 (Hr _ _ hX8065 (rgD rfl) hR8061 _)
def J214_22 (f : Nat) (x1 : Int) (x2 : Int) (xs1 : Int) (m : yM) : Option (Int × yM) := (bI (F162 f xs1 m) (fun r8088 m8090 => (if r8088 = 0 then (some (0, m8090)) else (if m8090 408 (wr ((wr (12 * x1)) + x2)).toNat = 0 then (some (0, m8090)) else (some (1, m8090))))))
set_option maxRecDepth 100000 in
theorem tJ214_22 {L : Nat} {xs : Nat → Int32} {Q : xO → yM → Nat → Prop} {k d n : Nat} {c : yS3} {f : Nat} {x1 : Int} {x2 : Int} {xs1 : Int} {m : yM} (hk : k ≤ f) (gx1 : rg x1) (gx2 : rg x2) (gxs1 : rg xs1) (hR : RM c m) (Hr : ∀ r m', J214_22 f x1 x2 xs1 m = some (r, m') → rg r → RM c m' → ∀ n', Q (.inl (some (yI r))) m' n') : PW (gZ L xs) k 214 d 22 [some (.ref 376), some (yI x1), some (yI x2)] [yI xs1, .ref 376] m n Q := by
  have hX : J214_22 f x1 x2 xs1 m = J214_22 f x1 x2 xs1 m := rfl
  refine p_cS 25 [.ref 376, yI xs1] [] c214_22 rfl rfl rfl (fun k' hk' d' => d162 (f := f) (by omega) gxs1 hR) (fun r8088 m8090 hF8086 hg8087 hR8091 n8085 k8084 hk8084 => ?_)
  have hX8089 := hX.trans (bI_s hF8086)
  refine p_if 46 28 c214_25 rfl rfl (yz_eq hg8087) (fun hb8092 k8093 hk8093 => ?_) (fun hb8092 k8094 hk8094 => ?_)
  · have hX8095 := hX8089.trans (if_pos hb8092)
    refine p_iconst 47 c214_46 rfl ?_
    exact p_ireturn c214_47 (Hr _ _ hX8095 (rgD rfl) hR8091 _)
  · have hX8096 := hX8089.trans (if_neg hb8092)
    refine p_aload 29 c214_28 rfl rfl ?_
    refine p_getR 32 c214_29 rfl kf376_48 ?_
    refine p_iconst 34 c214_32 rfl ?_
    refine p_iload 35 c214_34 rfl rfl ?_
    refine p_imul 36 c214_35 rfl ?_
    refine p_iload 37 c214_36 rfl rfl ?_
    refine p_iadd 38 c214_37 rfl ?_
    refine p_iaX 39 (m8090 408 (wr ((wr (12 * x1)) + x2)).toNat) c214_38 rfl ka408 (rg_wr _) rfl (fun hx8097 => ?_)
    refine p_if 46 42 c214_39 rfl rfl (yz_eq (hR8091.rg _ _)) (fun hb8098 k8099 hk8099 => ?_) (fun hb8098 k8100 hk8100 => ?_)
    · have hX8101 := hX8096.trans (if_pos hb8098)
      refine p_iconst 47 c214_46 rfl ?_
      exact p_ireturn c214_47 (Hr _ _ hX8101 (rgD rfl) hR8091 _)
    · have hX8102 := hX8096.trans (if_neg hb8098)
      refine p_iconst 43 c214_42 rfl ?_
      refine p_goto 47 c214_43 rfl ?_
      exact p_ireturn c214_47 (Hr _ _ hX8102 (rgD rfl) hR8091 _)
def J214_21 (f : Nat) (x1 : Int) (x2 : Int) (m : yM) : Option (Int × yM) := (J214_22 f x1 x2 0 m)
set_option maxRecDepth 100000 in
theorem tJ214_21 {L : Nat} {xs : Nat → Int32} {Q : xO → yM → Nat → Prop} {k d n : Nat} {c : yS3} {f : Nat} {x1 : Int} {x2 : Int} {m : yM} (hk : k ≤ f) (gx1 : rg x1) (gx2 : rg x2) (hR : RM c m) (Hr : ∀ r m', J214_21 f x1 x2 m = some (r, m') → rg r → RM c m' → ∀ n', Q (.inl (some (yI r))) m' n') : PW (gZ L xs) k 214 d 21 [some (.ref 376), some (yI x1), some (yI x2)] [.ref 376] m n Q := by
  have hX : J214_21 f x1 x2 m = J214_21 f x1 x2 m := rfl
  refine p_iconst 22 c214_21 rfl ?_
  exact tJ214_22 (f := f) (by omega) gx1 gx2 (rgD rfl) hR (fun r' m' e' => Hr r' m' (hX.trans e'))
def F214 (f : Nat) (x1 : Int) (x2 : Int) (m : yM) : Option (Int × yM) := (if F160 x1 m = 0 then (J214_21 f x1 x2 m) else (if F161 x2 m = 0 then (J214_21 f x1 x2 m) else (J214_22 f x1 x2 1 m)))
set_option maxRecDepth 100000 in
theorem d214 {L : Nat} {xs : Nat → Int32} {k d n : Nat} {c : yS3} {f : Nat} {x1 : Int} {x2 : Int} {m : yM} (hk : k ≤ f) (gx1 : rg x1) (gx2 : rg x2) (hR : RM c m) : PC (gZ L xs) k d 214 [.ref 376, yI x1, yI x2] m n (qS c (F214 f x1 x2 m)) := by
  have hX : F214 f x1 x2 m = F214 f x1 x2 m := rfl
  have Hr : ∀ r m', F214 f x1 x2 m = some (r, m') → rg r → RM c m' → ∀ n' : Nat, (qS c (F214 f x1 x2 m)) (.inl (some (yI r))) m' n' := fun r m' e h1 h2 n' => ⟨r, rfl, h1, h2, e⟩
  refine PC.mk [some (.ref 376), some (yI x1), some (yI x2)] kn214 rfl ?_
  refine p_aload 1 c214_0 rfl rfl ?_
  refine p_aload 2 c214_1 rfl rfl ?_
  refine p_iload 3 c214_2 rfl rfl ?_
  refine p_cX 6 [.ref 376, yI x1] [.ref 376] c214_3 rfl rfl rfl (fun k' hk' d' => d160 gx1 hR) (fun hg8079 n8078 k8077 hk8077 => ?_)
  refine p_if 21 9 c214_6 rfl rfl (yz_eq hg8079) (fun hb8080 k8081 hk8081 => ?_) (fun hb8080 k8082 hk8082 => ?_)
  · have hX8083 := hX.trans (if_pos hb8080)
    exact tJ214_21 (f := f) (by omega) gx1 gx2 hR (fun r' m' e' => Hr r' m' (hX8083.trans e'))
  · have hX8103 := hX.trans (if_neg hb8080)
    refine p_aload 10 c214_9 rfl rfl ?_
    refine p_iload 11 c214_10 rfl rfl ?_
    refine p_cX 14 [.ref 376, yI x2] [.ref 376] c214_11 rfl rfl rfl (fun k' hk' d' => d161 gx2 hR) (fun hg8106 n8105 k8104 hk8104 => ?_)
    refine p_if 21 17 c214_14 rfl rfl (yz_eq hg8106) (fun hb8107 k8108 hk8108 => ?_) (fun hb8107 k8109 hk8109 => ?_)
    · have hX8110 := hX8103.trans (if_pos hb8107)
      exact tJ214_21 (f := f) (by omega) gx1 gx2 hR (fun r' m' e' => Hr r' m' (hX8110.trans e'))
    · have hX8111 := hX8103.trans (if_neg hb8107)
      refine p_iconst 18 c214_17 rfl ?_
      refine p_goto 22 c214_18 rfl ?_
      exact tJ214_22 (f := f) (by omega) gx1 gx2 (rgD rfl) hR (fun r' m' e' => Hr r' m' (hX8111.trans e'))
def F215 (f : Nat) (x1 : Int) (m : yM) : Option ((Int ⊕ Nat) × yM) := (if x1 = 0 then (some (.inl (m (pA (m 0 4)) 9), m)) else (if x1 = 1 then (some (.inl (m (pA (m 0 4)) 10), m)) else (if x1 = 2 then (some (.inl (m (pA (m 0 4)) 11), m)) else (if x1 = 3 then (some (.inl (m (pA (m 0 4)) 12), m)) else (if x1 = 4 then (some (.inl (m (pA (m 0 4)) 13), m)) else (if x1 = 5 then (some (.inl (m (pA (m 0 4)) 14), m)) else (if x1 = 6 then (some (.inl (m (pA (m 0 4)) 15), m)) else (if x1 = 7 then (some (.inl (m 8 6), m)) else (if x1 = 8 then (some (.inl (m 169 5), m)) else (if x1 = 9 then (some (.inl (m 0 6), m)) else (some (.inr 9, m))))))))))))
set_option maxRecDepth 100000 in
theorem d215 {L : Nat} {xs : Nat → Int32} {k d n : Nat} {c : yS3} {f : Nat} {x1 : Int} {m : yM} (hk : k ≤ f) (gx1 : rg x1) (hR : RM c m) : PC (gZ L xs) k d 215 [.ref 0, yI x1] m n (qEI (fun e => e = 9) c (F215 f x1 m)) := by
  have hX : F215 f x1 m = F215 f x1 m := rfl
  have Hr : ∀ r m', F215 f x1 m = some (.inl r, m') → rg r → RM c m' → ∀ n' : Nat, (qEI (fun e => e = 9) c (F215 f x1 m)) (.inl (some (yI r))) m' n' := fun r m' e h1 h2 n' => Or.inl ⟨r, rfl, h1, h2, e⟩
  have Ht : ∀ e m', F215 f x1 m = some (.inr e, m') → (fun e => e = 9) e → RM c m' → ∀ x n' : Nat, (qEI (fun e => e = 9) c (F215 f x1 m)) (.inr (e, x)) m' n' := fun e m' e1 h1 h2 x n' => Or.inr ⟨e, x, rfl, h1, h2, e1⟩
  refine PC.mk [some (.ref 0), some (yI x1)] kn215 rfl ?_
  refine p_iload 1 c215_0 rfl rfl ?_
  by_cases hk8126 : x1 = 0
  · have hX8127 := hX.trans (if_pos hk8126)
    refine p_top 0 hk8126 ?_
    refine p_tsw 56 c215_1 (rgD rfl) (by decide) rfl rfl ?_
    refine p_aload 57 c215_56 rfl rfl ?_
    refine p_getV 60 (.ref (pA (m 0 4))) c215_57 rfl kf0_4 (pA_sv2 hR.2.1 rfl) ?_
    refine p_getX 63 (m (pA (m 0 4)) 9) c215_60 rfl (kP_9 (pA_is _)) rfl ?_
    exact p_ireturn c215_63 (Hr _ _ hX8127 (hR.rg _ _) hR _)
  have hX8128 := hX.trans (if_neg hk8126)
  by_cases hk8129 : x1 = 1
  · have hX8130 := hX8128.trans (if_pos hk8129)
    refine p_top 1 hk8129 ?_
    refine p_tsw 64 c215_1 (rgD rfl) (by decide) rfl rfl ?_
    refine p_aload 65 c215_64 rfl rfl ?_
    refine p_getV 68 (.ref (pA (m 0 4))) c215_65 rfl kf0_4 (pA_sv2 hR.2.1 rfl) ?_
    refine p_getX 71 (m (pA (m 0 4)) 10) c215_68 rfl (kP_10 (pA_is _)) rfl ?_
    exact p_ireturn c215_71 (Hr _ _ hX8130 (hR.rg _ _) hR _)
  have hX8131 := hX8128.trans (if_neg hk8129)
  by_cases hk8132 : x1 = 2
  · have hX8133 := hX8131.trans (if_pos hk8132)
    refine p_top 2 hk8132 ?_
    refine p_tsw 72 c215_1 (rgD rfl) (by decide) rfl rfl ?_
    refine p_aload 73 c215_72 rfl rfl ?_
    refine p_getV 76 (.ref (pA (m 0 4))) c215_73 rfl kf0_4 (pA_sv2 hR.2.1 rfl) ?_
    refine p_getX 79 (m (pA (m 0 4)) 11) c215_76 rfl (kP_11 (pA_is _)) rfl ?_
    exact p_ireturn c215_79 (Hr _ _ hX8133 (hR.rg _ _) hR _)
  have hX8134 := hX8131.trans (if_neg hk8132)
  by_cases hk8135 : x1 = 3
  · have hX8136 := hX8134.trans (if_pos hk8135)
    refine p_top 3 hk8135 ?_
    refine p_tsw 80 c215_1 (rgD rfl) (by decide) rfl rfl ?_
    refine p_aload 81 c215_80 rfl rfl ?_
    refine p_getV 84 (.ref (pA (m 0 4))) c215_81 rfl kf0_4 (pA_sv2 hR.2.1 rfl) ?_
    refine p_getX 87 (m (pA (m 0 4)) 12) c215_84 rfl (kP_12 (pA_is _)) rfl ?_
    exact p_ireturn c215_87 (Hr _ _ hX8136 (hR.rg _ _) hR _)
  have hX8137 := hX8134.trans (if_neg hk8135)
  by_cases hk8138 : x1 = 4
  · have hX8139 := hX8137.trans (if_pos hk8138)
    refine p_top 4 hk8138 ?_
    refine p_tsw 88 c215_1 (rgD rfl) (by decide) rfl rfl ?_
    refine p_aload 89 c215_88 rfl rfl ?_
    refine p_getV 92 (.ref (pA (m 0 4))) c215_89 rfl kf0_4 (pA_sv2 hR.2.1 rfl) ?_
    refine p_getX 95 (m (pA (m 0 4)) 13) c215_92 rfl (kP_13 (pA_is _)) rfl ?_
    exact p_ireturn c215_95 (Hr _ _ hX8139 (hR.rg _ _) hR _)
  have hX8140 := hX8137.trans (if_neg hk8138)
  by_cases hk8141 : x1 = 5
  · have hX8142 := hX8140.trans (if_pos hk8141)
    refine p_top 5 hk8141 ?_
    refine p_tsw 96 c215_1 (rgD rfl) (by decide) rfl rfl ?_
    refine p_aload 97 c215_96 rfl rfl ?_
    refine p_getV 100 (.ref (pA (m 0 4))) c215_97 rfl kf0_4 (pA_sv2 hR.2.1 rfl) ?_
    refine p_getX 103 (m (pA (m 0 4)) 14) c215_100 rfl (kP_14 (pA_is _)) rfl ?_
    exact p_ireturn c215_103 (Hr _ _ hX8142 (hR.rg _ _) hR _)
  have hX8143 := hX8140.trans (if_neg hk8141)
  by_cases hk8144 : x1 = 6
  · have hX8145 := hX8143.trans (if_pos hk8144)
    refine p_top 6 hk8144 ?_
    refine p_tsw 104 c215_1 (rgD rfl) (by decide) rfl rfl ?_
    refine p_aload 105 c215_104 rfl rfl ?_
    refine p_getV 108 (.ref (pA (m 0 4))) c215_105 rfl kf0_4 (pA_sv2 hR.2.1 rfl) ?_
    refine p_getX 111 (m (pA (m 0 4)) 15) c215_108 rfl (kP_15 (pA_is _)) rfl ?_
    exact p_ireturn c215_111 (Hr _ _ hX8145 (hR.rg _ _) hR _)
  have hX8146 := hX8143.trans (if_neg hk8144)
  by_cases hk8147 : x1 = 7
  · have hX8148 := hX8146.trans (if_pos hk8147)
    refine p_top 7 hk8147 ?_
    refine p_tsw 112 c215_1 (rgD rfl) (by decide) rfl rfl ?_
    refine p_aload 113 c215_112 rfl rfl ?_
    refine p_getR 116 c215_113 rfl kf0_2 ?_
    refine p_getX 119 (m 8 6) c215_116 rfl kf8_6 rfl ?_
    exact p_ireturn c215_119 (Hr _ _ hX8148 (hR.rg _ _) hR _)
  have hX8149 := hX8146.trans (if_neg hk8147)
  by_cases hk8150 : x1 = 8
  · have hX8151 := hX8149.trans (if_pos hk8150)
    refine p_top 8 hk8150 ?_
    refine p_tsw 120 c215_1 (rgD rfl) (by decide) rfl rfl ?_
    refine p_aload 121 c215_120 rfl rfl ?_
    refine p_getR 124 c215_121 rfl kf0_3 ?_
    refine p_getX 127 (m 169 5) c215_124 rfl kf169_5 rfl ?_
    exact p_ireturn c215_127 (Hr _ _ hX8151 (hR.rg _ _) hR _)
  have hX8152 := hX8149.trans (if_neg hk8150)
  by_cases hk8153 : x1 = 9
  · have hX8154 := hX8152.trans (if_pos hk8153)
    refine p_top 9 hk8153 ?_
    refine p_tsw 128 c215_1 (rgD rfl) (by decide) rfl rfl ?_
    refine p_aload 129 c215_128 rfl rfl ?_
    refine p_getX 132 (m 0 6) c215_129 rfl kf0_6 rfl ?_
    exact p_ireturn c215_132 (Hr _ _ hX8154 (hR.rg _ _) hR _)
  have hX8155 := hX8152.trans (if_neg hk8153)
  refine p_tswd 133 c215_1 gx1 (by omega) rfl ?_
  exact p_throw c215_133 (fun x n' => Ht _ _ hX8155 rfl hR x n')
def F216 (f : Nat) (x1 : Int) (m : yM) : Option (Int × yM) := (bT (F215 f x1 m) (fun r8158 m8160 => (some (0, yup m8160 413 0 ((i2l r8158).toInt)))) (fun e' m8160 => (if e' = 9 then (some (1, m8160)) else none)))
set_option maxRecDepth 100000 in
theorem d216 {L : Nat} {xs : Nat → Int32} {k d n : Nat} {c : yS3} {f : Nat} {x1 : Int} {m : yM} (hk : k ≤ f) (gx1 : rg x1) (hR : RM c m) : PC (gZ L xs) k d 216 [.ref 0, yI x1, .ref 413] m n (qS c (F216 f x1 m)) := by
  have hX : F216 f x1 m = F216 f x1 m := rfl
  have Hr : ∀ r m', F216 f x1 m = some (r, m') → rg r → RM c m' → ∀ n' : Nat, (qS c (F216 f x1 m)) (.inl (some (yI r))) m' n' := fun r m' e h1 h2 n' => ⟨r, rfl, h1, h2, e⟩
  refine PC.mk [some (.ref 0), some (yI x1), some (.ref 413), none] kn216 rfl ?_
  refine p_aload 1 c216_0 rfl rfl ?_
  refine p_iconst 2 c216_1 rfl ?_
  refine p_aload 3 c216_2 rfl rfl ?_
  refine p_iload 4 c216_3 rfl rfl ?_
  refine p_cTI 7 [.ref 0, yI x1] [yI 0, .ref 413] c216_4 rfl rfl rfl (fun k' hk' d' => d215 (f := f) (by omega) gx1 hR) (fun r8158 m8160 hF8156 hg8157 hR8161 n8125 k8124 hk8124 => ?_) (fun e' q8165 m8160 n' hF8156 hE8163 hR8164 => ?_)
  · have hX8159 := hX.trans (bT_l hF8156)
    refine p_i2l 8 c216_7 rfl ?_
    refine p_laS 9 c216_8 rfl kl413 (rgD rfl) (fun hx8166 => ?_)
    have hR8167 := hR8161.up 413 0 (v := (i2l r8158).toInt) (nselD rfl) (rg_i2l _)
    refine p_goto 15 c216_9 rfl ?_
    refine p_iconst 16 c216_15 rfl ?_
    exact p_ireturn c216_16 (Hr _ _ hX8159 (rgD rfl) hR8167 _)
  · have hXe := hX.trans (bT_r hF8156)
    cases (show e' = 9 from hE8163)
    have hX8168 := hXe.trans (if_pos rfl)
    refine ⟨fun pq hpq k8169 hk8169 => ?_, fun hno => absurd (r_kh216_4_9.symm.trans hno) (by simp)⟩
    have hpp : pq = 12 := by have := r_kh216_4_9.symm.trans hpq; simpa using this.symm
    subst hpp
    refine p_astore 13 c216_12 rfl rfl ?_
    refine p_iconst 14 c216_13 rfl ?_
    exact p_ireturn c216_14 (Hr _ _ hX8168 (rgD rfl) hR8164 _)
def F217 (f : Nat) (x1 : Int) (m : yM) : Option (Int × yM) := (bI (F23 f (F22 x1 0 9) 1 m) (fun r8186 m8188 => (if r8186 = 0 then (some (0, m8188)) else (if x1 = 9 then (some (m8188 376 1, m8188)) else (if m8188 376 19 = 0 then (some (0, m8188)) else (if x1 < 4 then (if x1 = 0 then (some (m8188 383 (m8188 376 18).toNat, m8188)) else (if x1 = 1 then (some (m8188 384 (m8188 376 18).toNat, m8188)) else (if x1 = 2 then (some (m8188 385 (m8188 376 18).toNat, m8188)) else (some (m8188 386 (m8188 376 18).toNat, m8188))))) else (if x1 = 4 then (some (m8188 387 (m8188 376 18).toNat, m8188)) else (if x1 = 5 then (some (m8188 388 (m8188 376 18).toNat, m8188)) else (if x1 = 6 then (some (m8188 389 (m8188 376 18).toNat, m8188)) else (if x1 = 7 then (some (m8188 376 47, m8188)) else (some (m8188 376 51, m8188))))))))))))
set_option maxRecDepth 100000 in
theorem d217 {L : Nat} {xs : Nat → Int32} {k d n : Nat} {c : yS3} {f : Nat} {x1 : Int} {m : yM} (hk : k ≤ f) (gx1 : rg x1) (hR : RM c m) : PC (gZ L xs) k d 217 [.ref 376, yI x1] m n (qS c (F217 f x1 m)) := by
  have hX : F217 f x1 m = F217 f x1 m := rfl
  have Hr : ∀ r m', F217 f x1 m = some (r, m') → rg r → RM c m' → ∀ n' : Nat, (qS c (F217 f x1 m)) (.inl (some (yI r))) m' n' := fun r m' e h1 h2 n' => ⟨r, rfl, h1, h2, e⟩
  refine PC.mk [some (.ref 376), some (yI x1)] kn217 rfl ?_
  refine p_aload 1 c217_0 rfl rfl ?_
  refine p_iload 2 c217_1 rfl rfl ?_
  refine p_iconst 3 c217_2 rfl ?_
  refine p_iconst 5 c217_3 rfl ?_
  refine p_cX 8 [yI x1, yI 0, yI 9] [.ref 376] c217_5 rfl rfl rfl (fun k' hk' d' => d22 gx1 (rgD rfl) (rgD rfl) hR) (fun hg8181 n8180 k8179 hk8179 => ?_)
  refine p_iconst 9 c217_8 rfl ?_
  refine p_cS 12 [.ref 376, yI (F22 x1 0 9), yI 1] [] c217_9 rfl rfl rfl (fun k' hk' d' => d23 (f := f) (by omega) hg8181 (rgD rfl) hR) (fun r8186 m8188 hF8184 hg8185 hR8189 n8183 k8182 hk8182 => ?_)
  have hX8187 := hX.trans (bI_s hF8184)
  refine p_if 17 15 c217_12 rfl rfl (yz_ne hg8185) (fun hb8190 k8191 hk8191 => ?_) (fun hb8190 k8192 hk8192 => ?_)
  · have hX8193 := hX8187.trans (if_neg hb8190)
    refine p_iload 18 c217_17 rfl rfl ?_
    refine p_iconst 20 c217_18 rfl ?_
    refine p_icmp 28 23 c217_20 rfl rfl (yc_ne gx1 (rgD rfl)) (fun hb8194 k8195 hk8195 => ?_) (fun hb8194 k8196 hk8196 => ?_)
    · have hX8197 := hX8193.trans (if_neg hb8194)
      refine p_aload 29 c217_28 rfl rfl ?_
      refine p_getX 32 (m8188 376 19) c217_29 rfl kf376_19 rfl ?_
      refine p_if 37 35 c217_32 rfl rfl (yz_ne (hR8189.rg _ _)) (fun hb8198 k8199 hk8199 => ?_) (fun hb8198 k8200 hk8200 => ?_)
      · have hX8201 := hX8197.trans (if_neg hb8198)
        refine p_iload 38 c217_37 rfl rfl ?_
        refine p_iconst 39 c217_38 rfl ?_
        refine p_icmp 102 42 c217_39 rfl rfl ((yc_ge gx1 (rgD rfl)).trans Int.not_lt.symm) (fun hb8202 k8203 hk8203 => ?_) (fun hb8202 k8204 hk8204 => ?_)
        · have hX8205 := hX8201.trans (if_neg hb8202)
          refine p_iload 103 c217_102 rfl rfl ?_
          refine p_iconst 104 c217_103 rfl ?_
          refine p_icmp 119 107 c217_104 rfl rfl (yc_ne gx1 (rgD rfl)) (fun hb8206 k8207 hk8207 => ?_) (fun hb8206 k8208 hk8208 => ?_)
          · have hX8209 := hX8205.trans (if_neg hb8206)
            refine p_iload 120 c217_119 rfl rfl ?_
            refine p_iconst 121 c217_120 rfl ?_
            refine p_icmp 136 124 c217_121 rfl rfl (yc_ne gx1 (rgD rfl)) (fun hb8210 k8211 hk8211 => ?_) (fun hb8210 k8212 hk8212 => ?_)
            · have hX8213 := hX8209.trans (if_neg hb8210)
              refine p_iload 137 c217_136 rfl rfl ?_
              refine p_iconst 139 c217_137 rfl ?_
              refine p_icmp 154 142 c217_139 rfl rfl (yc_ne gx1 (rgD rfl)) (fun hb8214 k8215 hk8215 => ?_) (fun hb8214 k8216 hk8216 => ?_)
              · have hX8217 := hX8213.trans (if_neg hb8214)
                refine p_iload 155 c217_154 rfl rfl ?_
                refine p_iconst 157 c217_155 rfl ?_
                refine p_icmp 167 160 c217_157 rfl rfl (yc_ne gx1 (rgD rfl)) (fun hb8218 k8219 hk8219 => ?_) (fun hb8218 k8220 hk8220 => ?_)
                · have hX8221 := hX8217.trans (if_neg hb8218)
                  refine p_aload 168 c217_167 rfl rfl ?_
                  refine p_getX 171 (m8188 376 51) c217_168 rfl kf376_51 rfl ?_
                  exact p_ireturn c217_171 (Hr _ _ hX8221 (hR8189.rg _ _) hR8189 _)
                · have hX8222 := hX8217.trans (if_pos (Classical.not_not.mp hb8218))
                  refine p_aload 161 c217_160 rfl rfl ?_
                  refine p_getX 164 (m8188 376 47) c217_161 rfl kf376_47 rfl ?_
                  refine p_goto 171 c217_164 rfl ?_
                  exact p_ireturn c217_171 (Hr _ _ hX8222 (hR8189.rg _ _) hR8189 _)
              · have hX8223 := hX8213.trans (if_pos (Classical.not_not.mp hb8214))
                refine p_aload 143 c217_142 rfl rfl ?_
                refine p_getR 146 c217_143 rfl kf376_26 ?_
                refine p_aload 147 c217_146 rfl rfl ?_
                refine p_getX 150 (m8188 376 18) c217_147 rfl kf376_18 rfl ?_
                refine p_iaX 151 (m8188 389 (m8188 376 18).toNat) c217_150 rfl ka389 (hR8189.rg _ _) rfl (fun hx8224 => ?_)
                refine p_goto 171 c217_151 rfl ?_
                exact p_ireturn c217_171 (Hr _ _ hX8223 (hR8189.rg _ _) hR8189 _)
            · have hX8225 := hX8209.trans (if_pos (Classical.not_not.mp hb8210))
              refine p_aload 125 c217_124 rfl rfl ?_
              refine p_getR 128 c217_125 rfl kf376_25 ?_
              refine p_aload 129 c217_128 rfl rfl ?_
              refine p_getX 132 (m8188 376 18) c217_129 rfl kf376_18 rfl ?_
              refine p_iaX 133 (m8188 388 (m8188 376 18).toNat) c217_132 rfl ka388 (hR8189.rg _ _) rfl (fun hx8226 => ?_)
              refine p_goto 171 c217_133 rfl ?_
              exact p_ireturn c217_171 (Hr _ _ hX8225 (hR8189.rg _ _) hR8189 _)
          · have hX8227 := hX8205.trans (if_pos (Classical.not_not.mp hb8206))
            refine p_aload 108 c217_107 rfl rfl ?_
            refine p_getR 111 c217_108 rfl kf376_24 ?_
            refine p_aload 112 c217_111 rfl rfl ?_
            refine p_getX 115 (m8188 376 18) c217_112 rfl kf376_18 rfl ?_
            refine p_iaX 116 (m8188 387 (m8188 376 18).toNat) c217_115 rfl ka387 (hR8189.rg _ _) rfl (fun hx8228 => ?_)
            refine p_goto 171 c217_116 rfl ?_
            exact p_ireturn c217_171 (Hr _ _ hX8227 (hR8189.rg _ _) hR8189 _)
        · have hX8229 := hX8201.trans (if_pos (Classical.not_not.mp hb8202))
          refine p_iload 43 c217_42 rfl rfl ?_
          refine p_if 58 46 c217_43 rfl rfl (yz_ne gx1) (fun hb8230 k8231 hk8231 => ?_) (fun hb8230 k8232 hk8232 => ?_)
          · have hX8233 := hX8229.trans (if_neg hb8230)
            refine p_iload 59 c217_58 rfl rfl ?_
            refine p_iconst 60 c217_59 rfl ?_
            refine p_icmp 75 63 c217_60 rfl rfl (yc_ne gx1 (rgD rfl)) (fun hb8234 k8235 hk8235 => ?_) (fun hb8234 k8236 hk8236 => ?_)
            · have hX8237 := hX8233.trans (if_neg hb8234)
              refine p_iload 76 c217_75 rfl rfl ?_
              refine p_iconst 77 c217_76 rfl ?_
              refine p_icmp 92 80 c217_77 rfl rfl (yc_ne gx1 (rgD rfl)) (fun hb8238 k8239 hk8239 => ?_) (fun hb8238 k8240 hk8240 => ?_)
              · have hX8241 := hX8237.trans (if_neg hb8238)
                refine p_aload 93 c217_92 rfl rfl ?_
                refine p_getR 96 c217_93 rfl kf376_23 ?_
                refine p_aload 97 c217_96 rfl rfl ?_
                refine p_getX 100 (m8188 376 18) c217_97 rfl kf376_18 rfl ?_
                refine p_iaX 101 (m8188 386 (m8188 376 18).toNat) c217_100 rfl ka386 (hR8189.rg _ _) rfl (fun hx8242 => ?_)
                exact p_ireturn c217_101 (Hr _ _ hX8241 (hR8189.rg _ _) hR8189 _)
              · have hX8243 := hX8237.trans (if_pos (Classical.not_not.mp hb8238))
                refine p_aload 81 c217_80 rfl rfl ?_
                refine p_getR 84 c217_81 rfl kf376_22 ?_
                refine p_aload 85 c217_84 rfl rfl ?_
                refine p_getX 88 (m8188 376 18) c217_85 rfl kf376_18 rfl ?_
                refine p_iaX 89 (m8188 385 (m8188 376 18).toNat) c217_88 rfl ka385 (hR8189.rg _ _) rfl (fun hx8244 => ?_)
                refine p_goto 101 c217_89 rfl ?_
                exact p_ireturn c217_101 (Hr _ _ hX8243 (hR8189.rg _ _) hR8189 _)
            · have hX8245 := hX8233.trans (if_pos (Classical.not_not.mp hb8234))
              refine p_aload 64 c217_63 rfl rfl ?_
              refine p_getR 67 c217_64 rfl kf376_21 ?_
              refine p_aload 68 c217_67 rfl rfl ?_
              refine p_getX 71 (m8188 376 18) c217_68 rfl kf376_18 rfl ?_
              refine p_iaX 72 (m8188 384 (m8188 376 18).toNat) c217_71 rfl ka384 (hR8189.rg _ _) rfl (fun hx8246 => ?_)
              refine p_goto 101 c217_72 rfl ?_
              exact p_ireturn c217_101 (Hr _ _ hX8245 (hR8189.rg _ _) hR8189 _)
          · have hX8247 := hX8229.trans (if_pos (Classical.not_not.mp hb8230))
            refine p_aload 47 c217_46 rfl rfl ?_
            refine p_getR 50 c217_47 rfl kf376_20 ?_
            refine p_aload 51 c217_50 rfl rfl ?_
            refine p_getX 54 (m8188 376 18) c217_51 rfl kf376_18 rfl ?_
            refine p_iaX 55 (m8188 383 (m8188 376 18).toNat) c217_54 rfl ka383 (hR8189.rg _ _) rfl (fun hx8248 => ?_)
            refine p_goto 101 c217_55 rfl ?_
            exact p_ireturn c217_101 (Hr _ _ hX8247 (hR8189.rg _ _) hR8189 _)
      · have hX8249 := hX8197.trans (if_pos (Classical.not_not.mp hb8198))
        refine p_iconst 36 c217_35 rfl ?_
        exact p_ireturn c217_36 (Hr _ _ hX8249 (rgD rfl) hR8189 _)
    · have hX8250 := hX8193.trans (if_pos (Classical.not_not.mp hb8194))
      refine p_aload 24 c217_23 rfl rfl ?_
      refine p_getX 27 (m8188 376 1) c217_24 rfl kf376_1 rfl ?_
      exact p_ireturn c217_27 (Hr _ _ hX8250 (hR8189.rg _ _) hR8189 _)
  · have hX8251 := hX8187.trans (if_pos (Classical.not_not.mp hb8190))
    refine p_iconst 16 c217_15 rfl ?_
    exact p_ireturn c217_16 (Hr _ _ hX8251 (rgD rfl) hR8189 _)
def J218_t0_589 (f : Nat) (L : Nat) (xs : Nat → Int32) (x4 : Int) (m : yM) : Option ((Int × yM) ⊕ ((Int × yM) ⊕ (Int × yM))) := (some (.inl ((wr (x4 + 4)), m)))
set_option maxRecDepth 100000 in
theorem tJ218_t0_589 {L : Nat} {xs : Nat → Int32} {Q : xO → yM → Nat → Prop} {k d n : Nat} {c : yS3} {f : Nat} {x4 : Int} {m : yM} {j5 j6 : Option Value} (hk : k ≤ f) (hL : zLn (gZ L xs) ≤ 100000) (hLr : rg (L : Int)) (gx4 : rg x4) (hR : RM c m) (Hn : ∀ (y0 : Int) (z0 z1 : Option Value) (m' : yM) (n' : Nat), J218_t0_589 f L xs x4 m = some (.inl (y0, m')) → rg y0 → (∃ c, RM c m') → ∀ k', k' < k → PW (gZ L xs) k' 218 d 23 [some (.retAddr 0), some (.ref 0), some (.ref 376), some (.ref 413), some (yI y0), z0, z1] [] m' n' Q) (He : ∀ (y0 : Int) (z0 z1 : Option Value) (m' : yM) (n' : Nat), J218_t0_589 f L xs x4 m = some (.inr (.inl (y0, m'))) → rg y0 → (∃ c, RM c m') → ∀ k', k' ≤ k → PW (gZ L xs) k' 218 d 595 [some (.retAddr 0), some (.ref 0), some (.ref 376), some (.ref 413), some (yI y0), z0, z1] [] m' n' Q) (Hr : ∀ r m', J218_t0_589 f L xs x4 m = some (.inr (.inr (r, m'))) → rg r → (∃ c, RM c m') → ∀ n', Q (.inl (some (yI r))) m' n') : PW (gZ L xs) k 218 d 589 [some (.retAddr 0), some (.ref 0), some (.ref 376), some (.ref 413), some (yI x4), j5, j6] [] m n Q := by
  have hX : J218_t0_589 f L xs x4 m = J218_t0_589 f L xs x4 m := rfl
  refine p_iinc 592 r_c218_589 rfl rfl rfl ?_
  refine p_gotoD 23 r_c218_592 rfl (fun k222 hk222 => ?_)
  exact Hn _ _ _ _ _ hX (rg_wr _) ⟨_, hR⟩ _ (by omega)
def B218_t0_23 (f : Nat) (L : Nat) (xs : Nat → Int32) (x4 : Int) (m : yM) : Option ((Int × yM) ⊕ ((Int × yM) ⊕ (Int × yM))) := (if wr (((L : Int)) - 4) < x4 then (some (.inr (.inl (x4, m)))) else (if iAnd ((xs (x4).toNat).toInt) 15 = 0 then (bI (F21 f ((lShl (i2l ((xs (wr (x4 + 1)).toNat).toInt)) 32) ||| ((i2l ((xs (wr (x4 + 2)).toNat).toInt)) &&& (Int64.ofInt 4294967295))) ((xs (wr (x4 + 3)).toNat).toInt) m) (fun r107 m109 => (bI (F25 f ((lShl (i2l ((xs (wr (x4 + 1)).toNat).toInt)) 32) ||| ((i2l ((xs (wr (x4 + 2)).toNat).toInt)) &&& (Int64.ofInt 4294967295))) ((xs (wr (x4 + 3)).toNat).toInt) m109) (fun r218 m220 => (J218_t0_589 f L xs x4 m220))))) else (if iAnd ((xs (x4).toNat).toInt) 15 = 1 then (bI (F28 f ((xs (wr (x4 + 1)).toNat).toInt) m) (fun r258 m260 => (bI (F29 f ((xs (wr (x4 + 1)).toNat).toInt) m260) (fun r284 m286 => (J218_t0_589 f L xs x4 m286))))) else (if iAnd ((xs (x4).toNat).toInt) 15 = 2 then (bI (F95 f m) (fun r2874 m2876 => (bI (F152 f m2876) (fun r5884 m5886 => (J218_t0_589 f L xs x4 m5886))))) else (if iAnd ((xs (x4).toNat).toInt) 15 = 3 then (bI (F154 f m) (fun r5899 m5901 => (if F153 m = r5899 then (J218_t0_589 f L xs x4 m5901) else (some (.inr (.inr (0, m5901))))))) else (if iAnd ((xs (x4).toNat).toInt) 15 = 4 then (bI (F159 f ((xs (wr (x4 + 1)).toNat).toInt) ((xs (wr (x4 + 2)).toNat).toInt) m) (fun r5968 m5970 => (bI (F163 f ((xs (wr (x4 + 1)).toNat).toInt) ((xs (wr (x4 + 2)).toNat).toInt) m5970) (fun r6054 m6056 => (J218_t0_589 f L xs x4 m6056))))) else (if iAnd ((xs (x4).toNat).toInt) 15 = 5 then (bI (F165 f ((xs (wr (x4 + 1)).toNat).toInt) ((xs (wr (x4 + 2)).toNat).toInt) ((xs (wr (x4 + 3)).toNat).toInt) m) (fun r6113 m6115 => (bI (F166 f ((xs (wr (x4 + 1)).toNat).toInt) ((xs (wr (x4 + 2)).toNat).toInt) ((xs (wr (x4 + 3)).toNat).toInt) m6115) (fun r6163 m6165 => (J218_t0_589 f L xs x4 m6165))))) else (if iAnd ((xs (x4).toNat).toInt) 15 = 6 then (bI (F169 f ((xs (wr (x4 + 1)).toNat).toInt) ((xs (wr (x4 + 2)).toNat).toInt) m) (fun r6214 m6216 => (bI (F171 f ((xs (wr (x4 + 1)).toNat).toInt) ((xs (wr (x4 + 2)).toNat).toInt) m6216) (fun r6269 m6271 => (J218_t0_589 f L xs x4 m6271))))) else (if iAnd ((xs (x4).toNat).toInt) 15 = 7 then (bI (F173 f ((xs (wr (x4 + 1)).toNat).toInt) m) (fun r6306 m6308 => (bI (F174 f ((xs (wr (x4 + 1)).toNat).toInt) m6308) (fun r6332 m6334 => (J218_t0_589 f L xs x4 m6334))))) else (if iAnd ((xs (x4).toNat).toInt) 15 = 8 then (bI (F177 f ((xs (wr (x4 + 1)).toNat).toInt) m) (fun r6415 m6417 => (bI (F178 f ((xs (wr (x4 + 1)).toNat).toInt) m6417) (fun r6477 m6479 => (J218_t0_589 f L xs x4 m6479))))) else (if iAnd ((xs (x4).toNat).toInt) 15 = 9 then (bI (F181 f ((xs (wr (x4 + 1)).toNat).toInt) ((xs (wr (x4 + 2)).toNat).toInt) m) (fun r6562 m6564 => (bI (F182 f ((xs (wr (x4 + 1)).toNat).toInt) ((xs (wr (x4 + 2)).toNat).toInt) m6564) (fun r6629 m6631 => (J218_t0_589 f L xs x4 m6631))))) else (if iAnd ((xs (x4).toNat).toInt) 15 = 10 then (bI (F184 f ((xs (wr (x4 + 1)).toNat).toInt) ((xs (wr (x4 + 2)).toNat).toInt) m) (fun r6694 m6696 => (bI (F185 f ((xs (wr (x4 + 1)).toNat).toInt) ((xs (wr (x4 + 2)).toNat).toInt) m6696) (fun r6749 m6751 => (J218_t0_589 f L xs x4 m6751))))) else (if iAnd ((xs (x4).toNat).toInt) 15 = 11 then (bI (F200 f m) (fun r7397 m7399 => (bI (F211 f m7399) (fun r8021 m8023 => (J218_t0_589 f L xs x4 m8023))))) else (if iAnd ((xs (x4).toNat).toInt) 15 = 12 then (bI (F213 f ((xs (wr (x4 + 1)).toNat).toInt) ((xs (wr (x4 + 2)).toNat).toInt) m) (fun r8069 m8071 => (bI (F214 f ((xs (wr (x4 + 1)).toNat).toInt) ((xs (wr (x4 + 2)).toNat).toInt) m8071) (fun r8114 m8116 => (J218_t0_589 f L xs x4 m8116))))) else (if iAnd ((xs (x4).toNat).toInt) 15 = 13 then (bI (F216 f ((xs (wr (x4 + 1)).toNat).toInt) m) (fun r8172 m8174 => (bI (F217 f ((xs (wr (x4 + 1)).toNat).toInt) m8174) (fun r8254 m8256 => (J218_t0_589 f L xs x4 m8256))))) else (J218_t0_589 f L xs x4 m))))))))))))))))
set_option maxRecDepth 100000 in
theorem tB218_t0_23 {L : Nat} {xs : Nat → Int32} {Q : xO → yM → Nat → Prop} {k d n : Nat} {c : yS3} {f : Nat} {x4 : Int} {m : yM} {j5 j6 : Option Value} (hk : k ≤ f) (hL : zLn (gZ L xs) ≤ 100000) (hLr : rg (L : Int)) (gx4 : rg x4) (hR : RM c m) (Hn : ∀ (y0 : Int) (z0 z1 : Option Value) (m' : yM) (n' : Nat), B218_t0_23 f L xs x4 m = some (.inl (y0, m')) → rg y0 → (∃ c, RM c m') → ∀ k', k' < k → PW (gZ L xs) k' 218 d 23 [some (.retAddr 0), some (.ref 0), some (.ref 376), some (.ref 413), some (yI y0), z0, z1] [] m' n' Q) (He : ∀ (y0 : Int) (z0 z1 : Option Value) (m' : yM) (n' : Nat), B218_t0_23 f L xs x4 m = some (.inr (.inl (y0, m'))) → rg y0 → (∃ c, RM c m') → ∀ k', k' ≤ k → PW (gZ L xs) k' 218 d 595 [some (.retAddr 0), some (.ref 0), some (.ref 376), some (.ref 413), some (yI y0), z0, z1] [] m' n' Q) (Hr : ∀ r m', B218_t0_23 f L xs x4 m = some (.inr (.inr (r, m'))) → rg r → (∃ c, RM c m') → ∀ n', Q (.inl (some (yI r))) m' n') : PW (gZ L xs) k 218 d 23 [some (.retAddr 0), some (.ref 0), some (.ref 376), some (.ref 413), some (yI x4), j5, j6] [] m n Q := by
  have hX : B218_t0_23 f L xs x4 m = B218_t0_23 f L xs x4 m := rfl
  refine p_iload 25 r_c218_23 rfl rfl ?_
  refine p_aload 26 r_c218_25 rfl rfl ?_
  refine p_slen 27 r_c218_26 rfl ?_
  refine p_top (L : Int) rfl ?_
  refine p_iconst 28 r_c218_27 rfl ?_
  refine p_isub 29 r_c218_28 rfl ?_
  refine p_icmp 595 32 r_c218_29 rfl rfl (yc_gt gx4 (rg_wr _)) (fun hb1 k2 hk2 => ?_) (fun hb1 k3 hk3 => ?_)
  · have hX4 := hX.trans (if_pos hb1)
    exact He _ _ _ _ _ hX4 gx4 ⟨_, hR⟩ _ (by omega)
  · have hX5 := hX.trans (if_neg hb1)
    refine p_aload 33 r_c218_32 rfl rfl ?_
    refine p_iload 35 r_c218_33 rfl rfl ?_
    refine p_script 36 r_c218_35 rfl hL gx4 (fun hx6 => ?_)
    refine p_top (xs (x4).toNat).toInt rfl ?_
    refine p_iconst 38 r_c218_36 rfl ?_
    refine p_iand 39 r_c218_38 rfl ?_
    by_cases hk7 : iAnd ((xs (x4).toNat).toInt) 15 = 0
    · have hX8 := hX5.trans (if_pos hk7)
      refine p_top 0 hk7 ?_
      refine p_tsw 108 r_c218_39 (rgD rfl) (by decide) rfl rfl ?_
      refine p_aload 109 r_c218_108 rfl rfl ?_
      refine p_aload 110 r_c218_109 rfl rfl ?_
      refine p_iload 112 r_c218_110 rfl rfl ?_
      refine p_iconst 113 r_c218_112 rfl ?_
      refine p_iadd 114 r_c218_113 rfl ?_
      refine p_script 115 r_c218_114 rfl hL (rg_wr _) (fun hx9 => ?_)
      refine p_top (xs (wr (x4 + 1)).toNat).toInt rfl ?_
      refine p_i2l 116 r_c218_115 rfl ?_
      refine p_iconst 118 r_c218_116 rfl ?_
      refine p_lshl 119 r_c218_118 rfl ?_
      refine p_aload 120 r_c218_119 rfl rfl ?_
      refine p_iload 122 r_c218_120 rfl rfl ?_
      refine p_iconst 123 r_c218_122 rfl ?_
      refine p_iadd 124 r_c218_123 rfl ?_
      refine p_script 125 r_c218_124 rfl hL (rg_wr _) (fun hx10 => ?_)
      refine p_top (xs (wr (x4 + 2)).toNat).toInt rfl ?_
      refine p_i2l 126 r_c218_125 rfl ?_
      refine p_lconst 129 r_c218_126 rfl ?_
      refine p_land 130 r_c218_129 rfl ?_
      refine p_lor 131 r_c218_130 rfl ?_
      refine p_aload 132 r_c218_131 rfl rfl ?_
      refine p_iload 134 r_c218_132 rfl rfl ?_
      refine p_iconst 135 r_c218_134 rfl ?_
      refine p_iadd 136 r_c218_135 rfl ?_
      refine p_script 137 r_c218_136 rfl hL (rg_wr _) (fun hx11 => ?_)
      refine p_top (xs (wr (x4 + 3)).toNat).toInt rfl ?_
      refine p_aload 138 r_c218_137 rfl rfl ?_
      refine p_cS 141 [.ref 0, .long ((lShl (i2l ((xs (wr (x4 + 1)).toNat).toInt)) 32) ||| ((i2l ((xs (wr (x4 + 2)).toNat).toInt)) &&& (Int64.ofInt 4294967295))), yI ((xs (wr (x4 + 3)).toNat).toInt), .ref 413] [] r_c218_138 rfl rfl rfl (fun k' hk' d' => d21 (f := f) (by omega) (rg_to _) hR) (fun r107 m109 hF105 hg106 hR110 n13 k12 hk12 => ?_)
      have hX108 := hX8.trans (bI_s hF105)
      refine p_istore 143 r_c218_141 rfl rfl ?_
      refine p_aload 144 r_c218_143 rfl rfl ?_
      refine p_aload 145 r_c218_144 rfl rfl ?_
      refine p_iload 147 r_c218_145 rfl rfl ?_
      refine p_iconst 148 r_c218_147 rfl ?_
      refine p_iadd 149 r_c218_148 rfl ?_
      refine p_script 150 r_c218_149 rfl hL (rg_wr _) (fun hx111 => ?_)
      refine p_top (xs (wr (x4 + 1)).toNat).toInt rfl ?_
      refine p_i2l 151 r_c218_150 rfl ?_
      refine p_iconst 153 r_c218_151 rfl ?_
      refine p_lshl 154 r_c218_153 rfl ?_
      refine p_aload 155 r_c218_154 rfl rfl ?_
      refine p_iload 157 r_c218_155 rfl rfl ?_
      refine p_iconst 158 r_c218_157 rfl ?_
      refine p_iadd 159 r_c218_158 rfl ?_
      refine p_script 160 r_c218_159 rfl hL (rg_wr _) (fun hx112 => ?_)
      refine p_top (xs (wr (x4 + 2)).toNat).toInt rfl ?_
      refine p_i2l 161 r_c218_160 rfl ?_
      refine p_lconst 164 r_c218_161 rfl ?_
      refine p_land 165 r_c218_164 rfl ?_
      refine p_lor 166 r_c218_165 rfl ?_
      refine p_aload 167 r_c218_166 rfl rfl ?_
      refine p_iload 169 r_c218_167 rfl rfl ?_
      refine p_iconst 170 r_c218_169 rfl ?_
      refine p_iadd 171 r_c218_170 rfl ?_
      refine p_script 172 r_c218_171 rfl hL (rg_wr _) (fun hx113 => ?_)
      refine p_top (xs (wr (x4 + 3)).toNat).toInt rfl ?_
      refine p_cS 175 [.ref 376, .long ((lShl (i2l ((xs (wr (x4 + 1)).toNat).toInt)) 32) ||| ((i2l ((xs (wr (x4 + 2)).toNat).toInt)) &&& (Int64.ofInt 4294967295))), yI ((xs (wr (x4 + 3)).toNat).toInt)] [] r_c218_172 rfl rfl rfl (fun k' hk' d' => d25 (f := f) (by omega) (rg_to _) hR110) (fun r218 m220 hF216 hg217 hR221 n115 k114 hk114 => ?_)
      have hX219 := hX108.trans (bI_s hF216)
      refine p_istore 177 r_c218_175 rfl rfl ?_
      refine p_goto 589 r_c218_177 rfl ?_
      exact tJ218_t0_589 (f := f) (by omega) hL hLr gx4 hR221 (fun y0 y1 y2 m' n' e' h0 hR' k' hk' => Hn y0 y1 y2 m' n' (hX219.trans e') h0 hR' k' (by omega)) (fun y0 y1 y2 m' n' e' h0 hR' k' hk' => He y0 y1 y2 m' n' (hX219.trans e') h0 hR' k' (by omega)) (fun r' m' e' => Hr r' m' (hX219.trans e'))
    have hX223 := hX5.trans (if_neg hk7)
    by_cases hk224 : iAnd ((xs (x4).toNat).toInt) 15 = 1
    · have hX225 := hX223.trans (if_pos hk224)
      refine p_top 1 hk224 ?_
      refine p_tsw 180 r_c218_39 (rgD rfl) (by decide) rfl rfl ?_
      refine p_aload 181 r_c218_180 rfl rfl ?_
      refine p_aload 182 r_c218_181 rfl rfl ?_
      refine p_iload 184 r_c218_182 rfl rfl ?_
      refine p_iconst 185 r_c218_184 rfl ?_
      refine p_iadd 186 r_c218_185 rfl ?_
      refine p_script 187 r_c218_186 rfl hL (rg_wr _) (fun hx226 => ?_)
      refine p_top (xs (wr (x4 + 1)).toNat).toInt rfl ?_
      refine p_aload 188 r_c218_187 rfl rfl ?_
      refine p_cS 191 [.ref 0, yI ((xs (wr (x4 + 1)).toNat).toInt), .ref 413] [] r_c218_188 rfl rfl rfl (fun k' hk' d' => d28 (f := f) (by omega) (rg_to _) hR) (fun r258 m260 hF256 hg257 hR261 n228 k227 hk227 => ?_)
      have hX259 := hX225.trans (bI_s hF256)
      refine p_istore 193 r_c218_191 rfl rfl ?_
      refine p_aload 194 r_c218_193 rfl rfl ?_
      refine p_aload 195 r_c218_194 rfl rfl ?_
      refine p_iload 197 r_c218_195 rfl rfl ?_
      refine p_iconst 198 r_c218_197 rfl ?_
      refine p_iadd 199 r_c218_198 rfl ?_
      refine p_script 200 r_c218_199 rfl hL (rg_wr _) (fun hx262 => ?_)
      refine p_top (xs (wr (x4 + 1)).toNat).toInt rfl ?_
      refine p_cS 203 [.ref 376, yI ((xs (wr (x4 + 1)).toNat).toInt)] [] r_c218_200 rfl rfl rfl (fun k' hk' d' => d29 (f := f) (by omega) (rg_to _) hR261) (fun r284 m286 hF282 hg283 hR287 n264 k263 hk263 => ?_)
      have hX285 := hX259.trans (bI_s hF282)
      refine p_istore 205 r_c218_203 rfl rfl ?_
      refine p_goto 589 r_c218_205 rfl ?_
      exact tJ218_t0_589 (f := f) (by omega) hL hLr gx4 hR287 (fun y0 y1 y2 m' n' e' h0 hR' k' hk' => Hn y0 y1 y2 m' n' (hX285.trans e') h0 hR' k' (by omega)) (fun y0 y1 y2 m' n' e' h0 hR' k' hk' => He y0 y1 y2 m' n' (hX285.trans e') h0 hR' k' (by omega)) (fun r' m' e' => Hr r' m' (hX285.trans e'))
    have hX288 := hX223.trans (if_neg hk224)
    by_cases hk289 : iAnd ((xs (x4).toNat).toInt) 15 = 2
    · have hX290 := hX288.trans (if_pos hk289)
      refine p_top 2 hk289 ?_
      refine p_tsw 208 r_c218_39 (rgD rfl) (by decide) rfl rfl ?_
      refine p_aload 209 r_c218_208 rfl rfl ?_
      refine p_aload 210 r_c218_209 rfl rfl ?_
      refine p_cSe 213 [.ref 0, .ref 413] [] r_c218_210 rfl rfl rfl (fun k' hk' d' => d95 (f := f) (by omega) hR) (fun r2874 m2876 c2878 hF2872 hg2873 hR2877 n292 k291 hk291 => ?_)
      have hX2875 := hX290.trans (bI_s hF2872)
      refine p_istore 215 r_c218_213 rfl rfl ?_
      refine p_aload 216 r_c218_215 rfl rfl ?_
      refine p_cS 219 [.ref 376] [] r_c218_216 rfl rfl rfl (fun k' hk' d' => d152 (f := f) (by omega) hR2877) (fun r5884 m5886 hF5882 hg5883 hR5887 n2880 k2879 hk2879 => ?_)
      have hX5885 := hX2875.trans (bI_s hF5882)
      refine p_istore 221 r_c218_219 rfl rfl ?_
      refine p_goto 589 r_c218_221 rfl ?_
      exact tJ218_t0_589 (f := f) (by omega) hL hLr gx4 hR5887 (fun y0 y1 y2 m' n' e' h0 hR' k' hk' => Hn y0 y1 y2 m' n' (hX5885.trans e') h0 hR' k' (by omega)) (fun y0 y1 y2 m' n' e' h0 hR' k' hk' => He y0 y1 y2 m' n' (hX5885.trans e') h0 hR' k' (by omega)) (fun r' m' e' => Hr r' m' (hX5885.trans e'))
    have hX5888 := hX288.trans (if_neg hk289)
    by_cases hk5889 : iAnd ((xs (x4).toNat).toInt) 15 = 3
    · have hX5890 := hX5888.trans (if_pos hk5889)
      refine p_top 3 hk5889 ?_
      refine p_tsw 224 r_c218_39 (rgD rfl) (by decide) rfl rfl ?_
      refine p_aload 225 r_c218_224 rfl rfl ?_
      refine p_cX 228 [.ref 0] [] r_c218_225 rfl rfl rfl (fun k' hk' d' => d153 hR) (fun hg5893 n5892 k5891 hk5891 => ?_)
      refine p_aload 229 r_c218_228 rfl rfl ?_
      refine p_cS 232 [.ref 376] [yI (F153 m)] r_c218_229 rfl rfl rfl (fun k' hk' d' => d154 (f := f) (by omega) hR) (fun r5899 m5901 hF5897 hg5898 hR5902 n5895 k5894 hk5894 => ?_)
      have hX5900 := hX5890.trans (bI_s hF5897)
      refine p_icmp 589 235 r_c218_232 rfl rfl (yc_eq hg5893 hg5898) (fun hb5903 k5904 hk5904 => ?_) (fun hb5903 k5905 hk5905 => ?_)
      · have hX5906 := hX5900.trans (if_pos hb5903)
        exact tJ218_t0_589 (f := f) (by omega) hL hLr gx4 hR5902 (fun y0 y1 y2 m' n' e' h0 hR' k' hk' => Hn y0 y1 y2 m' n' (hX5906.trans e') h0 hR' k' (by omega)) (fun y0 y1 y2 m' n' e' h0 hR' k' hk' => He y0 y1 y2 m' n' (hX5906.trans e') h0 hR' k' (by omega)) (fun r' m' e' => Hr r' m' (hX5906.trans e'))
      · have hX5907 := hX5900.trans (if_neg hb5903)
        refine p_iconst 236 r_c218_235 rfl ?_
        exact p_ireturn r_c218_236 (Hr _ _ hX5907 (rgD rfl) ⟨_, hR5902⟩ _)
    have hX5908 := hX5888.trans (if_neg hk5889)
    by_cases hk5909 : iAnd ((xs (x4).toNat).toInt) 15 = 4
    · have hX5910 := hX5908.trans (if_pos hk5909)
      refine p_top 4 hk5909 ?_
      refine p_tsw 237 r_c218_39 (rgD rfl) (by decide) rfl rfl ?_
      refine p_aload 238 r_c218_237 rfl rfl ?_
      refine p_aload 239 r_c218_238 rfl rfl ?_
      refine p_iload 241 r_c218_239 rfl rfl ?_
      refine p_iconst 242 r_c218_241 rfl ?_
      refine p_iadd 243 r_c218_242 rfl ?_
      refine p_script 244 r_c218_243 rfl hL (rg_wr _) (fun hx5911 => ?_)
      refine p_top (xs (wr (x4 + 1)).toNat).toInt rfl ?_
      refine p_aload 245 r_c218_244 rfl rfl ?_
      refine p_iload 247 r_c218_245 rfl rfl ?_
      refine p_iconst 248 r_c218_247 rfl ?_
      refine p_iadd 249 r_c218_248 rfl ?_
      refine p_script 250 r_c218_249 rfl hL (rg_wr _) (fun hx5912 => ?_)
      refine p_top (xs (wr (x4 + 2)).toNat).toInt rfl ?_
      refine p_aload 251 r_c218_250 rfl rfl ?_
      refine p_cS 254 [.ref 0, yI ((xs (wr (x4 + 1)).toNat).toInt), yI ((xs (wr (x4 + 2)).toNat).toInt), .ref 413] [] r_c218_251 rfl rfl rfl (fun k' hk' d' => d159 (f := f) (by omega) (rg_to _) (rg_to _) hR) (fun r5968 m5970 hF5966 hg5967 hR5971 n5914 k5913 hk5913 => ?_)
      have hX5969 := hX5910.trans (bI_s hF5966)
      refine p_istore 256 r_c218_254 rfl rfl ?_
      refine p_aload 257 r_c218_256 rfl rfl ?_
      refine p_aload 258 r_c218_257 rfl rfl ?_
      refine p_iload 260 r_c218_258 rfl rfl ?_
      refine p_iconst 261 r_c218_260 rfl ?_
      refine p_iadd 262 r_c218_261 rfl ?_
      refine p_script 263 r_c218_262 rfl hL (rg_wr _) (fun hx5972 => ?_)
      refine p_top (xs (wr (x4 + 1)).toNat).toInt rfl ?_
      refine p_aload 264 r_c218_263 rfl rfl ?_
      refine p_iload 266 r_c218_264 rfl rfl ?_
      refine p_iconst 267 r_c218_266 rfl ?_
      refine p_iadd 268 r_c218_267 rfl ?_
      refine p_script 269 r_c218_268 rfl hL (rg_wr _) (fun hx5973 => ?_)
      refine p_top (xs (wr (x4 + 2)).toNat).toInt rfl ?_
      refine p_cS 272 [.ref 376, yI ((xs (wr (x4 + 1)).toNat).toInt), yI ((xs (wr (x4 + 2)).toNat).toInt)] [] r_c218_269 rfl rfl rfl (fun k' hk' d' => d163 (f := f) (by omega) (rg_to _) (rg_to _) hR5971) (fun r6054 m6056 hF6052 hg6053 hR6057 n5975 k5974 hk5974 => ?_)
      have hX6055 := hX5969.trans (bI_s hF6052)
      refine p_istore 274 r_c218_272 rfl rfl ?_
      refine p_goto 589 r_c218_274 rfl ?_
      exact tJ218_t0_589 (f := f) (by omega) hL hLr gx4 hR6057 (fun y0 y1 y2 m' n' e' h0 hR' k' hk' => Hn y0 y1 y2 m' n' (hX6055.trans e') h0 hR' k' (by omega)) (fun y0 y1 y2 m' n' e' h0 hR' k' hk' => He y0 y1 y2 m' n' (hX6055.trans e') h0 hR' k' (by omega)) (fun r' m' e' => Hr r' m' (hX6055.trans e'))
    have hX6058 := hX5908.trans (if_neg hk5909)
    by_cases hk6059 : iAnd ((xs (x4).toNat).toInt) 15 = 5
    · have hX6060 := hX6058.trans (if_pos hk6059)
      refine p_top 5 hk6059 ?_
      refine p_tsw 277 r_c218_39 (rgD rfl) (by decide) rfl rfl ?_
      refine p_aload 278 r_c218_277 rfl rfl ?_
      refine p_aload 279 r_c218_278 rfl rfl ?_
      refine p_iload 281 r_c218_279 rfl rfl ?_
      refine p_iconst 282 r_c218_281 rfl ?_
      refine p_iadd 283 r_c218_282 rfl ?_
      refine p_script 284 r_c218_283 rfl hL (rg_wr _) (fun hx6061 => ?_)
      refine p_top (xs (wr (x4 + 1)).toNat).toInt rfl ?_
      refine p_aload 285 r_c218_284 rfl rfl ?_
      refine p_iload 287 r_c218_285 rfl rfl ?_
      refine p_iconst 288 r_c218_287 rfl ?_
      refine p_iadd 289 r_c218_288 rfl ?_
      refine p_script 290 r_c218_289 rfl hL (rg_wr _) (fun hx6062 => ?_)
      refine p_top (xs (wr (x4 + 2)).toNat).toInt rfl ?_
      refine p_aload 291 r_c218_290 rfl rfl ?_
      refine p_iload 293 r_c218_291 rfl rfl ?_
      refine p_iconst 294 r_c218_293 rfl ?_
      refine p_iadd 295 r_c218_294 rfl ?_
      refine p_script 296 r_c218_295 rfl hL (rg_wr _) (fun hx6063 => ?_)
      refine p_top (xs (wr (x4 + 3)).toNat).toInt rfl ?_
      refine p_aload 297 r_c218_296 rfl rfl ?_
      refine p_cS 300 [.ref 0, yI ((xs (wr (x4 + 1)).toNat).toInt), yI ((xs (wr (x4 + 2)).toNat).toInt), yI ((xs (wr (x4 + 3)).toNat).toInt), .ref 413] [] r_c218_297 rfl rfl rfl (fun k' hk' d' => d165 (f := f) (by omega) (rg_to _) (rg_to _) (rg_to _) hR) (fun r6113 m6115 hF6111 hg6112 hR6116 n6065 k6064 hk6064 => ?_)
      have hX6114 := hX6060.trans (bI_s hF6111)
      refine p_istore 302 r_c218_300 rfl rfl ?_
      refine p_aload 303 r_c218_302 rfl rfl ?_
      refine p_aload 304 r_c218_303 rfl rfl ?_
      refine p_iload 306 r_c218_304 rfl rfl ?_
      refine p_iconst 307 r_c218_306 rfl ?_
      refine p_iadd 308 r_c218_307 rfl ?_
      refine p_script 309 r_c218_308 rfl hL (rg_wr _) (fun hx6117 => ?_)
      refine p_top (xs (wr (x4 + 1)).toNat).toInt rfl ?_
      refine p_aload 310 r_c218_309 rfl rfl ?_
      refine p_iload 312 r_c218_310 rfl rfl ?_
      refine p_iconst 313 r_c218_312 rfl ?_
      refine p_iadd 314 r_c218_313 rfl ?_
      refine p_script 315 r_c218_314 rfl hL (rg_wr _) (fun hx6118 => ?_)
      refine p_top (xs (wr (x4 + 2)).toNat).toInt rfl ?_
      refine p_aload 316 r_c218_315 rfl rfl ?_
      refine p_iload 318 r_c218_316 rfl rfl ?_
      refine p_iconst 319 r_c218_318 rfl ?_
      refine p_iadd 320 r_c218_319 rfl ?_
      refine p_script 321 r_c218_320 rfl hL (rg_wr _) (fun hx6119 => ?_)
      refine p_top (xs (wr (x4 + 3)).toNat).toInt rfl ?_
      refine p_cS 324 [.ref 376, yI ((xs (wr (x4 + 1)).toNat).toInt), yI ((xs (wr (x4 + 2)).toNat).toInt), yI ((xs (wr (x4 + 3)).toNat).toInt)] [] r_c218_321 rfl rfl rfl (fun k' hk' d' => d166 (f := f) (by omega) (rg_to _) (rg_to _) (rg_to _) hR6116) (fun r6163 m6165 hF6161 hg6162 hR6166 n6121 k6120 hk6120 => ?_)
      have hX6164 := hX6114.trans (bI_s hF6161)
      refine p_istore 326 r_c218_324 rfl rfl ?_
      refine p_goto 589 r_c218_326 rfl ?_
      exact tJ218_t0_589 (f := f) (by omega) hL hLr gx4 hR6166 (fun y0 y1 y2 m' n' e' h0 hR' k' hk' => Hn y0 y1 y2 m' n' (hX6164.trans e') h0 hR' k' (by omega)) (fun y0 y1 y2 m' n' e' h0 hR' k' hk' => He y0 y1 y2 m' n' (hX6164.trans e') h0 hR' k' (by omega)) (fun r' m' e' => Hr r' m' (hX6164.trans e'))
    have hX6167 := hX6058.trans (if_neg hk6059)
    by_cases hk6168 : iAnd ((xs (x4).toNat).toInt) 15 = 6
    · have hX6169 := hX6167.trans (if_pos hk6168)
      refine p_top 6 hk6168 ?_
      refine p_tsw 329 r_c218_39 (rgD rfl) (by decide) rfl rfl ?_
      refine p_aload 330 r_c218_329 rfl rfl ?_
      refine p_aload 331 r_c218_330 rfl rfl ?_
      refine p_iload 333 r_c218_331 rfl rfl ?_
      refine p_iconst 334 r_c218_333 rfl ?_
      refine p_iadd 335 r_c218_334 rfl ?_
      refine p_script 336 r_c218_335 rfl hL (rg_wr _) (fun hx6170 => ?_)
      refine p_top (xs (wr (x4 + 1)).toNat).toInt rfl ?_
      refine p_aload 337 r_c218_336 rfl rfl ?_
      refine p_iload 339 r_c218_337 rfl rfl ?_
      refine p_iconst 340 r_c218_339 rfl ?_
      refine p_iadd 341 r_c218_340 rfl ?_
      refine p_script 342 r_c218_341 rfl hL (rg_wr _) (fun hx6171 => ?_)
      refine p_top (xs (wr (x4 + 2)).toNat).toInt rfl ?_
      refine p_aload 343 r_c218_342 rfl rfl ?_
      refine p_cS 346 [.ref 0, yI ((xs (wr (x4 + 1)).toNat).toInt), yI ((xs (wr (x4 + 2)).toNat).toInt), .ref 413] [] r_c218_343 rfl rfl rfl (fun k' hk' d' => d169 (f := f) (by omega) (rg_to _) (rg_to _) hR) (fun r6214 m6216 hF6212 hg6213 hR6217 n6173 k6172 hk6172 => ?_)
      have hX6215 := hX6169.trans (bI_s hF6212)
      refine p_istore 348 r_c218_346 rfl rfl ?_
      refine p_aload 349 r_c218_348 rfl rfl ?_
      refine p_aload 350 r_c218_349 rfl rfl ?_
      refine p_iload 352 r_c218_350 rfl rfl ?_
      refine p_iconst 353 r_c218_352 rfl ?_
      refine p_iadd 354 r_c218_353 rfl ?_
      refine p_script 355 r_c218_354 rfl hL (rg_wr _) (fun hx6218 => ?_)
      refine p_top (xs (wr (x4 + 1)).toNat).toInt rfl ?_
      refine p_aload 356 r_c218_355 rfl rfl ?_
      refine p_iload 358 r_c218_356 rfl rfl ?_
      refine p_iconst 359 r_c218_358 rfl ?_
      refine p_iadd 360 r_c218_359 rfl ?_
      refine p_script 361 r_c218_360 rfl hL (rg_wr _) (fun hx6219 => ?_)
      refine p_top (xs (wr (x4 + 2)).toNat).toInt rfl ?_
      refine p_cS 364 [.ref 376, yI ((xs (wr (x4 + 1)).toNat).toInt), yI ((xs (wr (x4 + 2)).toNat).toInt)] [] r_c218_361 rfl rfl rfl (fun k' hk' d' => d171 (f := f) (by omega) (rg_to _) (rg_to _) hR6217) (fun r6269 m6271 hF6267 hg6268 hR6272 n6221 k6220 hk6220 => ?_)
      have hX6270 := hX6215.trans (bI_s hF6267)
      refine p_istore 366 r_c218_364 rfl rfl ?_
      refine p_goto 589 r_c218_366 rfl ?_
      exact tJ218_t0_589 (f := f) (by omega) hL hLr gx4 hR6272 (fun y0 y1 y2 m' n' e' h0 hR' k' hk' => Hn y0 y1 y2 m' n' (hX6270.trans e') h0 hR' k' (by omega)) (fun y0 y1 y2 m' n' e' h0 hR' k' hk' => He y0 y1 y2 m' n' (hX6270.trans e') h0 hR' k' (by omega)) (fun r' m' e' => Hr r' m' (hX6270.trans e'))
    have hX6273 := hX6167.trans (if_neg hk6168)
    by_cases hk6274 : iAnd ((xs (x4).toNat).toInt) 15 = 7
    · have hX6275 := hX6273.trans (if_pos hk6274)
      refine p_top 7 hk6274 ?_
      refine p_tsw 369 r_c218_39 (rgD rfl) (by decide) rfl rfl ?_
      refine p_aload 370 r_c218_369 rfl rfl ?_
      refine p_aload 371 r_c218_370 rfl rfl ?_
      refine p_iload 373 r_c218_371 rfl rfl ?_
      refine p_iconst 374 r_c218_373 rfl ?_
      refine p_iadd 375 r_c218_374 rfl ?_
      refine p_script 376 r_c218_375 rfl hL (rg_wr _) (fun hx6276 => ?_)
      refine p_top (xs (wr (x4 + 1)).toNat).toInt rfl ?_
      refine p_aload 377 r_c218_376 rfl rfl ?_
      refine p_cS 380 [.ref 0, yI ((xs (wr (x4 + 1)).toNat).toInt), .ref 413] [] r_c218_377 rfl rfl rfl (fun k' hk' d' => d173 (f := f) (by omega) (rg_to _) hR) (fun r6306 m6308 hF6304 hg6305 hR6309 n6278 k6277 hk6277 => ?_)
      have hX6307 := hX6275.trans (bI_s hF6304)
      refine p_istore 382 r_c218_380 rfl rfl ?_
      refine p_aload 383 r_c218_382 rfl rfl ?_
      refine p_aload 384 r_c218_383 rfl rfl ?_
      refine p_iload 386 r_c218_384 rfl rfl ?_
      refine p_iconst 387 r_c218_386 rfl ?_
      refine p_iadd 388 r_c218_387 rfl ?_
      refine p_script 389 r_c218_388 rfl hL (rg_wr _) (fun hx6310 => ?_)
      refine p_top (xs (wr (x4 + 1)).toNat).toInt rfl ?_
      refine p_cS 392 [.ref 376, yI ((xs (wr (x4 + 1)).toNat).toInt)] [] r_c218_389 rfl rfl rfl (fun k' hk' d' => d174 (f := f) (by omega) (rg_to _) hR6309) (fun r6332 m6334 hF6330 hg6331 hR6335 n6312 k6311 hk6311 => ?_)
      have hX6333 := hX6307.trans (bI_s hF6330)
      refine p_istore 394 r_c218_392 rfl rfl ?_
      refine p_goto 589 r_c218_394 rfl ?_
      exact tJ218_t0_589 (f := f) (by omega) hL hLr gx4 hR6335 (fun y0 y1 y2 m' n' e' h0 hR' k' hk' => Hn y0 y1 y2 m' n' (hX6333.trans e') h0 hR' k' (by omega)) (fun y0 y1 y2 m' n' e' h0 hR' k' hk' => He y0 y1 y2 m' n' (hX6333.trans e') h0 hR' k' (by omega)) (fun r' m' e' => Hr r' m' (hX6333.trans e'))
    have hX6336 := hX6273.trans (if_neg hk6274)
    by_cases hk6337 : iAnd ((xs (x4).toNat).toInt) 15 = 8
    · have hX6338 := hX6336.trans (if_pos hk6337)
      refine p_top 8 hk6337 ?_
      refine p_tsw 397 r_c218_39 (rgD rfl) (by decide) rfl rfl ?_
      refine p_aload 398 r_c218_397 rfl rfl ?_
      refine p_aload 399 r_c218_398 rfl rfl ?_
      refine p_iload 401 r_c218_399 rfl rfl ?_
      refine p_iconst 402 r_c218_401 rfl ?_
      refine p_iadd 403 r_c218_402 rfl ?_
      refine p_script 404 r_c218_403 rfl hL (rg_wr _) (fun hx6339 => ?_)
      refine p_top (xs (wr (x4 + 1)).toNat).toInt rfl ?_
      refine p_aload 405 r_c218_404 rfl rfl ?_
      refine p_cS 408 [.ref 0, yI ((xs (wr (x4 + 1)).toNat).toInt), .ref 413] [] r_c218_405 rfl rfl rfl (fun k' hk' d' => d177 (f := f) (by omega) (rg_to _) hR) (fun r6415 m6417 hF6413 hg6414 hR6418 n6341 k6340 hk6340 => ?_)
      have hX6416 := hX6338.trans (bI_s hF6413)
      refine p_istore 410 r_c218_408 rfl rfl ?_
      refine p_aload 411 r_c218_410 rfl rfl ?_
      refine p_aload 412 r_c218_411 rfl rfl ?_
      refine p_iload 414 r_c218_412 rfl rfl ?_
      refine p_iconst 415 r_c218_414 rfl ?_
      refine p_iadd 416 r_c218_415 rfl ?_
      refine p_script 417 r_c218_416 rfl hL (rg_wr _) (fun hx6419 => ?_)
      refine p_top (xs (wr (x4 + 1)).toNat).toInt rfl ?_
      refine p_cS 420 [.ref 376, yI ((xs (wr (x4 + 1)).toNat).toInt)] [] r_c218_417 rfl rfl rfl (fun k' hk' d' => d178 (f := f) (by omega) (rg_to _) hR6418) (fun r6477 m6479 hF6475 hg6476 hR6480 n6421 k6420 hk6420 => ?_)
      have hX6478 := hX6416.trans (bI_s hF6475)
      refine p_istore 422 r_c218_420 rfl rfl ?_
      refine p_goto 589 r_c218_422 rfl ?_
      exact tJ218_t0_589 (f := f) (by omega) hL hLr gx4 hR6480 (fun y0 y1 y2 m' n' e' h0 hR' k' hk' => Hn y0 y1 y2 m' n' (hX6478.trans e') h0 hR' k' (by omega)) (fun y0 y1 y2 m' n' e' h0 hR' k' hk' => He y0 y1 y2 m' n' (hX6478.trans e') h0 hR' k' (by omega)) (fun r' m' e' => Hr r' m' (hX6478.trans e'))
    have hX6481 := hX6336.trans (if_neg hk6337)
    by_cases hk6482 : iAnd ((xs (x4).toNat).toInt) 15 = 9
    · have hX6483 := hX6481.trans (if_pos hk6482)
      refine p_top 9 hk6482 ?_
      refine p_tsw 425 r_c218_39 (rgD rfl) (by decide) rfl rfl ?_
      refine p_aload 426 r_c218_425 rfl rfl ?_
      refine p_aload 427 r_c218_426 rfl rfl ?_
      refine p_iload 429 r_c218_427 rfl rfl ?_
      refine p_iconst 430 r_c218_429 rfl ?_
      refine p_iadd 431 r_c218_430 rfl ?_
      refine p_script 432 r_c218_431 rfl hL (rg_wr _) (fun hx6484 => ?_)
      refine p_top (xs (wr (x4 + 1)).toNat).toInt rfl ?_
      refine p_aload 433 r_c218_432 rfl rfl ?_
      refine p_iload 435 r_c218_433 rfl rfl ?_
      refine p_iconst 436 r_c218_435 rfl ?_
      refine p_iadd 437 r_c218_436 rfl ?_
      refine p_script 438 r_c218_437 rfl hL (rg_wr _) (fun hx6485 => ?_)
      refine p_top (xs (wr (x4 + 2)).toNat).toInt rfl ?_
      refine p_aload 439 r_c218_438 rfl rfl ?_
      refine p_cS 442 [.ref 0, yI ((xs (wr (x4 + 1)).toNat).toInt), yI ((xs (wr (x4 + 2)).toNat).toInt), .ref 413] [] r_c218_439 rfl rfl rfl (fun k' hk' d' => d181 (f := f) (by omega) (rg_to _) (rg_to _) hR) (fun r6562 m6564 hF6560 hg6561 hR6565 n6487 k6486 hk6486 => ?_)
      have hX6563 := hX6483.trans (bI_s hF6560)
      refine p_istore 444 r_c218_442 rfl rfl ?_
      refine p_aload 445 r_c218_444 rfl rfl ?_
      refine p_aload 446 r_c218_445 rfl rfl ?_
      refine p_iload 448 r_c218_446 rfl rfl ?_
      refine p_iconst 449 r_c218_448 rfl ?_
      refine p_iadd 450 r_c218_449 rfl ?_
      refine p_script 451 r_c218_450 rfl hL (rg_wr _) (fun hx6566 => ?_)
      refine p_top (xs (wr (x4 + 1)).toNat).toInt rfl ?_
      refine p_aload 452 r_c218_451 rfl rfl ?_
      refine p_iload 454 r_c218_452 rfl rfl ?_
      refine p_iconst 455 r_c218_454 rfl ?_
      refine p_iadd 456 r_c218_455 rfl ?_
      refine p_script 457 r_c218_456 rfl hL (rg_wr _) (fun hx6567 => ?_)
      refine p_top (xs (wr (x4 + 2)).toNat).toInt rfl ?_
      refine p_cS 460 [.ref 376, yI ((xs (wr (x4 + 1)).toNat).toInt), yI ((xs (wr (x4 + 2)).toNat).toInt)] [] r_c218_457 rfl rfl rfl (fun k' hk' d' => d182 (f := f) (by omega) (rg_to _) (rg_to _) hR6565) (fun r6629 m6631 hF6627 hg6628 hR6632 n6569 k6568 hk6568 => ?_)
      have hX6630 := hX6563.trans (bI_s hF6627)
      refine p_istore 462 r_c218_460 rfl rfl ?_
      refine p_goto 589 r_c218_462 rfl ?_
      exact tJ218_t0_589 (f := f) (by omega) hL hLr gx4 hR6632 (fun y0 y1 y2 m' n' e' h0 hR' k' hk' => Hn y0 y1 y2 m' n' (hX6630.trans e') h0 hR' k' (by omega)) (fun y0 y1 y2 m' n' e' h0 hR' k' hk' => He y0 y1 y2 m' n' (hX6630.trans e') h0 hR' k' (by omega)) (fun r' m' e' => Hr r' m' (hX6630.trans e'))
    have hX6633 := hX6481.trans (if_neg hk6482)
    by_cases hk6634 : iAnd ((xs (x4).toNat).toInt) 15 = 10
    · have hX6635 := hX6633.trans (if_pos hk6634)
      refine p_top 10 hk6634 ?_
      refine p_tsw 465 r_c218_39 (rgD rfl) (by decide) rfl rfl ?_
      refine p_aload 466 r_c218_465 rfl rfl ?_
      refine p_aload 467 r_c218_466 rfl rfl ?_
      refine p_iload 469 r_c218_467 rfl rfl ?_
      refine p_iconst 470 r_c218_469 rfl ?_
      refine p_iadd 471 r_c218_470 rfl ?_
      refine p_script 472 r_c218_471 rfl hL (rg_wr _) (fun hx6636 => ?_)
      refine p_top (xs (wr (x4 + 1)).toNat).toInt rfl ?_
      refine p_aload 473 r_c218_472 rfl rfl ?_
      refine p_iload 475 r_c218_473 rfl rfl ?_
      refine p_iconst 476 r_c218_475 rfl ?_
      refine p_iadd 477 r_c218_476 rfl ?_
      refine p_script 478 r_c218_477 rfl hL (rg_wr _) (fun hx6637 => ?_)
      refine p_top (xs (wr (x4 + 2)).toNat).toInt rfl ?_
      refine p_aload 479 r_c218_478 rfl rfl ?_
      refine p_cS 482 [.ref 0, yI ((xs (wr (x4 + 1)).toNat).toInt), yI ((xs (wr (x4 + 2)).toNat).toInt), .ref 413] [] r_c218_479 rfl rfl rfl (fun k' hk' d' => d184 (f := f) (by omega) (rg_to _) (rg_to _) hR) (fun r6694 m6696 hF6692 hg6693 hR6697 n6639 k6638 hk6638 => ?_)
      have hX6695 := hX6635.trans (bI_s hF6692)
      refine p_istore 484 r_c218_482 rfl rfl ?_
      refine p_aload 485 r_c218_484 rfl rfl ?_
      refine p_aload 486 r_c218_485 rfl rfl ?_
      refine p_iload 488 r_c218_486 rfl rfl ?_
      refine p_iconst 489 r_c218_488 rfl ?_
      refine p_iadd 490 r_c218_489 rfl ?_
      refine p_script 491 r_c218_490 rfl hL (rg_wr _) (fun hx6698 => ?_)
      refine p_top (xs (wr (x4 + 1)).toNat).toInt rfl ?_
      refine p_aload 492 r_c218_491 rfl rfl ?_
      refine p_iload 494 r_c218_492 rfl rfl ?_
      refine p_iconst 495 r_c218_494 rfl ?_
      refine p_iadd 496 r_c218_495 rfl ?_
      refine p_script 497 r_c218_496 rfl hL (rg_wr _) (fun hx6699 => ?_)
      refine p_top (xs (wr (x4 + 2)).toNat).toInt rfl ?_
      refine p_cS 500 [.ref 376, yI ((xs (wr (x4 + 1)).toNat).toInt), yI ((xs (wr (x4 + 2)).toNat).toInt)] [] r_c218_497 rfl rfl rfl (fun k' hk' d' => d185 (f := f) (by omega) (rg_to _) (rg_to _) hR6697) (fun r6749 m6751 hF6747 hg6748 hR6752 n6701 k6700 hk6700 => ?_)
      have hX6750 := hX6695.trans (bI_s hF6747)
      refine p_istore 502 r_c218_500 rfl rfl ?_
      refine p_goto 589 r_c218_502 rfl ?_
      exact tJ218_t0_589 (f := f) (by omega) hL hLr gx4 hR6752 (fun y0 y1 y2 m' n' e' h0 hR' k' hk' => Hn y0 y1 y2 m' n' (hX6750.trans e') h0 hR' k' (by omega)) (fun y0 y1 y2 m' n' e' h0 hR' k' hk' => He y0 y1 y2 m' n' (hX6750.trans e') h0 hR' k' (by omega)) (fun r' m' e' => Hr r' m' (hX6750.trans e'))
    have hX6753 := hX6633.trans (if_neg hk6634)
    by_cases hk6754 : iAnd ((xs (x4).toNat).toInt) 15 = 11
    · have hX6755 := hX6753.trans (if_pos hk6754)
      refine p_top 11 hk6754 ?_
      refine p_tsw 505 r_c218_39 (rgD rfl) (by decide) rfl rfl ?_
      refine p_aload 506 r_c218_505 rfl rfl ?_
      refine p_aload 507 r_c218_506 rfl rfl ?_
      refine p_cSe 510 [.ref 0, .ref 413] [] r_c218_507 rfl rfl rfl (fun k' hk' d' => d200 (f := f) (by omega) hR) (fun r7397 m7399 c7401 hF7395 hg7396 hR7400 n6757 k6756 hk6756 => ?_)
      have hX7398 := hX6755.trans (bI_s hF7395)
      refine p_istore 512 r_c218_510 rfl rfl ?_
      refine p_aload 513 r_c218_512 rfl rfl ?_
      refine p_cS 516 [.ref 376] [] r_c218_513 rfl rfl rfl (fun k' hk' d' => d211 (f := f) (by omega) hR7400) (fun r8021 m8023 hF8019 hg8020 hR8024 n7403 k7402 hk7402 => ?_)
      have hX8022 := hX7398.trans (bI_s hF8019)
      refine p_istore 518 r_c218_516 rfl rfl ?_
      refine p_goto 589 r_c218_518 rfl ?_
      exact tJ218_t0_589 (f := f) (by omega) hL hLr gx4 hR8024 (fun y0 y1 y2 m' n' e' h0 hR' k' hk' => Hn y0 y1 y2 m' n' (hX8022.trans e') h0 hR' k' (by omega)) (fun y0 y1 y2 m' n' e' h0 hR' k' hk' => He y0 y1 y2 m' n' (hX8022.trans e') h0 hR' k' (by omega)) (fun r' m' e' => Hr r' m' (hX8022.trans e'))
    have hX8025 := hX6753.trans (if_neg hk6754)
    by_cases hk8026 : iAnd ((xs (x4).toNat).toInt) 15 = 12
    · have hX8027 := hX8025.trans (if_pos hk8026)
      refine p_top 12 hk8026 ?_
      refine p_tsw 521 r_c218_39 (rgD rfl) (by decide) rfl rfl ?_
      refine p_aload 522 r_c218_521 rfl rfl ?_
      refine p_aload 523 r_c218_522 rfl rfl ?_
      refine p_iload 525 r_c218_523 rfl rfl ?_
      refine p_iconst 526 r_c218_525 rfl ?_
      refine p_iadd 527 r_c218_526 rfl ?_
      refine p_script 528 r_c218_527 rfl hL (rg_wr _) (fun hx8028 => ?_)
      refine p_top (xs (wr (x4 + 1)).toNat).toInt rfl ?_
      refine p_aload 529 r_c218_528 rfl rfl ?_
      refine p_iload 531 r_c218_529 rfl rfl ?_
      refine p_iconst 532 r_c218_531 rfl ?_
      refine p_iadd 533 r_c218_532 rfl ?_
      refine p_script 534 r_c218_533 rfl hL (rg_wr _) (fun hx8029 => ?_)
      refine p_top (xs (wr (x4 + 2)).toNat).toInt rfl ?_
      refine p_aload 535 r_c218_534 rfl rfl ?_
      refine p_cS 538 [.ref 0, yI ((xs (wr (x4 + 1)).toNat).toInt), yI ((xs (wr (x4 + 2)).toNat).toInt), .ref 413] [] r_c218_535 rfl rfl rfl (fun k' hk' d' => d213 (f := f) (by omega) (rg_to _) (rg_to _) hR) (fun r8069 m8071 hF8067 hg8068 hR8072 n8031 k8030 hk8030 => ?_)
      have hX8070 := hX8027.trans (bI_s hF8067)
      refine p_istore 540 r_c218_538 rfl rfl ?_
      refine p_aload 541 r_c218_540 rfl rfl ?_
      refine p_aload 542 r_c218_541 rfl rfl ?_
      refine p_iload 544 r_c218_542 rfl rfl ?_
      refine p_iconst 545 r_c218_544 rfl ?_
      refine p_iadd 546 r_c218_545 rfl ?_
      refine p_script 547 r_c218_546 rfl hL (rg_wr _) (fun hx8073 => ?_)
      refine p_top (xs (wr (x4 + 1)).toNat).toInt rfl ?_
      refine p_aload 548 r_c218_547 rfl rfl ?_
      refine p_iload 550 r_c218_548 rfl rfl ?_
      refine p_iconst 551 r_c218_550 rfl ?_
      refine p_iadd 552 r_c218_551 rfl ?_
      refine p_script 553 r_c218_552 rfl hL (rg_wr _) (fun hx8074 => ?_)
      refine p_top (xs (wr (x4 + 2)).toNat).toInt rfl ?_
      refine p_cS 556 [.ref 376, yI ((xs (wr (x4 + 1)).toNat).toInt), yI ((xs (wr (x4 + 2)).toNat).toInt)] [] r_c218_553 rfl rfl rfl (fun k' hk' d' => d214 (f := f) (by omega) (rg_to _) (rg_to _) hR8072) (fun r8114 m8116 hF8112 hg8113 hR8117 n8076 k8075 hk8075 => ?_)
      have hX8115 := hX8070.trans (bI_s hF8112)
      refine p_istore 558 r_c218_556 rfl rfl ?_
      refine p_goto 589 r_c218_558 rfl ?_
      exact tJ218_t0_589 (f := f) (by omega) hL hLr gx4 hR8117 (fun y0 y1 y2 m' n' e' h0 hR' k' hk' => Hn y0 y1 y2 m' n' (hX8115.trans e') h0 hR' k' (by omega)) (fun y0 y1 y2 m' n' e' h0 hR' k' hk' => He y0 y1 y2 m' n' (hX8115.trans e') h0 hR' k' (by omega)) (fun r' m' e' => Hr r' m' (hX8115.trans e'))
    have hX8118 := hX8025.trans (if_neg hk8026)
    by_cases hk8119 : iAnd ((xs (x4).toNat).toInt) 15 = 13
    · have hX8120 := hX8118.trans (if_pos hk8119)
      refine p_top 13 hk8119 ?_
      refine p_tsw 561 r_c218_39 (rgD rfl) (by decide) rfl rfl ?_
      refine p_aload 562 r_c218_561 rfl rfl ?_
      refine p_aload 563 r_c218_562 rfl rfl ?_
      refine p_iload 565 r_c218_563 rfl rfl ?_
      refine p_iconst 566 r_c218_565 rfl ?_
      refine p_iadd 567 r_c218_566 rfl ?_
      refine p_script 568 r_c218_567 rfl hL (rg_wr _) (fun hx8121 => ?_)
      refine p_top (xs (wr (x4 + 1)).toNat).toInt rfl ?_
      refine p_aload 569 r_c218_568 rfl rfl ?_
      refine p_cS 572 [.ref 0, yI ((xs (wr (x4 + 1)).toNat).toInt), .ref 413] [] r_c218_569 rfl rfl rfl (fun k' hk' d' => d216 (f := f) (by omega) (rg_to _) hR) (fun r8172 m8174 hF8170 hg8171 hR8175 n8123 k8122 hk8122 => ?_)
      have hX8173 := hX8120.trans (bI_s hF8170)
      refine p_istore 574 r_c218_572 rfl rfl ?_
      refine p_aload 575 r_c218_574 rfl rfl ?_
      refine p_aload 576 r_c218_575 rfl rfl ?_
      refine p_iload 578 r_c218_576 rfl rfl ?_
      refine p_iconst 579 r_c218_578 rfl ?_
      refine p_iadd 580 r_c218_579 rfl ?_
      refine p_script 581 r_c218_580 rfl hL (rg_wr _) (fun hx8176 => ?_)
      refine p_top (xs (wr (x4 + 1)).toNat).toInt rfl ?_
      refine p_cS 584 [.ref 376, yI ((xs (wr (x4 + 1)).toNat).toInt)] [] r_c218_581 rfl rfl rfl (fun k' hk' d' => d217 (f := f) (by omega) (rg_to _) hR8175) (fun r8254 m8256 hF8252 hg8253 hR8257 n8178 k8177 hk8177 => ?_)
      have hX8255 := hX8173.trans (bI_s hF8252)
      refine p_istore 586 r_c218_584 rfl rfl ?_
      refine p_goto 589 r_c218_586 rfl ?_
      exact tJ218_t0_589 (f := f) (by omega) hL hLr gx4 hR8257 (fun y0 y1 y2 m' n' e' h0 hR' k' hk' => Hn y0 y1 y2 m' n' (hX8255.trans e') h0 hR' k' (by omega)) (fun y0 y1 y2 m' n' e' h0 hR' k' hk' => He y0 y1 y2 m' n' (hX8255.trans e') h0 hR' k' (by omega)) (fun r' m' e' => Hr r' m' (hX8255.trans e'))
    have hX8258 := hX8118.trans (if_neg hk8119)
    refine p_tswd 589 r_c218_39 (rg_to _) (by omega) rfl ?_
    exact tJ218_t0_589 (f := f) (by omega) hL hLr gx4 hR (fun y0 y1 y2 m' n' e' h0 hR' k' hk' => Hn y0 y1 y2 m' n' (hX8258.trans e') h0 hR' k' (by omega)) (fun y0 y1 y2 m' n' e' h0 hR' k' hk' => He y0 y1 y2 m' n' (hX8258.trans e') h0 hR' k' (by omega)) (fun r' m' e' => Hr r' m' (hX8258.trans e'))
def FL (f : Nat) (L : Nat) (xs : Nat → Int32) (x4 : Int) (m : yM) : Option (Int × yM) := (bL (yloop (fun (l : Int) ml => B218_t0_23 f L xs l ml) f x4 m) (fun l8259 m8265 => (some (1, m8265))) (fun r mr => some (r, mr)))
set_option maxRecDepth 100000 in
theorem tFL {L : Nat} {xs : Nat → Int32} {Q : xO → yM → Nat → Prop} {k d n : Nat} {c : yS3} {f : Nat} {x4 : Int} {m : yM} {j5 j6 : Option Value} (hk : k ≤ f) (hL : zLn (gZ L xs) ≤ 100000) (hLr : rg (L : Int)) (gx4 : rg x4) (hR : RM c m) (Hr : ∀ r m', FL f L xs x4 m = some (r, m') → rg r → (∃ c, RM c m') → ∀ n', Q (.inl (some (yI r))) m' n') : PW (gZ L xs) k 218 d 23 [some (.retAddr 0), some (.ref 0), some (.ref 376), some (.ref 413), some (yI x4), j5, j6] [] m n Q := by
  have hX : FL f L xs x4 m = FL f L xs x4 m := rfl
  refine PW.loop (K := k) (pce := 595) (fun (l : Int) ml => B218_t0_23 f L xs l ml) (fun (l : Int) j => [some (.retAddr 0), some (.ref 0), some (.ref 376), some (.ref 413), some (yI l), j 5, j 6]) (fun (l : Int) => rg l) (fun m' => ∃ c, RM c m') (fun r' m' => rg r' → (∃ c, RM c m') → ∀ n' : Nat, Q (.inl (some (yI r'))) m' n') (fun k' hk' l j m' n' hl hI Hn' He' Hr' => tB218_t0_23 (f := f) (by omega) hL hLr hl (hI.choose_spec) (fun y0 y1 y2 m2 n2 e h0 hR2 => Hn' y0 (fun q => ([none, none, none, none, none, y1, y2] : List (Option Value)).getD q none) m2 n2 e h0 hR2) (fun y0 y1 y2 m2 n2 e h0 hR2 => He' y0 (fun q => ([none, none, none, none, none, y1, y2] : List (Option Value)).getD q none) m2 n2 e h0 hR2) Hr') f k (by omega) (Nat.le_refl _) x4 (fun q => ([some (.retAddr 0), some (.ref 0), some (.ref 376), some (.ref 413), some (yI x4), j5, j6] : xL).getD q none) _ _ gx4 ⟨_, hR⟩ (fun l8259 j8262 m8265 n8264 e8261 hl8260 hR8266 k8263 hk8263 => ?_) (fun r' m' e' => ?_)
  · have hX8267 := hX.trans (bL_l e8261)
    obtain ⟨c8268, hR8269⟩ := hR8266
    refine p_iconst 596 r_c218_595 rfl ?_
    exact p_ireturn r_c218_596 (Hr _ _ hX8267 (rgD rfl) ⟨_, hR8269⟩ _)
  · exact Hr r' m' (hX.trans (bL_r e'))
