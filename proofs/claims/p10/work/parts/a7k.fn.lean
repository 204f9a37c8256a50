/-! FUNCTIONS OF THE METHODS: printed by wip/fn/dc.py -/
def J182_75 (f : Nat) (x1 : Int) (x2 : Int) (x3 : Int) (m : yM) : Option ((Int × yM) ⊕ ((Int × yM) ⊕ (Int × yM))) := (some (.inl ((wr (x3 + 1)), m)))
set_option maxRecDepth 100000 in
theorem tJ182_75 {L : Nat} {xs : Nat → Int32} {Q : xO → yM → Nat → Prop} {k d n : Nat} {c : yS3} {f : Nat} {x1 : Int} {x2 : Int} {x3 : Int} {m : yM} (hk : k ≤ f) (gx1 : rg x1) (gx2 : rg x2) (gx3 : rg x3) (hR : RM c m) (Hn : ∀ (y0 : Int) (m' : yM) (n' : Nat), J182_75 f x1 x2 x3 m = some (.inl (y0, m')) → rg y0 → RM c m' → ∀ k', k' < k → PW (gZ L xs) k' 182 d 32 [some (.ref 376), some (yI x1), some (yI x2), some (yI y0)] [] m' n' Q) (He : ∀ (y0 : Int) (m' : yM) (n' : Nat), J182_75 f x1 x2 x3 m = some (.inr (.inl (y0, m'))) → rg y0 → RM c m' → ∀ k', k' ≤ k → PW (gZ L xs) k' 182 d 81 [some (.ref 376), some (yI x1), some (yI x2), some (yI y0)] [] m' n' Q) (Hr : ∀ r m', J182_75 f x1 x2 x3 m = some (.inr (.inr (r, m'))) → rg r → RM c m' → ∀ n', Q (.inl (some (yI r))) m' n') : PW (gZ L xs) k 182 d 75 [some (.ref 376), some (yI x1), some (yI x2), some (yI x3)] [] m n Q := by
  have hX : J182_75 f x1 x2 x3 m = J182_75 f x1 x2 x3 m := rfl
  refine p_iinc 78 c182_75 rfl rfl rfl ?_
  refine p_gotoD 32 c182_78 rfl (fun k6614 hk6614 => ?_)
  exact Hn _ _ _ hX (rg_wr _) hR _ (by omega)
def B182_32 (f : Nat) (x1 : Int) (x2 : Int) (x3 : Int) (m : yM) : Option ((Int × yM) ⊕ ((Int × yM) ⊕ (Int × yM))) := (if x3 < m 388 (m 376 18).toNat then (if m 404 (wr ((wr (12 * x1)) + x3)).toNat < 0 then (J182_75 f x1 x2 x3 m) else (if m 404 (wr ((wr (12 * x2)) + x3)).toNat < 0 then (J182_75 f x1 x2 x3 m) else (some (.inr (.inr (1, m)))))) else (some (.inr (.inl (x3, m)))))
set_option maxRecDepth 100000 in
theorem tB182_32 {L : Nat} {xs : Nat → Int32} {Q : xO → yM → Nat → Prop} {k d n : Nat} {c : yS3} {f : Nat} {x1 : Int} {x2 : Int} {x3 : Int} {m : yM} (hk : k ≤ f) (gx1 : rg x1) (gx2 : rg x2) (gx3 : rg x3) (hR : RM c m) (Hn : ∀ (y0 : Int) (m' : yM) (n' : Nat), B182_32 f x1 x2 x3 m = some (.inl (y0, m')) → rg y0 → RM c m' → ∀ k', k' < k → PW (gZ L xs) k' 182 d 32 [some (.ref 376), some (yI x1), some (yI x2), some (yI y0)] [] m' n' Q) (He : ∀ (y0 : Int) (m' : yM) (n' : Nat), B182_32 f x1 x2 x3 m = some (.inr (.inl (y0, m'))) → rg y0 → RM c m' → ∀ k', k' ≤ k → PW (gZ L xs) k' 182 d 81 [some (.ref 376), some (yI x1), some (yI x2), some (yI y0)] [] m' n' Q) (Hr : ∀ r m', B182_32 f x1 x2 x3 m = some (.inr (.inr (r, m'))) → rg r → RM c m' → ∀ n', Q (.inl (some (yI r))) m' n') : PW (gZ L xs) k 182 d 32 [some (.ref 376), some (yI x1), some (yI x2), some (yI x3)] [] m n Q := by
  have hX : B182_32 f x1 x2 x3 m = B182_32 f x1 x2 x3 m := rfl
  refine p_iload 33 c182_32 rfl rfl ?_
  refine p_aload 34 c182_33 rfl rfl ?_
  refine p_getR 37 c182_34 rfl kf376_25 ?_
  refine p_aload 38 c182_37 rfl rfl ?_
  refine p_getX 41 (m 376 18) c182_38 rfl kf376_18 rfl ?_
  refine p_iaX 42 (m 388 (m 376 18).toNat) c182_41 rfl ka388 (hR.rg _ _) rfl (fun hx6603 => ?_)
  refine p_icmp 81 45 c182_42 rfl rfl ((yc_ge gx3 (hR.rg _ _)).trans Int.not_lt.symm) (fun hb6604 k6605 hk6605 => ?_) (fun hb6604 k6606 hk6606 => ?_)
  · have hX6607 := hX.trans (if_neg hb6604)
    exact He _ _ _ hX6607 gx3 hR _ (by omega)
  · have hX6608 := hX.trans (if_pos (Classical.not_not.mp hb6604))
    refine p_aload 46 c182_45 rfl rfl ?_
    refine p_getR 49 c182_46 rfl kf376_41 ?_
    refine p_iconst 51 c182_49 rfl ?_
    refine p_iload 52 c182_51 rfl rfl ?_
    refine p_imul 53 c182_52 rfl ?_
    refine p_iload 54 c182_53 rfl rfl ?_
    refine p_iadd 55 c182_54 rfl ?_
    refine p_iaX 56 (m 404 (wr ((wr (12 * x1)) + x3)).toNat) c182_55 rfl ka404 (rg_wr _) rfl (fun hx6609 => ?_)
    refine p_if 75 59 c182_56 rfl rfl (yz_lt (hR.rg _ _)) (fun hb6610 k6611 hk6611 => ?_) (fun hb6610 k6612 hk6612 => ?_)
    · have hX6613 := hX6608.trans (if_pos hb6610)
      exact tJ182_75 (f := f) (by omega) gx1 gx2 gx3 hR (fun y0 m' n' e' h0 hR' k' hk' => Hn y0 m' n' (hX6613.trans e') h0 hR' k' (by omega)) (fun y0 m' n' e' h0 hR' k' hk' => He y0 m' n' (hX6613.trans e') h0 hR' k' (by omega)) (fun r' m' e' => Hr r' m' (hX6613.trans e'))
    · have hX6615 := hX6608.trans (if_neg hb6610)
      refine p_aload 60 c182_59 rfl rfl ?_
      refine p_getR 63 c182_60 rfl kf376_41 ?_
      refine p_iconst 65 c182_63 rfl ?_
      refine p_iload 66 c182_65 rfl rfl ?_
      refine p_imul 67 c182_66 rfl ?_
      refine p_iload 68 c182_67 rfl rfl ?_
      refine p_iadd 69 c182_68 rfl ?_
      refine p_iaX 70 (m 404 (wr ((wr (12 * x2)) + x3)).toNat) c182_69 rfl ka404 (rg_wr _) rfl (fun hx6616 => ?_)
      refine p_if 75 73 c182_70 rfl rfl (yz_lt (hR.rg _ _)) (fun hb6617 k6618 hk6618 => ?_) (fun hb6617 k6619 hk6619 => ?_)
      · have hX6620 := hX6615.trans (if_pos hb6617)
        exact tJ182_75 (f := f) (by omega) gx1 gx2 gx3 hR (fun y0 m' n' e' h0 hR' k' hk' => Hn y0 m' n' (hX6620.trans e') h0 hR' k' (by omega)) (fun y0 m' n' e' h0 hR' k' hk' => He y0 m' n' (hX6620.trans e') h0 hR' k' (by omega)) (fun r' m' e' => Hr r' m' (hX6620.trans e'))
      · have hX6621 := hX6615.trans (if_neg hb6617)
        refine p_iconst 74 c182_73 rfl ?_
        exact p_ireturn c182_74 (Hr _ _ hX6621 (rgD rfl) hR _)
def J182_22 (f : Nat) (x1 : Int) (x2 : Int) (xs1 : Int) (m : yM) : Option (Int × yM) := (bI (F162 f xs1 m) (fun r6595 m6597 => (if r6595 = 0 then (some (0, m6597)) else (bL (yloop (fun (l : Int) ml => B182_32 f x1 x2 l ml) f 0 m6597) (fun l6622 m6628 => (some (0, m6628))) (fun r mr => some (r, mr))))))
set_option maxRecDepth 100000 in
theorem tJ182_22 {L : Nat} {xs : Nat → Int32} {Q : xO → yM → Nat → Prop} {k d n : Nat} {c : yS3} {f : Nat} {x1 : Int} {x2 : Int} {xs1 : Int} {m : yM} {j3 : Option Value} (hk : k ≤ f) (gx1 : rg x1) (gx2 : rg x2) (gxs1 : rg xs1) (hR : RM c m) (Hr : ∀ r m', J182_22 f x1 x2 xs1 m = some (r, m') → rg r → RM c m' → ∀ n', Q (.inl (some (yI r))) m' n') : PW (gZ L xs) k 182 d 22 [some (.ref 376), some (yI x1), some (yI x2), j3] [yI xs1, .ref 376] m n Q := by
  have hX : J182_22 f x1 x2 xs1 m = J182_22 f x1 x2 xs1 m := rfl
  refine p_cS 25 [.ref 376, yI xs1] [] c182_22 rfl rfl rfl (fun k' hk' d' => d162 (f := f) (by omega) gxs1 hR) (fun r6595 m6597 hF6593 hg6594 hR6598 n6592 k6591 hk6591 => ?_)
  have hX6596 := hX.trans (bI_s hF6593)
  refine p_if 30 28 c182_25 rfl rfl (yz_ne hg6594) (fun hb6599 k6600 hk6600 => ?_) (fun hb6599 k6601 hk6601 => ?_)
  · have hX6602 := hX6596.trans (if_neg hb6599)
    refine p_iconst 31 c182_30 rfl ?_
    refine p_istore 32 c182_31 rfl rfl ?_
    refine PW.loop (K := k6600) (pce := 81) (fun (l : Int) ml => B182_32 f x1 x2 l ml) (fun (l : Int) j => [some (.ref 376), some (yI x1), some (yI x2), some (yI l)]) (fun (l : Int) => rg l) (RM c) (fun r' m' => rg r' → RM c m' → ∀ n' : Nat, Q (.inl (some (yI r'))) m' n') (fun k' hk' l j m' n' hl hI Hn' He' Hr' => tB182_32 (f := f) (by omega) gx1 gx2 hl hI (fun y0 m2 n2 e h0 hR2 => Hn' y0 (fun q => ([none, none, none, none] : List (Option Value)).getD q none) m2 n2 e h0 hR2) (fun y0 m2 n2 e h0 hR2 => He' y0 (fun q => ([none, none, none, none] : List (Option Value)).getD q none) m2 n2 e h0 hR2) Hr') f k6600 (by omega) (Nat.le_refl _) 0 (fun q => ([some (.ref 376), some (yI x1), some (yI x2), some (yI 0)] : xL).getD q none) _ _ (rgD rfl) hR6598 (fun l6622 j6625 m6628 n6627 e6624 hl6623 hR6629 k6626 hk6626 => ?_) (fun r' m' e' => ?_)
    · have hX6630 := hX6602.trans (bL_l e6624)
      refine p_iconst 82 c182_81 rfl ?_
      exact p_ireturn c182_82 (Hr _ _ hX6630 (rgD rfl) hR6629 _)
    · exact Hr r' m' (hX6602.trans (bL_r e'))
  · have hX6631 := hX6596.trans (if_pos (Classical.not_not.mp hb6599))
    refine p_iconst 29 c182_28 rfl ?_
    exact p_ireturn c182_29 (Hr _ _ hX6631 (rgD rfl) hR6598 _)
def J182_21 (f : Nat) (x1 : Int) (x2 : Int) (m : yM) : Option (Int × yM) := (J182_22 f x1 x2 0 m)
set_option maxRecDepth 100000 in
theorem tJ182_21 {L : Nat} {xs : Nat → Int32} {Q : xO → yM → Nat → Prop} {k d n : Nat} {c : yS3} {f : Nat} {x1 : Int} {x2 : Int} {m : yM} {j3 : Option Value} (hk : k ≤ f) (gx1 : rg x1) (gx2 : rg x2) (hR : RM c m) (Hr : ∀ r m', J182_21 f x1 x2 m = some (r, m') → rg r → RM c m' → ∀ n', Q (.inl (some (yI r))) m' n') : PW (gZ L xs) k 182 d 21 [some (.ref 376), some (yI x1), some (yI x2), j3] [.ref 376] m n Q := by
  have hX : J182_21 f x1 x2 m = J182_21 f x1 x2 m := rfl
  refine p_iconst 22 c182_21 rfl ?_
  exact tJ182_22 (f := f) (by omega) gx1 gx2 (rgD rfl) hR (fun r' m' e' => Hr r' m' (hX.trans e'))
def F182 (f : Nat) (x1 : Int) (x2 : Int) (m : yM) : Option (Int × yM) := (if F160 x1 m = 0 then (J182_21 f x1 x2 m) else (if F160 x2 m = 0 then (J182_21 f x1 x2 m) else (J182_22 f x1 x2 1 m)))
set_option maxRecDepth 100000 in
theorem d182 {L : Nat} {xs : Nat → Int32} {k d n : Nat} {c : yS3} {f : Nat} {x1 : Int} {x2 : Int} {m : yM} (hk : k ≤ f) (gx1 : rg x1) (gx2 : rg x2) (hR : RM c m) : PC (gZ L xs) k d 182 [.ref 376, yI x1, yI x2] m n (qS c (F182 f x1 x2 m)) := by
  have hX : F182 f x1 x2 m = F182 f x1 x2 m := rfl
  have Hr : ∀ r m', F182 f x1 x2 m = some (r, m') → rg r → RM c m' → ∀ n' : Nat, (qS c (F182 f x1 x2 m)) (.inl (some (yI r))) m' n' := fun r m' e h1 h2 n' => ⟨r, rfl, h1, h2, e⟩
  refine PC.mk [some (.ref 376), some (yI x1), some (yI x2), none] kn182 rfl ?_
  refine p_aload 1 c182_0 rfl rfl ?_
  refine p_aload 2 c182_1 rfl rfl ?_
  refine p_iload 3 c182_2 rfl rfl ?_
  refine p_cX 6 [.ref 376, yI x1] [.ref 376] c182_3 rfl rfl rfl (fun k' hk' d' => d160 gx1 hR) (fun hg6586 n6585 k6584 hk6584 => ?_)
  refine p_if 21 9 c182_6 rfl rfl (yz_eq hg6586) (fun hb6587 k6588 hk6588 => ?_) (fun hb6587 k6589 hk6589 => ?_)
  · have hX6590 := hX.trans (if_pos hb6587)
    exact tJ182_21 (f := f) (by omega) gx1 gx2 hR (fun r' m' e' => Hr r' m' (hX6590.trans e'))
  · have hX6632 := hX.trans (if_neg hb6587)
    refine p_aload 10 c182_9 rfl rfl ?_
    refine p_iload 11 c182_10 rfl rfl ?_
    refine p_cX 14 [.ref 376, yI x2] [.ref 376] c182_11 rfl rfl rfl (fun k' hk' d' => d160 gx2 hR) (fun hg6635 n6634 k6633 hk6633 => ?_)
    refine p_if 21 17 c182_14 rfl rfl (yz_eq hg6635) (fun hb6636 k6637 hk6637 => ?_) (fun hb6636 k6638 hk6638 => ?_)
    · have hX6639 := hX6632.trans (if_pos hb6636)
      exact tJ182_21 (f := f) (by omega) gx1 gx2 hR (fun r' m' e' => Hr r' m' (hX6639.trans e'))
    · have hX6640 := hX6632.trans (if_neg hb6636)
      refine p_iconst 18 c182_17 rfl ?_
      refine p_goto 22 c182_18 rfl ?_
      exact tJ182_22 (f := f) (by omega) gx1 gx2 (rgD rfl) hR (fun r' m' e' => Hr r' m' (hX6640.trans e'))
def F183 (f : Nat) (x1 : Int) (x2 : Int) (m : yM) : Option ((Int ⊕ Nat) × yM) := (if F167 x1 m = 0 then (some (.inr 11, m)) else (if 0 ≤ x1 ∧ x1 < ((10 : Nat) : Int) then (if x2 = 0 then (some (.inl (m ((pA (m 0 4)) + 10 + (x1).toNat) 2), m)) else (if x2 = 1 then (some (.inl (F57 ((pA (m 0 4)) + 10 + (x1).toNat) m), m)) else (if x2 = 2 then (some (.inl (F87 ((pA (m 0 4)) + 10 + (x1).toNat) 0 m), m)) else (if x2 = 3 then (some (.inl (F87 ((pA (m 0 4)) + 10 + (x1).toNat) 1 m), m)) else (if x2 = 4 then (some (.inl (m ((pA (m 0 4)) + 10 + (x1).toNat) 1), m)) else (some (.inr 9, m))))))) else none))
set_option maxRecDepth 100000 in
theorem d183 {L : Nat} {xs : Nat → Int32} {k d n : Nat} {c : yS3} {f : Nat} {x1 : Int} {x2 : Int} {m : yM} (hk : k ≤ f) (gx1 : rg x1) (gx2 : rg x2) (hR : RM c m) : PC (gZ L xs) k d 183 [.ref 0, yI x1, yI x2] m n (qEI (fun e => e = 9 ∨ e = 11) c (F183 f x1 x2 m)) := by
  have hX : F183 f x1 x2 m = F183 f x1 x2 m := rfl
  have Hr : ∀ r m', F183 f x1 x2 m = some (.inl r, m') → rg r → RM c m' → ∀ n' : Nat, (qEI (fun e => e = 9 ∨ e = 11) c (F183 f x1 x2 m)) (.inl (some (yI r))) m' n' := fun r m' e h1 h2 n' => Or.inl ⟨r, rfl, h1, h2, e⟩
  have Ht : ∀ e m', F183 f x1 x2 m = some (.inr e, m') → (fun e => e = 9 ∨ e = 11) e → RM c m' → ∀ x n' : Nat, (qEI (fun e => e = 9 ∨ e = 11) c (F183 f x1 x2 m)) (.inr (e, x)) m' n' := fun e m' e1 h1 h2 x n' => Or.inr ⟨e, x, rfl, h1, h2, e1⟩
  refine PC.mk [some (.ref 0), some (yI x1), some (yI x2), none] kn183 rfl ?_
  refine p_aload 1 c183_0 rfl rfl ?_
  refine p_iload 2 c183_1 rfl rfl ?_
  refine p_cX 5 [.ref 0, yI x1] [] c183_2 rfl rfl rfl (fun k' hk' d' => d167 gx1 hR) (fun hg6658 n6657 k6656 hk6656 => ?_)
  refine p_if 16 8 c183_5 rfl rfl (yz_ne hg6658) (fun hb6659 k6660 hk6660 => ?_) (fun hb6659 k6661 hk6661 => ?_)
  · have hX6662 := hX.trans (if_neg hb6659)
    refine p_aload 17 c183_16 rfl rfl ?_
    refine p_getV 20 (.ref (pA (m 0 4))) c183_17 rfl kf0_4 (pA_sv2 hR.2.1 rfl) ?_
    refine p_getR 23 c183_20 rfl (kP_5 (pA_is _)) ?_
    refine p_iload 24 c183_23 rfl rfl ?_
    refine p_aaX 25 c183_24 rfl (kPr_6 (pA_is _)) gx1 (fun hx6663 => ?_)
    have hX6664 := hX6662.trans (if_pos hx6663)
    refine p_astore 26 c183_25 rfl rfl ?_
    refine p_iload 27 c183_26 rfl rfl ?_
    by_cases hk6665 : x2 = 0
    · have hX6666 := hX6664.trans (if_pos hk6665)
      refine p_top 0 hk6665 ?_
      refine p_tsw 60 c183_27 (rgD rfl) (by decide) rfl rfl ?_
      refine p_aload 61 c183_60 rfl rfl ?_
      refine p_getX 64 (m ((pA (m 0 4)) + 10 + (x1).toNat) 2) c183_61 rfl (kM_2 (kMr (pA_is _) hx6663)) rfl ?_
      exact p_ireturn c183_64 (Hr _ _ hX6666 (hR.rg _ _) hR _)
    have hX6667 := hX6664.trans (if_neg hk6665)
    by_cases hk6668 : x2 = 1
    · have hX6669 := hX6667.trans (if_pos hk6668)
      refine p_top 1 hk6668 ?_
      refine p_tsw 65 c183_27 (rgD rfl) (by decide) rfl rfl ?_
      refine p_aload 66 c183_65 rfl rfl ?_
      refine p_cX 69 [.ref ((pA (m 0 4)) + 10 + (x1).toNat)] [] c183_66 rfl rfl rfl (fun k' hk' d' => d57 (kMr (pA_is _) hx6663) hR) (fun hg6672 n6671 k6670 hk6670 => ?_)
      exact p_ireturn c183_69 (Hr _ _ hX6669 hg6672 hR _)
    have hX6673 := hX6667.trans (if_neg hk6668)
    by_cases hk6674 : x2 = 2
    · have hX6675 := hX6673.trans (if_pos hk6674)
      refine p_top 2 hk6674 ?_
      refine p_tsw 70 c183_27 (rgD rfl) (by decide) rfl rfl ?_
      refine p_aload 71 c183_70 rfl rfl ?_
      refine p_iconst 72 c183_71 rfl ?_
      refine p_cX 75 [.ref ((pA (m 0 4)) + 10 + (x1).toNat), yI 0] [] c183_72 rfl rfl rfl (fun k' hk' d' => d87 (kMr (pA_is _) hx6663) (rgD rfl) hR) (fun hg6678 n6677 k6676 hk6676 => ?_)
      exact p_ireturn c183_75 (Hr _ _ hX6675 hg6678 hR _)
    have hX6679 := hX6673.trans (if_neg hk6674)
    by_cases hk6680 : x2 = 3
    · have hX6681 := hX6679.trans (if_pos hk6680)
      refine p_top 3 hk6680 ?_
      refine p_tsw 76 c183_27 (rgD rfl) (by decide) rfl rfl ?_
      refine p_aload 77 c183_76 rfl rfl ?_
      refine p_iconst 78 c183_77 rfl ?_
      refine p_cX 81 [.ref ((pA (m 0 4)) + 10 + (x1).toNat), yI 1] [] c183_78 rfl rfl rfl (fun k' hk' d' => d87 (kMr (pA_is _) hx6663) (rgD rfl) hR) (fun hg6684 n6683 k6682 hk6682 => ?_)
      exact p_ireturn c183_81 (Hr _ _ hX6681 hg6684 hR _)
    have hX6685 := hX6679.trans (if_neg hk6680)
    by_cases hk6686 : x2 = 4
    · have hX6687 := hX6685.trans (if_pos hk6686)
      refine p_top 4 hk6686 ?_
      refine p_tsw 82 c183_27 (rgD rfl) (by decide) rfl rfl ?_
      refine p_aload 83 c183_82 rfl rfl ?_
      refine p_getX 86 (m ((pA (m 0 4)) + 10 + (x1).toNat) 1) c183_83 rfl (kM_1 (kMr (pA_is _) hx6663)) rfl ?_
      exact p_ireturn c183_86 (Hr _ _ hX6687 (hR.rg _ _) hR _)
    have hX6688 := hX6685.trans (if_neg hk6686)
    refine p_tswd 87 c183_27 gx2 (by omega) rfl ?_
    exact p_throw c183_87 (fun x n' => Ht _ _ hX6688 (Or.inl rfl) hR x n')
  · have hX6689 := hX.trans (if_pos (Classical.not_not.mp hb6659))
    exact p_throw c183_8 (fun x n' => Ht _ _ hX6689 (Or.inr rfl) hR x n')
def F184 (f : Nat) (x1 : Int) (x2 : Int) (m : yM) : Option (Int × yM) := (bT (F183 f x1 x2 m) (fun r6692 m6694 => (some (0, yup m6694 413 0 ((i2l r6692).toInt)))) (fun e' m6694 => (if e' = 9 then (some (2, m6694)) else (if e' = 11 then (some (1, m6694)) else none))))
set_option maxRecDepth 100000 in
theorem d184 {L : Nat} {xs : Nat → Int32} {k d n : Nat} {c : yS3} {f : Nat} {x1 : Int} {x2 : Int} {m : yM} (hk : k ≤ f) (gx1 : rg x1) (gx2 : rg x2) (hR : RM c m) : PC (gZ L xs) k d 184 [.ref 0, yI x1, yI x2, .ref 413] m n (qS c (F184 f x1 x2 m)) := by
  have hX : F184 f x1 x2 m = F184 f x1 x2 m := rfl
  have Hr : ∀ r m', F184 f x1 x2 m = some (r, m') → rg r → RM c m' → ∀ n' : Nat, (qS c (F184 f x1 x2 m)) (.inl (some (yI r))) m' n' := fun r m' e h1 h2 n' => ⟨r, rfl, h1, h2, e⟩
  refine PC.mk [some (.ref 0), some (yI x1), some (yI x2), some (.ref 413), none] kn184 rfl ?_
  refine p_aload 1 c184_0 rfl rfl ?_
  refine p_iconst 2 c184_1 rfl ?_
  refine p_aload 3 c184_2 rfl rfl ?_
  refine p_iload 4 c184_3 rfl rfl ?_
  refine p_iload 5 c184_4 rfl rfl ?_
  refine p_cTI 8 [.ref 0, yI x1, yI x2] [yI 0, .ref 413] c184_5 rfl rfl rfl (fun k' hk' d' => d183 (f := f) (by omega) gx1 gx2 hR) (fun r6692 m6694 hF6690 hg6691 hR6695 n6655 k6654 hk6654 => ?_) (fun e' q6699 m6694 n' hF6690 hE6697 hR6698 => ?_)
  · have hX6693 := hX.trans (bT_l hF6690)
    refine p_i2l 9 c184_8 rfl ?_
    refine p_laS 10 c184_9 rfl kl413 (rgD rfl) (fun hx6700 => ?_)
    have hR6701 := hR6695.up 413 0 (v := (i2l r6692).toInt) (nselD rfl) (rg_i2l _)
    refine p_goto 21 c184_10 rfl ?_
    refine p_iconst 22 c184_21 rfl ?_
    exact p_ireturn c184_22 (Hr _ _ hX6693 (rgD rfl) hR6701 _)
  · have hXe := hX.trans (bT_r hF6690)
    rcases hE6697 with rfl | rfl
    · have hX6702 := hXe.trans (if_pos rfl)
      refine ⟨fun pq hpq k6703 hk6703 => ?_, fun hno => absurd (r_kh184_5_9.symm.trans hno) (by simp)⟩
      have hpp : pq = 17 := by have := r_kh184_5_9.symm.trans hpq; simpa using this.symm
      subst hpp
      refine p_astore 19 c184_17 rfl rfl ?_
      refine p_iconst 20 c184_19 rfl ?_
      exact p_ireturn c184_20 (Hr _ _ hX6702 (rgD rfl) hR6698 _)
    · have hX6704 := (hXe.trans (if_neg (by decide))).trans (if_pos rfl)
      refine ⟨fun pq hpq k6705 hk6705 => ?_, fun hno => absurd (r_kh184_5_11.symm.trans hno) (by simp)⟩
      have hpp : pq = 13 := by have := r_kh184_5_11.symm.trans hpq; simpa using this.symm
      subst hpp
      refine p_astore 15 c184_13 rfl rfl ?_
      refine p_iconst 16 c184_15 rfl ?_
      exact p_ireturn c184_16 (Hr _ _ hX6704 (rgD rfl) hR6698 _)
def F185 (f : Nat) (x1 : Int) (x2 : Int) (m : yM) : Option (Int × yM) := (bI (F162 f (F170 x1 m) m) (fun r6723 m6725 => (if r6723 = 0 then (some (0, m6725)) else (bI (F23 f (F22 x2 0 4) 2 m6725) (fun r6738 m6740 => (if r6738 = 0 then (some (0, m6740)) else (if x2 = 4 then (some (m6740 396 (wr ((wr (10 * (m6740 376 18))) + x1)).toNat, m6740)) else (if wr (x2 - 2) < m6740 397 (wr ((wr (10 * (m6740 376 18))) + x1)).toNat then (some (wr ((m6740 398 (wr ((wr (10 * (m6740 376 18))) + x1)).toNat) + x2), m6740)) else (some ((-1), m6740))))))))))
set_option maxRecDepth 100000 in
theorem d185 {L : Nat} {xs : Nat → Int32} {k d n : Nat} {c : yS3} {f : Nat} {x1 : Int} {x2 : Int} {m : yM} (hk : k ≤ f) (gx1 : rg x1) (gx2 : rg x2) (hR : RM c m) : PC (gZ L xs) k d 185 [.ref 376, yI x1, yI x2] m n (qS c (F185 f x1 x2 m)) := by
  have hX : F185 f x1 x2 m = F185 f x1 x2 m := rfl
  have Hr : ∀ r m', F185 f x1 x2 m = some (r, m') → rg r → RM c m' → ∀ n' : Nat, (qS c (F185 f x1 x2 m)) (.inl (some (yI r))) m' n' := fun r m' e h1 h2 n' => ⟨r, rfl, h1, h2, e⟩
  refine PC.mk [some (.ref 376), some (yI x1), some (yI x2), none] kn185 rfl ?_
  refine p_aload 1 c185_0 rfl rfl ?_
  refine p_aload 2 c185_1 rfl rfl ?_
  refine p_iload 3 c185_2 rfl rfl ?_
  refine p_cX 6 [.ref 376, yI x1] [.ref 376] c185_3 rfl rfl rfl (fun k' hk' d' => d170 gx1 hR) (fun hg6718 n6717 k6716 hk6716 => ?_)
  refine p_cS 9 [.ref 376, yI (F170 x1 m)] [] c185_6 rfl rfl rfl (fun k' hk' d' => d162 (f := f) (by omega) hg6718 hR) (fun r6723 m6725 hF6721 hg6722 hR6726 n6720 k6719 hk6719 => ?_)
  have hX6724 := hX.trans (bI_s hF6721)
  refine p_if 14 12 c185_9 rfl rfl (yz_ne hg6722) (fun hb6727 k6728 hk6728 => ?_) (fun hb6727 k6729 hk6729 => ?_)
  · have hX6730 := hX6724.trans (if_neg hb6727)
    refine p_aload 15 c185_14 rfl rfl ?_
    refine p_iload 16 c185_15 rfl rfl ?_
    refine p_iconst 17 c185_16 rfl ?_
    refine p_iconst 18 c185_17 rfl ?_
    refine p_cX 21 [yI x2, yI 0, yI 4] [.ref 376] c185_18 rfl rfl rfl (fun k' hk' d' => d22 gx2 (rgD rfl) (rgD rfl) hR6726) (fun hg6733 n6732 k6731 hk6731 => ?_)
    refine p_iconst 22 c185_21 rfl ?_
    refine p_cS 25 [.ref 376, yI (F22 x2 0 4), yI 2] [] c185_22 rfl rfl rfl (fun k' hk' d' => d23 (f := f) (by omega) hg6733 (rgD rfl) hR6726) (fun r6738 m6740 hF6736 hg6737 hR6741 n6735 k6734 hk6734 => ?_)
    have hX6739 := hX6730.trans (bI_s hF6736)
    refine p_if 30 28 c185_25 rfl rfl (yz_ne hg6737) (fun hb6742 k6743 hk6743 => ?_) (fun hb6742 k6744 hk6744 => ?_)
    · have hX6745 := hX6739.trans (if_neg hb6742)
      refine p_iconst 32 c185_30 rfl ?_
      refine p_aload 33 c185_32 rfl rfl ?_
      refine p_getX 36 (m6740 376 18) c185_33 rfl kf376_18 rfl ?_
      refine p_imul 37 c185_36 rfl ?_
      refine p_iload 38 c185_37 rfl rfl ?_
      refine p_iadd 39 c185_38 rfl ?_
      refine p_istore 40 c185_39 rfl rfl ?_
      refine p_iload 41 c185_40 rfl rfl ?_
      refine p_iconst 42 c185_41 rfl ?_
      refine p_icmp 52 45 c185_42 rfl rfl (yc_ne gx2 (rgD rfl)) (fun hb6746 k6747 hk6747 => ?_) (fun hb6746 k6748 hk6748 => ?_)
      · have hX6749 := hX6745.trans (if_neg hb6746)
        refine p_iload 53 c185_52 rfl rfl ?_
        refine p_iconst 54 c185_53 rfl ?_
        refine p_isub 55 c185_54 rfl ?_
        refine p_aload 56 c185_55 rfl rfl ?_
        refine p_getR 59 c185_56 rfl kf376_34 ?_
        refine p_iload 60 c185_59 rfl rfl ?_
        refine p_iaX 61 (m6740 397 (wr ((wr (10 * (m6740 376 18))) + x1)).toNat) c185_60 rfl ka397 (rg_wr _) rfl (fun hx6750 => ?_)
        refine p_icmp 75 64 c185_61 rfl rfl ((yc_ge (rg_wr _) (hR6741.rg _ _)).trans Int.not_lt.symm) (fun hb6751 k6752 hk6752 => ?_) (fun hb6751 k6753 hk6753 => ?_)
        · have hX6754 := hX6749.trans (if_neg hb6751)
          refine p_iconst 76 c185_75 rfl ?_
          exact p_ireturn c185_76 (Hr _ _ hX6754 (rgD rfl) hR6741 _)
        · have hX6755 := hX6749.trans (if_pos (Classical.not_not.mp hb6751))
          refine p_aload 65 c185_64 rfl rfl ?_
          refine p_getR 68 c185_65 rfl kf376_35 ?_
          refine p_iload 69 c185_68 rfl rfl ?_
          refine p_iaX 70 (m6740 398 (wr ((wr (10 * (m6740 376 18))) + x1)).toNat) c185_69 rfl ka398 (rg_wr _) rfl (fun hx6756 => ?_)
          refine p_iload 71 c185_70 rfl rfl ?_
          refine p_iadd 72 c185_71 rfl ?_
          refine p_goto 76 c185_72 rfl ?_
          exact p_ireturn c185_76 (Hr _ _ hX6755 (rg_wr _) hR6741 _)
      · have hX6757 := hX6745.trans (if_pos (Classical.not_not.mp hb6746))
        refine p_aload 46 c185_45 rfl rfl ?_
        refine p_getR 49 c185_46 rfl kf376_33 ?_
        refine p_iload 50 c185_49 rfl rfl ?_
        refine p_iaX 51 (m6740 396 (wr ((wr (10 * (m6740 376 18))) + x1)).toNat) c185_50 rfl ka396 (rg_wr _) rfl (fun hx6758 => ?_)
        exact p_ireturn c185_51 (Hr _ _ hX6757 (hR6741.rg _ _) hR6741 _)
    · have hX6759 := hX6739.trans (if_pos (Classical.not_not.mp hb6742))
      refine p_iconst 29 c185_28 rfl ?_
      exact p_ireturn c185_29 (Hr _ _ hX6759 (rgD rfl) hR6741 _)
  · have hX6760 := hX6724.trans (if_pos (Classical.not_not.mp hb6727))
    refine p_iconst 13 c185_12 rfl ?_
    exact p_ireturn c185_13 (Hr _ _ hX6760 (rgD rfl) hR6726 _)
def B75_8_5 (f : Nat) (a0 : Nat) (x1 : Int) (x3 : Int) (x2 : Int) (m : yM) : Option ((Int × yM) ⊕ ((Int × yM) ⊕ (Unit × yM))) := (if x2 < x3 then (some (.inl ((wr (x2 + 1)), yup m a0 x2.toNat x1))) else (some (.inr (.inl (x2, m)))))
set_option maxRecDepth 100000 in
theorem tB75_8_5 {L : Nat} {xs : Nat → Int32} {Q : xO → yM → Nat → Prop} {k d n : Nat} {c : yS3} {f : Nat} {a0 : Nat} {x1 : Int} {x3 : Int} {x2 : Int} {m : yM} (hk : k ≤ f) (hr0 : yarr gSh 414 a0 = some (0, 8)) (hq0 : (10 ≤ a0 ∧ a0 < 72) ∨ (73 ≤ a0 ∧ a0 < 169) ∨ (171 ≤ a0 ∧ a0 < 219) ∨ (221 ≤ a0 ∧ a0 < 251) ∨ (252 ≤ a0 ∧ a0 < 256)) (gx1 : rg x1) (gx3 : rg x3) (gx2 : rg x2) (hR : RM c m) (Hn : ∀ (y0 : Int) (m' : yM) (n' : Nat), B75_8_5 f a0 x1 x3 x2 m = some (.inl (y0, m')) → rg y0 → RM c m' → ∀ k', k' < k → PW (gZ L xs) k' 75 d 5 [some (.ref a0), some (yI x1), some (yI y0), some (yI x3)] [] m' n' Q) (He : ∀ (y0 : Int) (m' : yM) (n' : Nat), B75_8_5 f a0 x1 x3 x2 m = some (.inr (.inl (y0, m'))) → rg y0 → RM c m' → ∀ k', k' ≤ k → PW (gZ L xs) k' 75 d 20 [some (.ref a0), some (yI x1), some (yI y0), some (yI x3)] [] m' n' Q) (Hr : ∀ m', B75_8_5 f a0 x1 x3 x2 m = some (.inr (.inr ((), m'))) → RM c m' → ∀ n', Q (.inl none) m' n') : PW (gZ L xs) k 75 d 5 [some (.ref a0), some (yI x1), some (yI x2), some (yI x3)] [] m n Q := by
  have hX : B75_8_5 f a0 x1 x3 x2 m = B75_8_5 f a0 x1 x3 x2 m := rfl
  refine p_iload 6 c75_5 rfl rfl ?_
  refine p_iload 7 c75_6 rfl rfl ?_
  refine p_icmp 20 10 c75_7 rfl rfl ((yc_ge gx2 gx3).trans Int.not_lt.symm) (fun hb6804 k6805 hk6805 => ?_) (fun hb6804 k6806 hk6806 => ?_)
  · have hX6807 := hX.trans (if_neg hb6804)
    exact He _ _ _ hX6807 gx2 hR _ (by omega)
  · have hX6808 := hX.trans (if_pos (Classical.not_not.mp hb6804))
    refine p_aload 11 c75_10 rfl rfl ?_
    refine p_iload 12 c75_11 rfl rfl ?_
    refine p_iload 13 c75_12 rfl rfl ?_
    refine p_iaS 14 c75_13 rfl hr0 gx2 x1 (nar0 gx1) (fun hx6809 => ?_)
    have hR6810 := hR.up a0 x2.toNat (v := x1) (nselA (by omega)) gx1
    refine p_iinc 17 c75_14 rfl rfl rfl ?_
    refine p_gotoD 5 c75_17 rfl (fun k6811 hk6811 => ?_)
    exact Hn _ _ _ hX6808 (rg_wr _) hR6810 _ (by omega)
def F75_8 (f : Nat) (a0 : Nat) (x1 : Int) (m : yM) : Option yM := (bL (yloop (fun (l : Int) ml => B75_8_5 f a0 x1 8 l ml) f 0 m) (fun l6812 m6818 => (some m6818)) (fun _ mr => some mr))
set_option maxRecDepth 100000 in
theorem d75_8 {L : Nat} {xs : Nat → Int32} {k d n : Nat} {c : yS3} {f : Nat} {a0 : Nat} {x1 : Int} {m : yM} (hk : k ≤ f) (hr0 : yarr gSh 414 a0 = some (0, 8)) (hq0 : (10 ≤ a0 ∧ a0 < 72) ∨ (73 ≤ a0 ∧ a0 < 169) ∨ (171 ≤ a0 ∧ a0 < 219) ∨ (221 ≤ a0 ∧ a0 < 251) ∨ (252 ≤ a0 ∧ a0 < 256)) (gx1 : rg x1) (hR : RM c m) : PC (gZ L xs) k d 75 [.ref a0, yI x1] m n (qV c (F75_8 f a0 x1 m)) := by
  have hX : F75_8 f a0 x1 m = F75_8 f a0 x1 m := rfl
  have Hr : ∀ m', F75_8 f a0 x1 m = some m' → RM c m' → ∀ n' : Nat, (qV c (F75_8 f a0 x1 m)) (.inl none) m' n' := fun m' e h n' => ⟨rfl, h, e⟩
  refine PC.mk [some (.ref a0), some (yI x1), none, none] kn75 rfl ?_
  refine p_iconst 1 c75_0 rfl ?_
  refine p_istore 2 c75_1 rfl rfl ?_
  refine p_aload 3 c75_2 rfl rfl ?_
  refine p_alen 4 c75_3 rfl hr0 ?_
  refine p_istore 5 c75_4 rfl rfl ?_
  refine PW.loop (K := k) (pce := 20) (fun (l : Int) ml => B75_8_5 f a0 x1 8 l ml) (fun (l : Int) j => [some (.ref a0), some (yI x1), some (yI l), some (yI 8)]) (fun (l : Int) => rg l) (RM c) (fun (r' : Unit) m' => RM c m' → ∀ n' : Nat, (qV c (F75_8 f a0 x1 m)) (.inl none) m' n') (fun k' hk' l j m' n' hl hI Hn' He' Hr' => tB75_8_5 (f := f) (by omega) hr0 (by omega) gx1 (rgD rfl) hl hI (fun y0 m2 n2 e h0 hR2 => Hn' y0 (fun q => ([none, none, none, none] : List (Option Value)).getD q none) m2 n2 e h0 hR2) (fun y0 m2 n2 e h0 hR2 => He' y0 (fun q => ([none, none, none, none] : List (Option Value)).getD q none) m2 n2 e h0 hR2) (fun m2 e => Hr' () m2 e)) f k (by omega) (Nat.le_refl _) 0 (fun q => ([some (.ref a0), some (yI x1), some (yI 0), some (yI 8)] : xL).getD q none) _ _ (rgD rfl) hR (fun l6812 j6815 m6818 n6817 e6814 hl6813 hR6819 k6816 hk6816 => ?_) (fun r' m' e' => ?_)
  · have hX6820 := hX.trans (bL_l e6814)
    exact p_return c75_20 (Hr _ hX6820 hR6819 _)
  · exact Hr m' (hX.trans (bL_r e'))
def F186 (f : Nat) (x1 : Int) (m : yM) : Option ((Int ⊕ Nat) × yM) := (if m 169 5 = 30 then (some (.inr 10, m)) else (if 0 ≤ (m 169 5) ∧ (m 169 5) < ((30 : Nat) : Int) then (bU (F75_8 f (221 + (m 169 5).toNat) ((-1)) (yup (yup m 169 5 (wr ((m 169 5) + 1))) 219 (m 169 5).toNat x1)) (fun m6825 => (some (.inl (m 169 5), m6825)))) else none))
set_option maxRecDepth 100000 in
theorem d186 {L : Nat} {xs : Nat → Int32} {k d n : Nat} {c : yS3} {f : Nat} {x1 : Int} {m : yM} (hk : k ≤ f) (gx1 : rg x1) (hR : RM c m) : PC (gZ L xs) k d 186 [.ref 169, yI x1] m n (qEI (fun e => e = 10) c (F186 f x1 m)) := by
  have hX : F186 f x1 m = F186 f x1 m := rfl
  have Hr : ∀ r m', F186 f x1 m = some (.inl r, m') → rg r → RM c m' → ∀ n' : Nat, (qEI (fun e => e = 10) c (F186 f x1 m)) (.inl (some (yI r))) m' n' := fun r m' e h1 h2 n' => Or.inl ⟨r, rfl, h1, h2, e⟩
  have Ht : ∀ e m', F186 f x1 m = some (.inr e, m') → (fun e => e = 10) e → RM c m' → ∀ x n' : Nat, (qEI (fun e => e = 10) c (F186 f x1 m)) (.inr (e, x)) m' n' := fun e m' e1 h1 h2 x n' => Or.inr ⟨e, x, rfl, h1, h2, e1⟩
  refine PC.mk [some (.ref 169), some (yI x1), none] kn186 rfl ?_
  refine p_aload 1 c186_0 rfl rfl ?_
  refine p_getX 4 (m 169 5) c186_1 rfl kf169_5 rfl ?_
  refine p_iconst 6 c186_4 rfl ?_
  refine p_icmp 17 9 c186_6 rfl rfl (yc_ne (hR.rg _ _) (rgD rfl)) (fun hb6793 k6794 hk6794 => ?_) (fun hb6793 k6795 hk6795 => ?_)
  · have hX6796 := hX.trans (if_neg hb6793)
    refine p_aload 18 c186_17 rfl rfl ?_
    refine p_getX 21 (m 169 5) c186_18 rfl kf169_5 rfl ?_
    refine p_istore 22 c186_21 rfl rfl ?_
    refine p_aload 23 c186_22 rfl rfl ?_
    refine p_dup 24 c186_23 rfl rfl ?_
    refine p_getX 27 (m 169 5) c186_24 rfl kf169_5 rfl ?_
    refine p_iconst 28 c186_27 rfl ?_
    refine p_iadd 29 c186_28 rfl ?_
    refine p_putI 32 c186_29 rfl kf169_5 ?_
    have hR6797 := hR.up 169 5 (v := wr ((m 169 5) + 1)) (nselD rfl) (rg_wr _)
    refine p_aload 33 c186_32 rfl rfl ?_
    refine p_getR 36 c186_33 rfl kf169_1 ?_
    refine p_iload 37 c186_36 rfl rfl ?_
    refine p_iload 38 c186_37 rfl rfl ?_
    refine p_iaS 39 c186_38 rfl ka219 (hR.rg _ _) x1 (nar0 gx1) (fun hx6798 => ?_)
    have hR6799 := hR6797.up 219 (m 169 5).toNat (v := x1) (nselA (by decide)) gx1
    refine p_aload 40 c186_39 rfl rfl ?_
    refine p_getR 43 c186_40 rfl kf169_2 ?_
    refine p_iload 44 c186_43 rfl rfl ?_
    refine p_aaX 45 c186_44 rfl kr220 (hR.rg _ _) (fun hx6800 => ?_)
    have hX6801 := hX6796.trans (if_pos hx6800)
    refine p_iconst 46 c186_45 rfl ?_
    refine p_cV 49 [.ref (221 + (m 169 5).toNat), yI ((-1))] [] c186_46 rfl rfl rfl (fun k' hk' d' => d75_8 (f := f) (by omega) (kR220 hx6800) (by omega) (rgD rfl) hR6799) (fun m6825 hF6821 hR6826 n6803 k6802 hk6802 => ?_)
    have hX6824 := hX6801.trans (bU_s hF6821)
    refine p_iload 50 c186_49 rfl rfl ?_
    exact p_ireturn c186_50 (Hr _ _ hX6824 (hR.rg _ _) hR6826 _)
  · have hX6827 := hX.trans (if_pos (Classical.not_not.mp hb6793))
    exact p_throw c186_9 (fun x n' => Ht _ _ hX6827 rfl hR x n')
def B75_48_5 (f : Nat) (a0 : Nat) (x1 : Int) (x3 : Int) (x2 : Int) (m : yM) : Option ((Int × yM) ⊕ ((Int × yM) ⊕ (Unit × yM))) := (if x2 < x3 then (some (.inl ((wr (x2 + 1)), yup m a0 x2.toNat x1))) else (some (.inr (.inl (x2, m)))))
set_option maxRecDepth 100000 in
theorem tB75_48_5 {L : Nat} {xs : Nat → Int32} {Q : xO → yM → Nat → Prop} {k d n : Nat} {c : yS3} {f : Nat} {a0 : Nat} {x1 : Int} {x3 : Int} {x2 : Int} {m : yM} (hk : k ≤ f) (hr0 : yarr gSh 414 a0 = some (0, 48)) (hq0 : (10 ≤ a0 ∧ a0 < 72) ∨ (73 ≤ a0 ∧ a0 < 169) ∨ (171 ≤ a0 ∧ a0 < 219) ∨ (221 ≤ a0 ∧ a0 < 251) ∨ (252 ≤ a0 ∧ a0 < 256)) (gx1 : rg x1) (gx3 : rg x3) (gx2 : rg x2) (hR : RM c m) (Hn : ∀ (y0 : Int) (m' : yM) (n' : Nat), B75_48_5 f a0 x1 x3 x2 m = some (.inl (y0, m')) → rg y0 → RM c m' → ∀ k', k' < k → PW (gZ L xs) k' 75 d 5 [some (.ref a0), some (yI x1), some (yI y0), some (yI x3)] [] m' n' Q) (He : ∀ (y0 : Int) (m' : yM) (n' : Nat), B75_48_5 f a0 x1 x3 x2 m = some (.inr (.inl (y0, m'))) → rg y0 → RM c m' → ∀ k', k' ≤ k → PW (gZ L xs) k' 75 d 20 [some (.ref a0), some (yI x1), some (yI y0), some (yI x3)] [] m' n' Q) (Hr : ∀ m', B75_48_5 f a0 x1 x3 x2 m = some (.inr (.inr ((), m'))) → RM c m' → ∀ n', Q (.inl none) m' n') : PW (gZ L xs) k 75 d 5 [some (.ref a0), some (yI x1), some (yI x2), some (yI x3)] [] m n Q := by
  have hX : B75_48_5 f a0 x1 x3 x2 m = B75_48_5 f a0 x1 x3 x2 m := rfl
  refine p_iload 6 c75_5 rfl rfl ?_
  refine p_iload 7 c75_6 rfl rfl ?_
  refine p_icmp 20 10 c75_7 rfl rfl ((yc_ge gx2 gx3).trans Int.not_lt.symm) (fun hb6850 k6851 hk6851 => ?_) (fun hb6850 k6852 hk6852 => ?_)
  · have hX6853 := hX.trans (if_neg hb6850)
    exact He _ _ _ hX6853 gx2 hR _ (by omega)
  · have hX6854 := hX.trans (if_pos (Classical.not_not.mp hb6850))
    refine p_aload 11 c75_10 rfl rfl ?_
    refine p_iload 12 c75_11 rfl rfl ?_
    refine p_iload 13 c75_12 rfl rfl ?_
    refine p_iaS 14 c75_13 rfl hr0 gx2 x1 (nar0 gx1) (fun hx6855 => ?_)
    have hR6856 := hR.up a0 x2.toNat (v := x1) (nselA (by omega)) gx1
    refine p_iinc 17 c75_14 rfl rfl rfl ?_
    refine p_gotoD 5 c75_17 rfl (fun k6857 hk6857 => ?_)
    exact Hn _ _ _ hX6854 (rg_wr _) hR6856 _ (by omega)
def F75_48 (f : Nat) (a0 : Nat) (x1 : Int) (m : yM) : Option yM := (bL (yloop (fun (l : Int) ml => B75_48_5 f a0 x1 48 l ml) f 0 m) (fun l6858 m6864 => (some m6864)) (fun _ mr => some mr))
set_option maxRecDepth 100000 in
theorem d75_48 {L : Nat} {xs : Nat → Int32} {k d n : Nat} {c : yS3} {f : Nat} {a0 : Nat} {x1 : Int} {m : yM} (hk : k ≤ f) (hr0 : yarr gSh 414 a0 = some (0, 48)) (hq0 : (10 ≤ a0 ∧ a0 < 72) ∨ (73 ≤ a0 ∧ a0 < 169) ∨ (171 ≤ a0 ∧ a0 < 219) ∨ (221 ≤ a0 ∧ a0 < 251) ∨ (252 ≤ a0 ∧ a0 < 256)) (gx1 : rg x1) (hR : RM c m) : PC (gZ L xs) k d 75 [.ref a0, yI x1] m n (qV c (F75_48 f a0 x1 m)) := by
  have hX : F75_48 f a0 x1 m = F75_48 f a0 x1 m := rfl
  have Hr : ∀ m', F75_48 f a0 x1 m = some m' → RM c m' → ∀ n' : Nat, (qV c (F75_48 f a0 x1 m)) (.inl none) m' n' := fun m' e h n' => ⟨rfl, h, e⟩
  refine PC.mk [some (.ref a0), some (yI x1), none, none] kn75 rfl ?_
  refine p_iconst 1 c75_0 rfl ?_
  refine p_istore 2 c75_1 rfl rfl ?_
  refine p_aload 3 c75_2 rfl rfl ?_
  refine p_alen 4 c75_3 rfl hr0 ?_
  refine p_istore 5 c75_4 rfl rfl ?_
  refine PW.loop (K := k) (pce := 20) (fun (l : Int) ml => B75_48_5 f a0 x1 48 l ml) (fun (l : Int) j => [some (.ref a0), some (yI x1), some (yI l), some (yI 48)]) (fun (l : Int) => rg l) (RM c) (fun (r' : Unit) m' => RM c m' → ∀ n' : Nat, (qV c (F75_48 f a0 x1 m)) (.inl none) m' n') (fun k' hk' l j m' n' hl hI Hn' He' Hr' => tB75_48_5 (f := f) (by omega) hr0 (by omega) gx1 (rgD rfl) hl hI (fun y0 m2 n2 e h0 hR2 => Hn' y0 (fun q => ([none, none, none, none] : List (Option Value)).getD q none) m2 n2 e h0 hR2) (fun y0 m2 n2 e h0 hR2 => He' y0 (fun q => ([none, none, none, none] : List (Option Value)).getD q none) m2 n2 e h0 hR2) (fun m2 e => Hr' () m2 e)) f k (by omega) (Nat.le_refl _) 0 (fun q => ([some (.ref a0), some (yI x1), some (yI 0), some (yI 48)] : xL).getD q none) _ _ (rgD rfl) hR (fun l6858 j6861 m6864 n6863 e6860 hl6859 hR6865 k6862 hk6862 => ?_) (fun r' m' e' => ?_)
  · have hX6866 := hX.trans (bL_l e6860)
    exact p_return c75_20 (Hr _ hX6866 hR6865 _)
  · exact Hr m' (hX.trans (bL_r e'))
def F187 (f : Nat) (x1 : Int) (m : yM) : Option ((Nat ⊕ Nat) × yM) := (if x1 < 4 then (if 0 ≤ x1 ∧ x1 < ((4 : Nat) : Int) then (bU (F75_48 f (252 + (x1).toNat) ((-1)) m) (fun m6871 => (if 0 ≤ x1 ∧ x1 < ((4 : Nat) : Int) then (some (.inl (252 + (x1).toNat), m6871)) else none))) else none) else (some (.inr 10, m)))
set_option maxRecDepth 100000 in
theorem d187 {L : Nat} {xs : Nat → Int32} {k d n : Nat} {c : yS3} {f : Nat} {x1 : Int} {m : yM} (hk : k ≤ f) (gx1 : rg x1) (hR : RM c m) : PC (gZ L xs) k d 187 [.ref 169, yI x1] m n (qEA (fun e => e = 10) c (fun a => yarr gSh 414 a = some (0, 48) ∧ (252 ≤ a ∧ a < 256)) (F187 f x1 m)) := by
  have hX : F187 f x1 m = F187 f x1 m := rfl
  have Hr : ∀ r m', F187 f x1 m = some (.inl r, m') → (fun a => yarr gSh 414 a = some (0, 48) ∧ (252 ≤ a ∧ a < 256)) r → RM c m' → ∀ n' : Nat, (qEA (fun e => e = 10) c (fun a => yarr gSh 414 a = some (0, 48) ∧ (252 ≤ a ∧ a < 256)) (F187 f x1 m)) (.inl (some (.ref r))) m' n' := fun r m' e h1 h2 n' => Or.inl ⟨r, rfl, h1, h2, e⟩
  have Ht : ∀ e m', F187 f x1 m = some (.inr e, m') → (fun e => e = 10) e → RM c m' → ∀ x n' : Nat, (qEA (fun e => e = 10) c (fun a => yarr gSh 414 a = some (0, 48) ∧ (252 ≤ a ∧ a < 256)) (F187 f x1 m)) (.inr (e, x)) m' n' := fun e m' e1 h1 h2 x n' => Or.inr ⟨e, x, rfl, h1, h2, e1⟩
  refine PC.mk [some (.ref 169), some (yI x1)] kn187 rfl ?_
  refine p_iload 1 c187_0 rfl rfl ?_
  refine p_iconst 2 c187_1 rfl ?_
  refine p_icmp 13 5 c187_2 rfl rfl (yc_lt gx1 (rgD rfl)) (fun hb6842 k6843 hk6843 => ?_) (fun hb6842 k6844 hk6844 => ?_)
  · have hX6845 := hX.trans (if_pos hb6842)
    refine p_aload 14 c187_13 rfl rfl ?_
    refine p_getR 17 c187_14 rfl kf169_3 ?_
    refine p_iload 18 c187_17 rfl rfl ?_
    refine p_aaX 19 c187_18 rfl kr251 gx1 (fun hx6846 => ?_)
    have hX6847 := hX6845.trans (if_pos hx6846)
    refine p_iconst 20 c187_19 rfl ?_
    refine p_cV 23 [.ref (252 + (x1).toNat), yI ((-1))] [] c187_20 rfl rfl rfl (fun k' hk' d' => d75_48 (f := f) (by omega) (kR251 hx6846) (by omega) (rgD rfl) hR) (fun m6871 hF6867 hR6872 n6849 k6848 hk6848 => ?_)
    have hX6870 := hX6847.trans (bU_s hF6867)
    refine p_aload 24 c187_23 rfl rfl ?_
    refine p_getR 27 c187_24 rfl kf169_3 ?_
    refine p_iload 28 c187_27 rfl rfl ?_
    refine p_aaX 29 c187_28 rfl kr251 gx1 (fun hx6873 => ?_)
    have hX6874 := hX6870.trans (if_pos hx6873)
    exact p_areturn c187_29 (Hr _ _ hX6874 ⟨(kR251 hx6873), by omega⟩ hR6872 _)
  · have hX6875 := hX.trans (if_neg hb6842)
    exact p_throw c187_5 (fun x n' => Ht _ _ hX6875 rfl hR x n')
def F188_48 (f : Nat) (a1 : Nat) (x2 : Int) (x3 : Int) (m : yM) : Option yM := (if x3 = (-1) then (some (yup m a1 x2.toNat x3)) else (if 0 ≤ x2 ∧ x2 < ((48 : Nat) : Int) then (some (yup (yup m a1 x2.toNat x3) (171 + (x2).toNat) (m 219 x3.toNat).toNat 1)) else none))
set_option maxRecDepth 100000 in
theorem d188_48 {L : Nat} {xs : Nat → Int32} {k d n : Nat} {c : yS3} {f : Nat} {a1 : Nat} {x2 : Int} {x3 : Int} {m : yM} (hk : k ≤ f) (hr1 : yarr gSh 414 a1 = some (0, 48)) (hq1 : (252 ≤ a1 ∧ a1 < 256)) (gx2 : rg x2) (gx3 : rg x3) (hR : RM c m) : PC (gZ L xs) k d 188 [.ref 169, .ref a1, yI x2, yI x3] m n (qV c (F188_48 f a1 x2 x3 m)) := by
  have hX : F188_48 f a1 x2 x3 m = F188_48 f a1 x2 x3 m := rfl
  have Hr : ∀ m', F188_48 f a1 x2 x3 m = some m' → RM c m' → ∀ n' : Nat, (qV c (F188_48 f a1 x2 x3 m)) (.inl none) m' n' := fun m' e h n' => ⟨rfl, h, e⟩
  refine PC.mk [some (.ref 169), some (.ref a1), some (yI x2), some (yI x3)] kn188 rfl ?_
  refine p_aload 1 c188_0 rfl rfl ?_
  refine p_iload 2 c188_1 rfl rfl ?_
  refine p_iload 3 c188_2 rfl rfl ?_
  refine p_iaS 4 c188_3 rfl hr1 gx2 x3 (nar0 gx3) (fun hx6892 => ?_)
  have hR6893 := hR.up a1 x2.toNat (v := x3) (nselA (by omega)) gx3
  refine p_iload 5 c188_4 rfl rfl ?_
  refine p_iconst 6 c188_5 rfl ?_
  refine p_icmp 23 9 c188_6 rfl rfl (yc_eq gx3 (rgD rfl)) (fun hb6894 k6895 hk6895 => ?_) (fun hb6894 k6896 hk6896 => ?_)
  · have hX6897 := hX.trans (if_pos hb6894)
    exact p_return c188_23 (Hr _ hX6897 hR6893 _)
  · have hX6898 := hX.trans (if_neg hb6894)
    refine p_aload 10 c188_9 rfl rfl ?_
    refine p_getR 13 c188_10 rfl kf169_0 ?_
    refine p_iload 14 c188_13 rfl rfl ?_
    refine p_aaX 15 c188_14 rfl kr170 gx2 (fun hx6899 => ?_)
    have hX6900 := hX6898.trans (if_pos hx6899)
    refine p_aload 16 c188_15 rfl rfl ?_
    refine p_getR 19 c188_16 rfl kf169_1 ?_
    refine p_iload 20 c188_19 rfl rfl ?_
    refine p_iaX 21 (m 219 x3.toNat) c188_20 rfl ka219 gx3 (yup_na (by omega)) (fun hx6901 => ?_)
    refine p_iconst 22 c188_21 rfl ?_
    refine p_iaS 23 c188_22 rfl (kR170 hx6899) (hR.rg _ _) 1 (nar0 (rgD rfl)) (fun hx6902 => ?_)
    have hR6903 := hR6893.up (171 + (x2).toNat) (m 219 x3.toNat).toNat (v := 1) (nselA (by omega)) (rgD rfl)
    exact p_return c188_23 (Hr _ hX6900 hR6903 _)
def F189 (f : Nat) (m : yM) : Option ((Unit ⊕ Nat) × yM) := (if m 169 6 = 200 then (some (.inr 10, m)) else (some (.inl (), yup m 169 6 (wr ((m 169 6) + 1)))))
set_option maxRecDepth 100000 in
theorem d189 {L : Nat} {xs : Nat → Int32} {k d n : Nat} {c : yS3} {f : Nat} {m : yM} (hk : k ≤ f) (hR : RM c m) : PC (gZ L xs) k d 189 [.ref 169] m n (qEV (fun e => e = 10) c (F189 f m)) := by
  have hX : F189 f m = F189 f m := rfl
  have Hr : ∀ m', F189 f m = some (.inl (), m') → RM c m' → ∀ n' : Nat, (qEV (fun e => e = 10) c (F189 f m)) (.inl none) m' n' := fun m' e h n' => Or.inl ⟨rfl, h, e⟩
  have Ht : ∀ e m', F189 f m = some (.inr e, m') → (fun e => e = 10) e → RM c m' → ∀ x n' : Nat, (qEV (fun e => e = 10) c (F189 f m)) (.inr (e, x)) m' n' := fun e m' e1 h1 h2 x n' => Or.inr ⟨e, x, rfl, h1, h2, e1⟩
  refine PC.mk [some (.ref 169)] kn189 rfl ?_
  refine p_aload 1 c189_0 rfl rfl ?_
  refine p_getX 4 (m 169 6) c189_1 rfl kf169_6 rfl ?_
  refine p_iconst 7 c189_4 rfl ?_
  refine p_icmp 18 10 c189_7 rfl rfl (yc_ne (hR.rg _ _) (rgD rfl)) (fun hb6926 k6927 hk6927 => ?_) (fun hb6926 k6928 hk6928 => ?_)
  · have hX6929 := hX.trans (if_neg hb6926)
    refine p_aload 19 c189_18 rfl rfl ?_
    refine p_dup 20 c189_19 rfl rfl ?_
    refine p_getX 23 (m 169 6) c189_20 rfl kf169_6 rfl ?_
    refine p_iconst 24 c189_23 rfl ?_
    refine p_iadd 25 c189_24 rfl ?_
    refine p_putI 28 c189_25 rfl kf169_6 ?_
    have hR6930 := hR.up 169 6 (v := wr ((m 169 6) + 1)) (nselD rfl) (rg_wr _)
    exact p_return c189_28 (Hr _ hX6929 hR6930 _)
  · have hX6931 := hX.trans (if_pos (Classical.not_not.mp hb6926))
    exact p_throw c189_10 (fun x n' => Ht _ _ hX6931 rfl hR x n')
def B190_13 (f : Nat) (rc : Int → Int → Int → yM → Option ((Int ⊕ Nat) × yM)) (A : Nat) (x1 : Int) (x2 : Int) (a3 : Nat) (x4 : Int) (m : yM) : Option ((Int × yM) ⊕ ((Int × yM) ⊕ ((Int ⊕ Nat) × yM))) := (if 200 < x4 then (some (.inr (.inl (x4, m)))) else (if 0 ≤ x2 ∧ x2 < ((4 : Nat) : Int) then (if m (252 + (x2).toNat) (m a3 3).toNat = (-1) then (some (.inr (.inl (x4, m)))) else (bT (rc (wr (x1 + 1)) (m a3 11) x2 m) (fun r7002 m7004 => (if r7002 = 0 then (bT (F189 f m7004) (fun _ m7020 => (some (.inl ((wr (x4 + 1)), m7020)))) (fun e' m7020 => (some (.inr (.inr (.inr e', m7020)))))) else (some (.inr (.inr (.inl 1, m7004)))))) (fun e' m7004 => (some (.inr (.inr (.inr e', m7004))))))) else none))
set_option maxRecDepth 100000 in
theorem tB190_13 {L : Nat} {xs : Nat → Int32} {Q : xO → yM → Nat → Prop} {k d n : Nat} {c : yS3} {f : Nat} {rc : Int → Int → Int → yM → Option ((Int ⊕ Nat) × yM)} {A : Nat} {x1 : Int} {x2 : Int} {a3 : Nat} {x4 : Int} {m : yM} (hk : k ≤ f) (hrc : ∀ k', k' < k → ∀ {d' : Nat} {x1 x2 x3 : Int} {m' : yM} {n' : Nat}, rg x1 → rg x2 → rg x3 → RM c m' → PC (gZ L xs) k' d' 197 [.ref 169, yI x1, yI x2, yI x3] m' n' (qEI (fun e => e = 10 ∨ e = 11 ∨ e = 12 ∨ e = 13) c (rc x1 x2 x3 m'))) (hc : c.2.2 = pX A) (hA : (A = 256 ∨ A = 316)) (gx1 : rg x1) (gx2 : rg x2) (hs3 : (276 ≤ a3 ∧ a3 < 316) ∨ (336 ≤ a3 ∧ a3 < 376)) (gx4 : rg x4) (hR : RM c m) (Hn : ∀ (y0 : Int) (m' : yM) (n' : Nat), B190_13 f rc A x1 x2 a3 x4 m = some (.inl (y0, m')) → rg y0 → RM c m' → ∀ k', k' < k → PW (gZ L xs) k' 190 d 13 [some (.ref 169), some (yI x1), some (yI x2), some (.ref a3), some (yI y0)] [] m' n' Q) (He : ∀ (y0 : Int) (m' : yM) (n' : Nat), B190_13 f rc A x1 x2 a3 x4 m = some (.inr (.inl (y0, m'))) → rg y0 → RM c m' → ∀ k', k' ≤ k → PW (gZ L xs) k' 190 d 63 [some (.ref 169), some (yI x1), some (yI x2), some (.ref a3), some (yI y0)] [] m' n' Q) (Hr : ∀ r m', B190_13 f rc A x1 x2 a3 x4 m = some (.inr (.inr (.inl r, m'))) → rg r → RM c m' → ∀ n', Q (.inl (some (yI r))) m' n') (Ht : ∀ e m', B190_13 f rc A x1 x2 a3 x4 m = some (.inr (.inr (.inr e, m'))) → (fun e => e = 10 ∨ e = 11 ∨ e = 12 ∨ e = 13) e → RM c m' → ∀ x n', Q (.inr (e, x)) m' n') : PW (gZ L xs) k 190 d 13 [some (.ref 169), some (yI x1), some (yI x2), some (.ref a3), some (yI x4)] [] m n Q := by
  have hX : B190_13 f rc A x1 x2 a3 x4 m = B190_13 f rc A x1 x2 a3 x4 m := rfl
  refine p_iload 15 c190_13 rfl rfl ?_
  refine p_iconst 18 c190_15 rfl ?_
  refine p_icmp 63 21 c190_18 rfl rfl (yc_gt gx4 (rgD rfl)) (fun hb6985 k6986 hk6986 => ?_) (fun hb6985 k6987 hk6987 => ?_)
  · have hX6988 := hX.trans (if_pos hb6985)
    exact He _ _ _ hX6988 gx4 hR _ (by omega)
  · have hX6989 := hX.trans (if_neg hb6985)
    refine p_aload 22 c190_21 rfl rfl ?_
    refine p_getR 25 c190_22 rfl kf169_3 ?_
    refine p_iload 26 c190_25 rfl rfl ?_
    refine p_aaX 27 c190_26 rfl kr251 gx2 (fun hx6990 => ?_)
    have hX6991 := hX6989.trans (if_pos hx6990)
    refine p_aload 28 c190_27 rfl rfl ?_
    refine p_getX 31 (m a3 3) c190_28 rfl (kS_3 hs3) rfl ?_
    refine p_iaX 32 (m (252 + (x2).toNat) (m a3 3).toNat) c190_31 rfl (kR251 hx6990) (hR.rg _ _) rfl (fun hx6992 => ?_)
    refine p_iconst 33 c190_32 rfl ?_
    refine p_icmp 63 36 c190_33 rfl rfl (yc_eq (hR.rg _ _) (rgD rfl)) (fun hb6993 k6994 hk6994 => ?_) (fun hb6993 k6995 hk6995 => ?_)
    · have hX6996 := hX6991.trans (if_pos hb6993)
      exact He _ _ _ hX6996 gx4 hR _ (by omega)
    · have hX6997 := hX6991.trans (if_neg hb6993)
      refine p_aload 37 c190_36 rfl rfl ?_
      refine p_iload 38 c190_37 rfl rfl ?_
      refine p_iconst 39 c190_38 rfl ?_
      refine p_iadd 40 c190_39 rfl ?_
      refine p_aload 41 c190_40 rfl rfl ?_
      refine p_getX 44 (m a3 11) c190_41 rfl (kS_11 hs3) rfl ?_
      refine p_iload 45 c190_44 rfl rfl ?_
      refine p_cTI 48 [.ref 169, yI (wr (x1 + 1)), yI (m a3 11), yI x2] [] c190_45 rfl rfl rfl (fun k' hk' d' => hrc k' (by omega) (rg_wr _) (hR.rg _ _) gx2 hR) (fun r7002 m7004 hF7000 hg7001 hR7005 n6999 k6998 hk6998 => ?_) (fun e' q7009 m7004 n' hF7000 hE7007 hR7008 => ?_)
      · have hX7003 := hX6997.trans (bT_l hF7000)
        refine p_if 53 51 c190_48 rfl rfl (yz_eq hg7001) (fun hb7010 k7011 hk7011 => ?_) (fun hb7010 k7012 hk7012 => ?_)
        · have hX7013 := hX7003.trans (if_pos hb7010)
          refine p_aload 54 c190_53 rfl rfl ?_
          refine p_cTV 57 [.ref 169] [] c190_54 rfl rfl rfl (fun k' hk' d' => d189 (f := f) (by omega) hR7005) (fun m7020 hF7016 hR7021 n7015 k7014 hk7014 => ?_) (fun e' q7025 m7020 n' hF7016 hE7023 hR7024 => ?_)
          · have hX7019 := hX7013.trans (bT_l hF7016)
            refine p_iinc 60 c190_57 rfl rfl rfl ?_
            refine p_gotoD 13 c190_60 rfl (fun k7026 hk7026 => ?_)
            exact Hn _ _ _ hX7019 (rg_wr _) hR7021 _ (by omega)
          · exact ⟨fun pq hpq => absurd ((khm rfl).symm.trans hpq) (by simp), fun _ => Ht e' m7020 (hX7013.trans (bT_r hF7016)) (by have q := hE7023; simp only at q ⊢; omega) hR7024 q7025 n'⟩
        · have hX7027 := hX7003.trans (if_neg hb7010)
          refine p_iconst 52 c190_51 rfl ?_
          exact p_ireturn c190_52 (Hr _ _ hX7027 (rgD rfl) hR7005 _)
      · exact ⟨fun pq hpq => absurd ((khm rfl).symm.trans hpq) (by simp), fun _ => Ht e' m7004 (hX6997.trans (bT_r hF7000)) hE7007 hR7008 q7009 n'⟩
def F190 (f : Nat) (rc : Int → Int → Int → yM → Option ((Int ⊕ Nat) × yM)) (A : Nat) (x1 : Int) (x2 : Int) (m : yM) : Option ((Int ⊕ Nat) × yM) := (if 0 ≤ x1 ∧ x1 < ((40 : Nat) : Int) then (bL (yloop (fun (l : Int) ml => B190_13 f rc A x1 x2 (A + 20 + (x1).toNat) l ml) f 0 m) (fun l7028 m7034 => (some (.inl 0, m7034))) (fun r mr => some (r, mr))) else none)
set_option maxRecDepth 100000 in
theorem d190 {L : Nat} {xs : Nat → Int32} {k d n : Nat} {c : yS3} {f : Nat} {rc : Int → Int → Int → yM → Option ((Int ⊕ Nat) × yM)} {A : Nat} {x1 : Int} {x2 : Int} {m : yM} (hk : k ≤ f) (hrc : ∀ k', k' < k → ∀ {d' : Nat} {x1 x2 x3 : Int} {m' : yM} {n' : Nat}, rg x1 → rg x2 → rg x3 → RM c m' → PC (gZ L xs) k' d' 197 [.ref 169, yI x1, yI x2, yI x3] m' n' (qEI (fun e => e = 10 ∨ e = 11 ∨ e = 12 ∨ e = 13) c (rc x1 x2 x3 m'))) (hc : c.2.2 = pX A) (hA : (A = 256 ∨ A = 316)) (gx1 : rg x1) (gx2 : rg x2) (hR : RM c m) : PC (gZ L xs) k d 190 [.ref 169, yI x1, yI x2] m n (qEI (fun e => e = 10 ∨ e = 11 ∨ e = 12 ∨ e = 13) c (F190 f rc A x1 x2 m)) := by
  have hX : F190 f rc A x1 x2 m = F190 f rc A x1 x2 m := rfl
  have Hr : ∀ r m', F190 f rc A x1 x2 m = some (.inl r, m') → rg r → RM c m' → ∀ n' : Nat, (qEI (fun e => e = 10 ∨ e = 11 ∨ e = 12 ∨ e = 13) c (F190 f rc A x1 x2 m)) (.inl (some (yI r))) m' n' := fun r m' e h1 h2 n' => Or.inl ⟨r, rfl, h1, h2, e⟩
  have Ht : ∀ e m', F190 f rc A x1 x2 m = some (.inr e, m') → (fun e => e = 10 ∨ e = 11 ∨ e = 12 ∨ e = 13) e → RM c m' → ∀ x n' : Nat, (qEI (fun e => e = 10 ∨ e = 11 ∨ e = 12 ∨ e = 13) c (F190 f rc A x1 x2 m)) (.inr (e, x)) m' n' := fun e m' e1 h1 h2 x n' => Or.inr ⟨e, x, rfl, h1, h2, e1⟩
  refine PC.mk [some (.ref 169), some (yI x1), some (yI x2), none, none] kn190 rfl ?_
  refine p_aload 1 c190_0 rfl rfl ?_
  refine p_getV 4 (.ref A) c190_1 rfl kf169_4 (pX_of hA hR.2.2.2.2.2 hc) ?_
  refine p_getR 7 c190_4 rfl (kP_6 hA) ?_
  refine p_iload 8 c190_7 rfl rfl ?_
  refine p_aaX 9 c190_8 rfl (kPr_7 hA) gx1 (fun hx6983 => ?_)
  have hX6984 := hX.trans (if_pos hx6983)
  refine p_astore 10 c190_9 rfl rfl ?_
  refine p_iconst 11 c190_10 rfl ?_
  refine p_istore 13 c190_11 rfl rfl ?_
  refine PW.loop (K := k) (pce := 63) (fun (l : Int) ml => B190_13 f rc A x1 x2 (A + 20 + (x1).toNat) l ml) (fun (l : Int) j => [some (.ref 169), some (yI x1), some (yI x2), some (.ref (A + 20 + (x1).toNat)), some (yI l)]) (fun (l : Int) => rg l) (RM c) (fun (r' : (Int ⊕ Nat)) m' => (∀ v, r' = .inl v → rg v → RM c m' → ∀ n' : Nat, (qEI (fun e => e = 10 ∨ e = 11 ∨ e = 12 ∨ e = 13) c (F190 f rc A x1 x2 m)) (.inl (some (yI v))) m' n') ∧ (∀ e, r' = .inr e → (fun e => e = 10 ∨ e = 11 ∨ e = 12 ∨ e = 13) e → RM c m' → ∀ x n' : Nat, (qEI (fun e => e = 10 ∨ e = 11 ∨ e = 12 ∨ e = 13) c (F190 f rc A x1 x2 m)) (.inr (e, x)) m' n')) (fun k' hk' l j m' n' hl hI Hn' He' Hr' => tB190_13 (f := f) (by omega) (fun k' h' => hrc k' (by omega)) hc hA gx1 gx2 (kSr hA hx6983) hl hI (fun y0 m2 n2 e h0 hR2 => Hn' y0 (fun q => ([none, none, none, none, none] : List (Option Value)).getD q none) m2 n2 e h0 hR2) (fun y0 m2 n2 e h0 hR2 => He' y0 (fun q => ([none, none, none, none, none] : List (Option Value)).getD q none) m2 n2 e h0 hR2) (fun v m2 e => (Hr' (.inl v) m2 e).1 v rfl) (fun v m2 e => (Hr' (.inr v) m2 e).2 v rfl)) f k (by omega) (Nat.le_refl _) 0 (fun q => ([some (.ref 169), some (yI x1), some (yI x2), some (.ref (A + 20 + (x1).toNat)), some (yI 0)] : xL).getD q none) _ _ (rgD rfl) hR (fun l7028 j7031 m7034 n7033 e7030 hl7029 hR7035 k7032 hk7032 => ?_) (fun r' m' e' => ?_)
  · have hX7036 := hX6984.trans (bL_l e7030)
    refine p_iconst 64 c190_63 rfl ?_
    exact p_ireturn c190_64 (Hr _ _ hX7036 (rgD rfl) hR7035 _)
  · exact ⟨fun v hv => Hr v m' ((hX6984.trans (bL_r e')).trans (by rw [hv])), fun v hv => Ht v m' ((hX6984.trans (bL_r e')).trans (by rw [hv]))⟩
def F191 (f : Nat) (A : Nat) (x1 : Int) (m : yM) : Option ((Int ⊕ Nat) × yM) := (if x1 = (-1) then (some (.inr 11, m)) else (some (.inl (m (A + 8) (m 219 x1.toNat).toNat), m)))
set_option maxRecDepth 100000 in
theorem d191 {L : Nat} {xs : Nat → Int32} {k d n : Nat} {c : yS3} {f : Nat} {A : Nat} {x1 : Int} {m : yM} (hk : k ≤ f) (hc : c.2.2 = pX A) (hA : (A = 256 ∨ A = 316)) (gx1 : rg x1) (hR : RM c m) : PC (gZ L xs) k d 191 [.ref 169, yI x1] m n (qEI (fun e => e = 11) c (F191 f A x1 m)) := by
  have hX : F191 f A x1 m = F191 f A x1 m := rfl
  have Hr : ∀ r m', F191 f A x1 m = some (.inl r, m') → rg r → RM c m' → ∀ n' : Nat, (qEI (fun e => e = 11) c (F191 f A x1 m)) (.inl (some (yI r))) m' n' := fun r m' e h1 h2 n' => Or.inl ⟨r, rfl, h1, h2, e⟩
  have Ht : ∀ e m', F191 f A x1 m = some (.inr e, m') → (fun e => e = 11) e → RM c m' → ∀ x n' : Nat, (qEI (fun e => e = 11) c (F191 f A x1 m)) (.inr (e, x)) m' n' := fun e m' e1 h1 h2 x n' => Or.inr ⟨e, x, rfl, h1, h2, e1⟩
  refine PC.mk [some (.ref 169), some (yI x1)] kn191 rfl ?_
  refine p_iload 1 c191_0 rfl rfl ?_
  refine p_iconst 2 c191_1 rfl ?_
  refine p_icmp 13 5 c191_2 rfl rfl (yc_ne gx1 (rgD rfl)) (fun hb7067 k7068 hk7068 => ?_) (fun hb7067 k7069 hk7069 => ?_)
  · have hX7070 := hX.trans (if_neg hb7067)
    refine p_aload 14 c191_13 rfl rfl ?_
    refine p_getV 17 (.ref A) c191_14 rfl kf169_4 (pX_of hA hR.2.2.2.2.2 hc) ?_
    refine p_getR 20 c191_17 rfl (kP_7 hA) ?_
    refine p_aload 21 c191_20 rfl rfl ?_
    refine p_getR 24 c191_21 rfl kf169_1 ?_
    refine p_iload 25 c191_24 rfl rfl ?_
    refine p_iaX 26 (m 219 x1.toNat) c191_25 rfl ka219 gx1 rfl (fun hx7071 => ?_)
    refine p_iaX 27 (m (A + 8) (m 219 x1.toNat).toNat) c191_26 rfl (kPa_8 hA) (hR.rg _ _) rfl (fun hx7072 => ?_)
    exact p_ireturn c191_27 (Hr _ _ hX7070 (hR.rg _ _) hR _)
  · have hX7073 := hX.trans (if_pos (Classical.not_not.mp hb7067))
    exact p_throw c191_5 (fun x n' => Ht _ _ hX7073 rfl hR x n')
def F192 (f : Nat) (A : Nat) (x1 : Int) (x2 : Int) (m : yM) : Option ((Int ⊕ Nat) × yM) := (bT (F191 f A x1 m) (fun r7076 m7078 => (if F47 A r7076 x2 m7078 = 0 then (some (.inr 13, m7078)) else (some (.inl x1, m7078)))) (fun e' m7078 => (some (.inr e', m7078))))
set_option maxRecDepth 100000 in
theorem d192 {L : Nat} {xs : Nat → Int32} {k d n : Nat} {c : yS3} {f : Nat} {A : Nat} {x1 : Int} {x2 : Int} {m : yM} (hk : k ≤ f) (hc : c.2.2 = pX A) (hA : (A = 256 ∨ A = 316)) (gx1 : rg x1) (gx2 : rg x2) (hR : RM c m) : PC (gZ L xs) k d 192 [.ref 169, yI x1, yI x2] m n (qEI (fun e => e = 11 ∨ e = 13) c (F192 f A x1 x2 m)) := by
  have hX : F192 f A x1 x2 m = F192 f A x1 x2 m := rfl
  have Hr : ∀ r m', F192 f A x1 x2 m = some (.inl r, m') → rg r → RM c m' → ∀ n' : Nat, (qEI (fun e => e = 11 ∨ e = 13) c (F192 f A x1 x2 m)) (.inl (some (yI r))) m' n' := fun r m' e h1 h2 n' => Or.inl ⟨r, rfl, h1, h2, e⟩
  have Ht : ∀ e m', F192 f A x1 x2 m = some (.inr e, m') → (fun e => e = 11 ∨ e = 13) e → RM c m' → ∀ x n' : Nat, (qEI (fun e => e = 11 ∨ e = 13) c (F192 f A x1 x2 m)) (.inr (e, x)) m' n' := fun e m' e1 h1 h2 x n' => Or.inr ⟨e, x, rfl, h1, h2, e1⟩
  refine PC.mk [some (.ref 169), some (yI x1), some (yI x2)] kn192 rfl ?_
  refine p_aload 1 c192_0 rfl rfl ?_
  refine p_getV 4 (.ref A) c192_1 rfl kf169_4 (pX_of hA hR.2.2.2.2.2 hc) ?_
  refine p_aload 5 c192_4 rfl rfl ?_
  refine p_iload 6 c192_5 rfl rfl ?_
  refine p_cTI 9 [.ref 169, yI x1] [.ref A] c192_6 rfl rfl rfl (fun k' hk' d' => d191 (f := f) (by omega) hc hA gx1 hR) (fun r7076 m7078 hF7074 hg7075 hR7079 n7066 k7065 hk7065 => ?_) (fun e' q7083 m7078 n' hF7074 hE7081 hR7082 => ?_)
  · have hX7077 := hX.trans (bT_l hF7074)
    refine p_iload 10 c192_9 rfl rfl ?_
    refine p_cX 13 [.ref A, yI r7076, yI x2] [] c192_10 rfl rfl rfl (fun k' hk' d' => d47 hA hg7075 gx2 hR7079) (fun hg7086 n7085 k7084 hk7084 => ?_)
    refine p_if 24 16 c192_13 rfl rfl (yz_ne hg7086) (fun hb7087 k7088 hk7088 => ?_) (fun hb7087 k7089 hk7089 => ?_)
    · have hX7090 := hX7077.trans (if_neg hb7087)
      refine p_iload 25 c192_24 rfl rfl ?_
      exact p_ireturn c192_25 (Hr _ _ hX7090 gx1 hR7079 _)
    · have hX7091 := hX7077.trans (if_pos (Classical.not_not.mp hb7087))
      exact p_throw c192_16 (fun x n' => Ht _ _ hX7091 (Or.inr rfl) hR7079 x n')
  · exact ⟨fun pq hpq => absurd ((khm rfl).symm.trans hpq) (by simp), fun _ => Ht e' m7078 (hX.trans (bT_r hF7074)) (by have q := hE7081; simp only at q ⊢; omega) hR7082 q7083 n'⟩
def J193_137 (f : Nat) (rc : Int → Int → Int → yM → Option ((Int ⊕ Nat) × yM)) (A : Nat) (a1 : Nat) (x2 : Int) (a3 : Nat) (a6 : Nat) (a7 : Nat) (m : yM) : Option ((Unit ⊕ Nat) × yM) := (bT (rc (m a6 4) (m a6 5) (wr (x2 + 1)) m) (fun r7175 m7177 => (if m7177 a1 2 = (-1) then (some (.inl (), m7177)) else (bU (F188_48 f a3 (m7177 a1 2) (m7177 a7 (m7177 a6 2).toNat) m7177) (fun m7195 => (some (.inl (), m7195)))))) (fun e' m7177 => (some (.inr e', m7177))))
set_option maxRecDepth 100000 in
theorem tJ193_137 {L : Nat} {xs : Nat → Int32} {Q : xO → yM → Nat → Prop} {k d n : Nat} {c : yS3} {f : Nat} {rc : Int → Int → Int → yM → Option ((Int ⊕ Nat) × yM)} {A : Nat} {a1 : Nat} {x2 : Int} {a3 : Nat} {a6 : Nat} {a7 : Nat} {m : yM} {j4 j5 : Option Value} (hk : k ≤ f) (hrc : ∀ k', k' < k → ∀ {d' : Nat} {x1 x2 x3 : Int} {m' : yM} {n' : Nat}, rg x1 → rg x2 → rg x3 → RM c m' → PC (gZ L xs) k' d' 197 [.ref 169, yI x1, yI x2, yI x3] m' n' (qEI (fun e => e = 10 ∨ e = 11 ∨ e = 12 ∨ e = 13) c (rc x1 x2 x3 m'))) (hc : c.2.2 = pX A) (hA : (A = 256 ∨ A = 316)) (hs1 : (276 ≤ a1 ∧ a1 < 316) ∨ (336 ≤ a1 ∧ a1 < 376)) (gx2 : rg x2) (hr3 : yarr gSh 414 a3 = some (0, 48)) (hq3 : (252 ≤ a3 ∧ a3 < 256)) (hm6 : (266 ≤ a6 ∧ a6 < 276) ∨ (326 ≤ a6 ∧ a6 < 336)) (hr7 : yarr gSh 414 a7 = some (0, 48)) (hq7 : (252 ≤ a7 ∧ a7 < 256)) (hR : RM c m) (Hr : ∀ m', J193_137 f rc A a1 x2 a3 a6 a7 m = some (.inl (), m') → RM c m' → ∀ n', Q (.inl none) m' n') (Ht : ∀ e m', J193_137 f rc A a1 x2 a3 a6 a7 m = some (.inr e, m') → (fun e => e = 10 ∨ e = 11 ∨ e = 12 ∨ e = 13) e → RM c m' → ∀ x n', Q (.inr (e, x)) m' n') : PW (gZ L xs) k 193 d 137 [some (.ref 169), some (.ref a1), some (yI x2), some (.ref a3), j4, j5, some (.ref a6), some (.ref a7)] [] m n Q := by
  have hX : J193_137 f rc A a1 x2 a3 a6 a7 m = J193_137 f rc A a1 x2 a3 a6 a7 m := rfl
  refine p_aload 138 c193_137 rfl rfl ?_
  refine p_aload 140 c193_138 rfl rfl ?_
  refine p_getX 143 (m a6 4) c193_140 rfl (kM_4 hm6) rfl ?_
  refine p_aload 145 c193_143 rfl rfl ?_
  refine p_getX 148 (m a6 5) c193_145 rfl (kM_5 hm6) rfl ?_
  refine p_iload 149 c193_148 rfl rfl ?_
  refine p_iconst 150 c193_149 rfl ?_
  refine p_iadd 151 c193_150 rfl ?_
  refine p_cTI 154 [.ref 169, yI (m a6 4), yI (m a6 5), yI (wr (x2 + 1))] [] c193_151 rfl rfl rfl (fun k' hk' d' => hrc k' (by omega) (hR.rg _ _) (hR.rg _ _) (rg_wr _) hR) (fun r7175 m7177 hF7173 hg7174 hR7178 n7172 k7171 hk7171 => ?_) (fun e' q7182 m7177 n' hF7173 hE7180 hR7181 => ?_)
  · have hX7176 := hX.trans (bT_l hF7173)
    refine p_pop 155 c193_154 rfl rfl ?_
    refine p_aload 156 c193_155 rfl rfl ?_
    refine p_getX 159 (m7177 a1 2) c193_156 rfl (kS_2 hs1) rfl ?_
    refine p_iconst 160 c193_159 rfl ?_
    refine p_icmp 180 163 c193_160 rfl rfl (yc_eq (hR7178.rg _ _) (rgD rfl)) (fun hb7183 k7184 hk7184 => ?_) (fun hb7183 k7185 hk7185 => ?_)
    · have hX7186 := hX7176.trans (if_pos hb7183)
      exact p_return c193_180 (Hr _ hX7186 hR7178 _)
    · have hX7187 := hX7176.trans (if_neg hb7183)
      refine p_aload 164 c193_163 rfl rfl ?_
      refine p_aload 165 c193_164 rfl rfl ?_
      refine p_aload 166 c193_165 rfl rfl ?_
      refine p_getX 169 (m7177 a1 2) c193_166 rfl (kS_2 hs1) rfl ?_
      refine p_aload 171 c193_169 rfl rfl ?_
      refine p_aload 173 c193_171 rfl rfl ?_
      refine p_getX 176 (m7177 a6 2) c193_173 rfl (kM_2 hm6) rfl ?_
      refine p_iaX 177 (m7177 a7 (m7177 a6 2).toNat) c193_176 rfl hr7 (hR7178.rg _ _) rfl (fun hx7188 => ?_)
      refine p_cV 180 [.ref 169, .ref a3, yI (m7177 a1 2), yI (m7177 a7 (m7177 a6 2).toNat)] [] c193_177 rfl rfl rfl (fun k' hk' d' => d188_48 (f := f) (by omega) hr3 (by omega) (hR7178.rg _ _) (hR7178.rg _ _) hR7178) (fun m7195 hF7191 hR7196 n7190 k7189 hk7189 => ?_)
      have hX7194 := hX7187.trans (bU_s hF7191)
      exact p_return c193_180 (Hr _ hX7194 hR7196 _)
  · exact ⟨fun pq hpq => absurd ((khm rfl).symm.trans hpq) (by simp), fun _ => Ht e' m7177 (hX.trans (bT_r hF7173)) hE7180 hR7181 q7182 n'⟩
def J193_111 (f : Nat) (rc : Int → Int → Int → yM → Option ((Int ⊕ Nat) × yM)) (A : Nat) (a1 : Nat) (x2 : Int) (a3 : Nat) (a6 : Nat) (a7 : Nat) (m : yM) : Option ((Unit ⊕ Nat) × yM) := (if 1 < m a1 8 then (bU (F188_48 f a7 (F87 a6 1 m) (m a3 (m a1 10).toNat) m) (fun m7208 => (J193_137 f rc A a1 x2 a3 a6 a7 m7208))) else (J193_137 f rc A a1 x2 a3 a6 a7 m))
set_option maxRecDepth 100000 in
theorem tJ193_111 {L : Nat} {xs : Nat → Int32} {Q : xO → yM → Nat → Prop} {k d n : Nat} {c : yS3} {f : Nat} {rc : Int → Int → Int → yM → Option ((Int ⊕ Nat) × yM)} {A : Nat} {a1 : Nat} {x2 : Int} {a3 : Nat} {a6 : Nat} {a7 : Nat} {m : yM} {j4 j5 : Option Value} (hk : k ≤ f) (hrc : ∀ k', k' < k → ∀ {d' : Nat} {x1 x2 x3 : Int} {m' : yM} {n' : Nat}, rg x1 → rg x2 → rg x3 → RM c m' → PC (gZ L xs) k' d' 197 [.ref 169, yI x1, yI x2, yI x3] m' n' (qEI (fun e => e = 10 ∨ e = 11 ∨ e = 12 ∨ e = 13) c (rc x1 x2 x3 m'))) (hc : c.2.2 = pX A) (hA : (A = 256 ∨ A = 316)) (hs1 : (276 ≤ a1 ∧ a1 < 316) ∨ (336 ≤ a1 ∧ a1 < 376)) (gx2 : rg x2) (hr3 : yarr gSh 414 a3 = some (0, 48)) (hq3 : (252 ≤ a3 ∧ a3 < 256)) (hm6 : (266 ≤ a6 ∧ a6 < 276) ∨ (326 ≤ a6 ∧ a6 < 336)) (hr7 : yarr gSh 414 a7 = some (0, 48)) (hq7 : (252 ≤ a7 ∧ a7 < 256)) (hR : RM c m) (Hr : ∀ m', J193_111 f rc A a1 x2 a3 a6 a7 m = some (.inl (), m') → RM c m' → ∀ n', Q (.inl none) m' n') (Ht : ∀ e m', J193_111 f rc A a1 x2 a3 a6 a7 m = some (.inr e, m') → (fun e => e = 10 ∨ e = 11 ∨ e = 12 ∨ e = 13) e → RM c m' → ∀ x n', Q (.inr (e, x)) m' n') : PW (gZ L xs) k 193 d 111 [some (.ref 169), some (.ref a1), some (yI x2), some (.ref a3), j4, j5, some (.ref a6), some (.ref a7)] [] m n Q := by
  have hX : J193_111 f rc A a1 x2 a3 a6 a7 m = J193_111 f rc A a1 x2 a3 a6 a7 m := rfl
  refine p_aload 112 c193_111 rfl rfl ?_
  refine p_getX 115 (m a1 8) c193_112 rfl (kS_8 hs1) rfl ?_
  refine p_iconst 116 c193_115 rfl ?_
  refine p_icmp 137 119 c193_116 rfl rfl ((yc_le (hR.rg _ _) (rgD rfl)).trans Int.not_lt.symm) (fun hb7167 k7168 hk7168 => ?_) (fun hb7167 k7169 hk7169 => ?_)
  · have hX7170 := hX.trans (if_neg hb7167)
    exact tJ193_137 (f := f) (by omega) (fun k' h' => hrc k' (by omega)) hc hA hs1 gx2 hr3 (by omega) hm6 hr7 (by omega) hR (fun m' e' => Hr m' (hX7170.trans e')) (fun r' m' e' => Ht r' m' (hX7170.trans e'))
  · have hX7197 := hX.trans (if_pos (Classical.not_not.mp hb7167))
    refine p_aload 120 c193_119 rfl rfl ?_
    refine p_aload 122 c193_120 rfl rfl ?_
    refine p_aload 124 c193_122 rfl rfl ?_
    refine p_iconst 125 c193_124 rfl ?_
    refine p_cX 128 [.ref a6, yI 1] [.ref a7, .ref 169] c193_125 rfl rfl rfl (fun k' hk' d' => d87 hm6 (rgD rfl) hR) (fun hg7200 n7199 k7198 hk7198 => ?_)
    refine p_aload 129 c193_128 rfl rfl ?_
    refine p_aload 130 c193_129 rfl rfl ?_
    refine p_getX 133 (m a1 10) c193_130 rfl (kS_10 hs1) rfl ?_
    refine p_iaX 134 (m a3 (m a1 10).toNat) c193_133 rfl hr3 (hR.rg _ _) rfl (fun hx7201 => ?_)
    refine p_cV 137 [.ref 169, .ref a7, yI (F87 a6 1 m), yI (m a3 (m a1 10).toNat)] [] c193_134 rfl rfl rfl (fun k' hk' d' => d188_48 (f := f) (by omega) hr7 (by omega) hg7200 (hR.rg _ _) hR) (fun m7208 hF7204 hR7209 n7203 k7202 hk7202 => ?_)
    have hX7207 := hX7197.trans (bU_s hF7204)
    exact tJ193_137 (f := f) (by omega) (fun k' h' => hrc k' (by omega)) hc hA hs1 gx2 hr3 (by omega) hm6 hr7 (by omega) hR7209 (fun m' e' => Hr m' (hX7207.trans e')) (fun r' m' e' => Ht r' m' (hX7207.trans e'))
def F193 (f : Nat) (rc : Int → Int → Int → yM → Option ((Int ⊕ Nat) × yM)) (A : Nat) (a1 : Nat) (x2 : Int) (m : yM) : Option ((Unit ⊕ Nat) × yM) := (if 0 ≤ x2 ∧ x2 < ((4 : Nat) : Int) then (bT (F191 f A (m (252 + (x2).toNat) (m a1 3).toNat) m) (fun r7119 m7121 => (bP (F72 f A r7119 (m7121 a1 4) (m7121 a1 8) m7121) (fun r7131 => (if r7131 = (-1) then (some (.inr 13, m7121)) else (if 0 ≤ r7131 ∧ r7131 < ((10 : Nat) : Int) then (bT (F187 f (wr (x2 + 1)) m7121) (fun r7143 m7145 => (if 252 ≤ r7143 ∧ r7143 < 256 then (bU (F188_48 f r7143 (F57 (A + 10 + (r7131).toNat) m7145) (m (252 + (x2).toNat) (m a1 3).toNat) m7145) (fun m7161 => (if 0 < m7161 a1 8 then (bU (F188_48 f r7143 (F87 (A + 10 + (r7131).toNat) 0 m7161) (m7161 (252 + (x2).toNat) (m7161 a1 9).toNat) m7161) (fun m7221 => (J193_111 f rc A a1 x2 (252 + (x2).toNat) (A + 10 + (r7131).toNat) r7143 m7221))) else (J193_111 f rc A a1 x2 (252 + (x2).toNat) (A + 10 + (r7131).toNat) r7143 m7161)))) else none)) (fun e' m7145 => (some (.inr e', m7145)))) else none))))) (fun e' m7121 => (some (.inr e', m7121)))) else none)
set_option maxRecDepth 100000 in
theorem d193 {L : Nat} {xs : Nat → Int32} {k d n : Nat} {c : yS3} {f : Nat} {rc : Int → Int → Int → yM → Option ((Int ⊕ Nat) × yM)} {A : Nat} {a1 : Nat} {x2 : Int} {m : yM} (hk : k ≤ f) (hrc : ∀ k', k' < k → ∀ {d' : Nat} {x1 x2 x3 : Int} {m' : yM} {n' : Nat}, rg x1 → rg x2 → rg x3 → RM c m' → PC (gZ L xs) k' d' 197 [.ref 169, yI x1, yI x2, yI x3] m' n' (qEI (fun e => e = 10 ∨ e = 11 ∨ e = 12 ∨ e = 13) c (rc x1 x2 x3 m'))) (hc : c.2.2 = pX A) (hA : (A = 256 ∨ A = 316)) (hs1 : (276 ≤ a1 ∧ a1 < 316) ∨ (336 ≤ a1 ∧ a1 < 376)) (gx2 : rg x2) (hR : RM c m) : PC (gZ L xs) k d 193 [.ref 169, .ref a1, yI x2] m n (qEV (fun e => e = 10 ∨ e = 11 ∨ e = 12 ∨ e = 13) c (F193 f rc A a1 x2 m)) := by
  have hX : F193 f rc A a1 x2 m = F193 f rc A a1 x2 m := rfl
  have Hr : ∀ m', F193 f rc A a1 x2 m = some (.inl (), m') → RM c m' → ∀ n' : Nat, (qEV (fun e => e = 10 ∨ e = 11 ∨ e = 12 ∨ e = 13) c (F193 f rc A a1 x2 m)) (.inl none) m' n' := fun m' e h n' => Or.inl ⟨rfl, h, e⟩
  have Ht : ∀ e m', F193 f rc A a1 x2 m = some (.inr e, m') → (fun e => e = 10 ∨ e = 11 ∨ e = 12 ∨ e = 13) e → RM c m' → ∀ x n' : Nat, (qEV (fun e => e = 10 ∨ e = 11 ∨ e = 12 ∨ e = 13) c (F193 f rc A a1 x2 m)) (.inr (e, x)) m' n' := fun e m' e1 h1 h2 x n' => Or.inr ⟨e, x, rfl, h1, h2, e1⟩
  refine PC.mk [some (.ref 169), some (.ref a1), some (yI x2), none, none, none, none, none] kn193 rfl ?_
  refine p_aload 1 c193_0 rfl rfl ?_
  refine p_getR 4 c193_1 rfl kf169_3 ?_
  refine p_iload 5 c193_4 rfl rfl ?_
  refine p_aaX 6 c193_5 rfl kr251 gx2 (fun hx7112 => ?_)
  have hX7113 := hX.trans (if_pos hx7112)
  refine p_astore 7 c193_6 rfl rfl ?_
  refine p_aload 8 c193_7 rfl rfl ?_
  refine p_aload 9 c193_8 rfl rfl ?_
  refine p_getX 12 (m a1 3) c193_9 rfl (kS_3 hs1) rfl ?_
  refine p_iaX 13 (m (252 + (x2).toNat) (m a1 3).toNat) c193_12 rfl (kR251 hx7112) (hR.rg _ _) rfl (fun hx7114 => ?_)
  refine p_istore 15 c193_13 rfl rfl ?_
  refine p_aload 16 c193_15 rfl rfl ?_
  refine p_getV 19 (.ref A) c193_16 rfl kf169_4 (pX_of hA hR.2.2.2.2.2 hc) ?_
  refine p_aload 20 c193_19 rfl rfl ?_
  refine p_iload 22 c193_20 rfl rfl ?_
  refine p_cTI 25 [.ref 169, yI (m (252 + (x2).toNat) (m a1 3).toNat)] [.ref A] c193_22 rfl rfl rfl (fun k' hk' d' => d191 (f := f) (by omega) hc hA (hR.rg _ _) hR) (fun r7119 m7121 hF7117 hg7118 hR7122 n7116 k7115 hk7115 => ?_) (fun e' q7126 m7121 n' hF7117 hE7124 hR7125 => ?_)
  · have hX7120 := hX7113.trans (bT_l hF7117)
    refine p_aload 26 c193_25 rfl rfl ?_
    refine p_getX 29 (m7121 a1 4) c193_26 rfl (kS_4 hs1) rfl ?_
    refine p_aload 30 c193_29 rfl rfl ?_
    refine p_getX 33 (m7121 a1 8) c193_30 rfl (kS_8 hs1) rfl ?_
    refine p_cO 36 [.ref A, yI r7119, yI (m7121 a1 4), yI (m7121 a1 8)] [] c193_33 rfl rfl rfl (fun k' hk' d' => d72 (f := f) (by omega) hA hg7118 (hR7122.rg _ _) (hR7122.rg _ _) hR7122) (fun r7131 hF7129 hg7130 n7128 k7127 hk7127 => ?_)
    have hX7132 := hX7120.trans (bP_s hF7129)
    refine p_istore 38 c193_36 rfl rfl ?_
    refine p_iload 40 c193_38 rfl rfl ?_
    refine p_iconst 41 c193_40 rfl ?_
    refine p_icmp 52 44 c193_41 rfl rfl (yc_ne hg7130 (rgD rfl)) (fun hb7133 k7134 hk7134 => ?_) (fun hb7133 k7135 hk7135 => ?_)
    · have hX7136 := hX7132.trans (if_neg hb7133)
      refine p_aload 53 c193_52 rfl rfl ?_
      refine p_getV 56 (.ref A) c193_53 rfl kf169_4 (pX_of hA hR7122.2.2.2.2.2 hc) ?_
      refine p_getR 59 c193_56 rfl (kP_5 hA) ?_
      refine p_iload 61 c193_59 rfl rfl ?_
      refine p_aaX 62 c193_61 rfl (kPr_6 hA) hg7130 (fun hx7137 => ?_)
      have hX7138 := hX7136.trans (if_pos hx7137)
      refine p_astore 64 c193_62 rfl rfl ?_
      refine p_aload 65 c193_64 rfl rfl ?_
      refine p_iload 66 c193_65 rfl rfl ?_
      refine p_iconst 67 c193_66 rfl ?_
      refine p_iadd 68 c193_67 rfl ?_
      refine p_cTA 71 [.ref 169, yI (wr (x2 + 1))] [] c193_68 rfl rfl rfl (fun k' hk' d' => d187 (f := f) (by omega) (rg_wr _) hR7122) (fun r7143 m7145 hF7141 hg7142 hR7146 n7140 k7139 hk7139 => ?_) (fun e' q7150 m7145 n' hF7141 hE7148 hR7149 => ?_)
      · have hX7144 := hX7138.trans (bT_l hF7141)
        have := hg7142.2
        have hX7151 := hX7144.trans (if_pos hg7142.2)
        refine p_astore 73 c193_71 rfl rfl ?_
        refine p_aload 74 c193_73 rfl rfl ?_
        refine p_aload 76 c193_74 rfl rfl ?_
        refine p_aload 78 c193_76 rfl rfl ?_
        refine p_cX 81 [.ref (A + 10 + (r7131).toNat)] [.ref r7143, .ref 169] c193_78 rfl rfl rfl (fun k' hk' d' => d57 (kMr hA hx7137) hR7146) (fun hg7154 n7153 k7152 hk7152 => ?_)
        refine p_iload 83 c193_81 rfl rfl ?_
        refine p_cV 86 [.ref 169, .ref r7143, yI (F57 (A + 10 + (r7131).toNat) m7145), yI (m (252 + (x2).toNat) (m a1 3).toNat)] [] c193_83 rfl rfl rfl (fun k' hk' d' => d188_48 (f := f) (by omega) hg7142.1 (by omega) hg7154 (hR.rg _ _) hR7146) (fun m7161 hF7157 hR7162 n7156 k7155 hk7155 => ?_)
        have hX7160 := hX7151.trans (bU_s hF7157)
        refine p_aload 87 c193_86 rfl rfl ?_
        refine p_getX 90 (m7161 a1 8) c193_87 rfl (kS_8 hs1) rfl ?_
        refine p_if 111 93 c193_90 rfl rfl ((yz_le (hR7162.rg _ _)).trans Int.not_lt.symm) (fun hb7163 k7164 hk7164 => ?_) (fun hb7163 k7165 hk7165 => ?_)
        · have hX7166 := hX7160.trans (if_neg hb7163)
          exact tJ193_111 (f := f) (by omega) (fun k' h' => hrc k' (by omega)) hc hA hs1 gx2 (kR251 hx7112) (by omega) (kMr hA hx7137) hg7142.1 (by omega) hR7162 (fun m' e' => Hr m' (hX7166.trans e')) (fun r' m' e' => Ht r' m' (hX7166.trans e'))
        · have hX7210 := hX7160.trans (if_pos (Classical.not_not.mp hb7163))
          refine p_aload 94 c193_93 rfl rfl ?_
          refine p_aload 96 c193_94 rfl rfl ?_
          refine p_aload 98 c193_96 rfl rfl ?_
          refine p_iconst 99 c193_98 rfl ?_
          refine p_cX 102 [.ref (A + 10 + (r7131).toNat), yI 0] [.ref r7143, .ref 169] c193_99 rfl rfl rfl (fun k' hk' d' => d87 (kMr hA hx7137) (rgD rfl) hR7162) (fun hg7213 n7212 k7211 hk7211 => ?_)
          refine p_aload 103 c193_102 rfl rfl ?_
          refine p_aload 104 c193_103 rfl rfl ?_
          refine p_getX 107 (m7161 a1 9) c193_104 rfl (kS_9 hs1) rfl ?_
          refine p_iaX 108 (m7161 (252 + (x2).toNat) (m7161 a1 9).toNat) c193_107 rfl (kR251 hx7112) (hR7162.rg _ _) rfl (fun hx7214 => ?_)
          refine p_cV 111 [.ref 169, .ref r7143, yI (F87 (A + 10 + (r7131).toNat) 0 m7161), yI (m7161 (252 + (x2).toNat) (m7161 a1 9).toNat)] [] c193_108 rfl rfl rfl (fun k' hk' d' => d188_48 (f := f) (by omega) hg7142.1 (by omega) hg7213 (hR7162.rg _ _) hR7162) (fun m7221 hF7217 hR7222 n7216 k7215 hk7215 => ?_)
          have hX7220 := hX7210.trans (bU_s hF7217)
          exact tJ193_111 (f := f) (by omega) (fun k' h' => hrc k' (by omega)) hc hA hs1 gx2 (kR251 hx7112) (by omega) (kMr hA hx7137) hg7142.1 (by omega) hR7222 (fun m' e' => Hr m' (hX7220.trans e')) (fun r' m' e' => Ht r' m' (hX7220.trans e'))
      · exact ⟨fun pq hpq => absurd ((khm rfl).symm.trans hpq) (by simp), fun _ => Ht e' m7145 (hX7138.trans (bT_r hF7141)) (by have q := hE7148; simp only at q ⊢; omega) hR7149 q7150 n'⟩
    · have hX7223 := hX7132.trans (if_pos (Classical.not_not.mp hb7133))
      exact p_throw c193_44 (fun x n' => Ht _ _ hX7223 (Or.inr (Or.inr (Or.inr rfl))) hR7122 x n')
  · exact ⟨fun pq hpq => absurd ((khm rfl).symm.trans hpq) (by simp), fun _ => Ht e' m7121 (hX7113.trans (bT_r hF7117)) (by have q := hE7124; simp only at q ⊢; omega) hR7125 q7126 n'⟩
def F194 (f : Nat) (A : Nat) (x1 : Int) (x2 : Int) (m : yM) : Option ((Int ⊕ Nat) × yM) := (if x2 = (-1) then (some (.inl x2, m)) else (bT (F191 f A x2 m) (fun r7269 m7271 => (bP (F81 f A r7269 x1 m7271) (fun r7281 => (if r7281 = 0 then (some (.inr 12, m7271)) else (some (.inl x2, m7271)))))) (fun e' m7271 => (some (.inr e', m7271)))))
set_option maxRecDepth 100000 in
theorem d194 {L : Nat} {xs : Nat → Int32} {k d n : Nat} {c : yS3} {f : Nat} {A : Nat} {x1 : Int} {x2 : Int} {m : yM} (hk : k ≤ f) (hc : c.2.2 = pX A) (hA : (A = 256 ∨ A = 316)) (gx1 : rg x1) (gx2 : rg x2) (hR : RM c m) : PC (gZ L xs) k d 194 [.ref 169, yI x1, yI x2] m n (qEI (fun e => e = 11 ∨ e = 12) c (F194 f A x1 x2 m)) := by
  have hX : F194 f A x1 x2 m = F194 f A x1 x2 m := rfl
  have Hr : ∀ r m', F194 f A x1 x2 m = some (.inl r, m') → rg r → RM c m' → ∀ n' : Nat, (qEI (fun e => e = 11 ∨ e = 12) c (F194 f A x1 x2 m)) (.inl (some (yI r))) m' n' := fun r m' e h1 h2 n' => Or.inl ⟨r, rfl, h1, h2, e⟩
  have Ht : ∀ e m', F194 f A x1 x2 m = some (.inr e, m') → (fun e => e = 11 ∨ e = 12) e → RM c m' → ∀ x n' : Nat, (qEI (fun e => e = 11 ∨ e = 12) c (F194 f A x1 x2 m)) (.inr (e, x)) m' n' := fun e m' e1 h1 h2 x n' => Or.inr ⟨e, x, rfl, h1, h2, e1⟩
  refine PC.mk [some (.ref 169), some (yI x1), some (yI x2)] kn194 rfl ?_
  refine p_iload 1 c194_0 rfl rfl ?_
  refine p_iconst 2 c194_1 rfl ?_
  refine p_icmp 29 5 c194_2 rfl rfl (yc_eq gx2 (rgD rfl)) (fun hb7260 k7261 hk7261 => ?_) (fun hb7260 k7262 hk7262 => ?_)
  · have hX7263 := hX.trans (if_pos hb7260)
    refine p_iload 30 c194_29 rfl rfl ?_
    exact p_ireturn c194_30 (Hr _ _ hX7263 gx2 hR _)
  · have hX7264 := hX.trans (if_neg hb7260)
    refine p_aload 6 c194_5 rfl rfl ?_
    refine p_getV 9 (.ref A) c194_6 rfl kf169_4 (pX_of hA hR.2.2.2.2.2 hc) ?_
    refine p_aload 10 c194_9 rfl rfl ?_
    refine p_iload 11 c194_10 rfl rfl ?_
    refine p_cTI 14 [.ref 169, yI x2] [.ref A] c194_11 rfl rfl rfl (fun k' hk' d' => d191 (f := f) (by omega) hc hA gx2 hR) (fun r7269 m7271 hF7267 hg7268 hR7272 n7266 k7265 hk7265 => ?_) (fun e' q7276 m7271 n' hF7267 hE7274 hR7275 => ?_)
    · have hX7270 := hX7264.trans (bT_l hF7267)
      refine p_iload 15 c194_14 rfl rfl ?_
      refine p_cO 18 [.ref A, yI r7269, yI x1] [] c194_15 rfl rfl rfl (fun k' hk' d' => d81 (f := f) (by omega) hA hg7268 gx1 hR7272) (fun r7281 hF7279 hg7280 n7278 k7277 hk7277 => ?_)
      have hX7282 := hX7270.trans (bP_s hF7279)
      refine p_if 29 21 c194_18 rfl rfl (yz_ne hg7280) (fun hb7283 k7284 hk7284 => ?_) (fun hb7283 k7285 hk7285 => ?_)
      · have hX7286 := hX7282.trans (if_neg hb7283)
        refine p_iload 30 c194_29 rfl rfl ?_
        exact p_ireturn c194_30 (Hr _ _ hX7286 gx2 hR7272 _)
      · have hX7287 := hX7282.trans (if_pos (Classical.not_not.mp hb7283))
        exact p_throw c194_21 (fun x n' => Ht _ _ hX7287 (Or.inr rfl) hR7272 x n')
    · exact ⟨fun pq hpq => absurd ((khm rfl).symm.trans hpq) (by simp), fun _ => Ht e' m7271 (hX7264.trans (bT_r hF7267)) (by have q := hE7274; simp only at q ⊢; omega) hR7275 q7276 n'⟩
def F195_48 (f : Nat) (A : Nat) (a1 : Nat) (a2 : Nat) (m : yM) : Option ((Int ⊕ Nat) × yM) := (if m a1 0 = 5 then (bT (F186 f (m a1 6) m) (fun r7243 m7245 => (some (.inl r7243, m7245))) (fun e' m7245 => (some (.inr e', m7245)))) else (if m a1 0 = 6 then (some (.inl ((-1)), m)) else (if m a1 0 = 7 then (bT (F194 f A (m a1 7) (m a2 (m a1 3).toNat) m) (fun r7290 m7292 => (some (.inl r7290, m7292))) (fun e' m7292 => (some (.inr e', m7292)))) else (if m a1 0 = 8 then (some (.inl (m a2 (m a1 3).toNat), m)) else (if m a1 0 = 9 then (bT (F192 f A (m a2 (m a1 3).toNat) (m a1 6) m) (fun r7310 m7312 => (if 0 ≤ r7310 ∧ r7310 < ((30 : Nat) : Int) then (some (.inl (m7312 (221 + (r7310).toNat) (m7312 a1 6).toNat), m7312)) else none)) (fun e' m7312 => (some (.inr e', m7312)))) else (some (.inl ((-1)), m)))))))
set_option maxRecDepth 100000 in
theorem d195_48 {L : Nat} {xs : Nat → Int32} {k d n : Nat} {c : yS3} {f : Nat} {A : Nat} {a1 : Nat} {a2 : Nat} {m : yM} (hk : k ≤ f) (hc : c.2.2 = pX A) (hA : (A = 256 ∨ A = 316)) (hs1 : (276 ≤ a1 ∧ a1 < 316) ∨ (336 ≤ a1 ∧ a1 < 376)) (hr2 : yarr gSh 414 a2 = some (0, 48)) (hq2 : (252 ≤ a2 ∧ a2 < 256)) (hR : RM c m) : PC (gZ L xs) k d 195 [.ref 169, .ref a1, .ref a2] m n (qEI (fun e => e = 10 ∨ e = 11 ∨ e = 12 ∨ e = 13) c (F195_48 f A a1 a2 m)) := by
  have hX : F195_48 f A a1 a2 m = F195_48 f A a1 a2 m := rfl
  have Hr : ∀ r m', F195_48 f A a1 a2 m = some (.inl r, m') → rg r → RM c m' → ∀ n' : Nat, (qEI (fun e => e = 10 ∨ e = 11 ∨ e = 12 ∨ e = 13) c (F195_48 f A a1 a2 m)) (.inl (some (yI r))) m' n' := fun r m' e h1 h2 n' => Or.inl ⟨r, rfl, h1, h2, e⟩
  have Ht : ∀ e m', F195_48 f A a1 a2 m = some (.inr e, m') → (fun e => e = 10 ∨ e = 11 ∨ e = 12 ∨ e = 13) e → RM c m' → ∀ x n' : Nat, (qEI (fun e => e = 10 ∨ e = 11 ∨ e = 12 ∨ e = 13) c (F195_48 f A a1 a2 m)) (.inr (e, x)) m' n' := fun e m' e1 h1 h2 x n' => Or.inr ⟨e, x, rfl, h1, h2, e1⟩
  refine PC.mk [some (.ref 169), some (.ref a1), some (.ref a2)] kn195 rfl ?_
  refine p_aload 1 c195_0 rfl rfl ?_
  refine p_getX 4 (m a1 0) c195_1 rfl (kS_0 hs1) rfl ?_
  by_cases hk7237 : m a1 0 = 5
  · have hX7238 := hX.trans (if_pos hk7237)
    refine p_top 5 hk7237 ?_
    refine p_tsw 40 c195_4 (rgD rfl) (by decide) rfl rfl ?_
    refine p_aload 41 c195_40 rfl rfl ?_
    refine p_aload 42 c195_41 rfl rfl ?_
    refine p_getX 45 (m a1 6) c195_42 rfl (kS_6 hs1) rfl ?_
    refine p_cTI 48 [.ref 169, yI (m a1 6)] [] c195_45 rfl rfl rfl (fun k' hk' d' => d186 (f := f) (by omega) (hR.rg _ _) hR) (fun r7243 m7245 hF7241 hg7242 hR7246 n7240 k7239 hk7239 => ?_) (fun e' q7250 m7245 n' hF7241 hE7248 hR7249 => ?_)
    · have hX7244 := hX7238.trans (bT_l hF7241)
      exact p_ireturn c195_48 (Hr _ _ hX7244 hg7242 hR7246 _)
    · exact ⟨fun pq hpq => absurd ((khm rfl).symm.trans hpq) (by simp), fun _ => Ht e' m7245 (hX7238.trans (bT_r hF7241)) (by have q := hE7248; simp only at q ⊢; omega) hR7249 q7250 n'⟩
  have hX7251 := hX.trans (if_neg hk7237)
  by_cases hk7252 : m a1 0 = 6
  · have hX7253 := hX7251.trans (if_pos hk7252)
    refine p_top 6 hk7252 ?_
    refine p_tsw 96 c195_4 (rgD rfl) (by decide) rfl rfl ?_
    refine p_iconst 97 c195_96 rfl ?_
    exact p_ireturn c195_97 (Hr _ _ hX7253 (rgD rfl) hR _)
  have hX7254 := hX7251.trans (if_neg hk7252)
  by_cases hk7255 : m a1 0 = 7
  · have hX7256 := hX7254.trans (if_pos hk7255)
    refine p_top 7 hk7255 ?_
    refine p_tsw 49 c195_4 (rgD rfl) (by decide) rfl rfl ?_
    refine p_aload 50 c195_49 rfl rfl ?_
    refine p_aload 51 c195_50 rfl rfl ?_
    refine p_getX 54 (m a1 7) c195_51 rfl (kS_7 hs1) rfl ?_
    refine p_aload 55 c195_54 rfl rfl ?_
    refine p_aload 56 c195_55 rfl rfl ?_
    refine p_getX 59 (m a1 3) c195_56 rfl (kS_3 hs1) rfl ?_
    refine p_iaX 60 (m a2 (m a1 3).toNat) c195_59 rfl hr2 (hR.rg _ _) rfl (fun hx7257 => ?_)
    refine p_cTI 63 [.ref 169, yI (m a1 7), yI (m a2 (m a1 3).toNat)] [] c195_60 rfl rfl rfl (fun k' hk' d' => d194 (f := f) (by omega) hc hA (hR.rg _ _) (hR.rg _ _) hR) (fun r7290 m7292 hF7288 hg7289 hR7293 n7259 k7258 hk7258 => ?_) (fun e' q7297 m7292 n' hF7288 hE7295 hR7296 => ?_)
    · have hX7291 := hX7256.trans (bT_l hF7288)
      exact p_ireturn c195_63 (Hr _ _ hX7291 hg7289 hR7293 _)
    · exact ⟨fun pq hpq => absurd ((khm rfl).symm.trans hpq) (by simp), fun _ => Ht e' m7292 (hX7256.trans (bT_r hF7288)) (by have q := hE7295; simp only at q ⊢; omega) hR7296 q7297 n'⟩
  have hX7298 := hX7254.trans (if_neg hk7255)
  by_cases hk7299 : m a1 0 = 8
  · have hX7300 := hX7298.trans (if_pos hk7299)
    refine p_top 8 hk7299 ?_
    refine p_tsw 64 c195_4 (rgD rfl) (by decide) rfl rfl ?_
    refine p_aload 65 c195_64 rfl rfl ?_
    refine p_aload 66 c195_65 rfl rfl ?_
    refine p_getX 69 (m a1 3) c195_66 rfl (kS_3 hs1) rfl ?_
    refine p_iaX 70 (m a2 (m a1 3).toNat) c195_69 rfl hr2 (hR.rg _ _) rfl (fun hx7301 => ?_)
    exact p_ireturn c195_70 (Hr _ _ hX7300 (hR.rg _ _) hR _)
  have hX7302 := hX7298.trans (if_neg hk7299)
  by_cases hk7303 : m a1 0 = 9
  · have hX7304 := hX7302.trans (if_pos hk7303)
    refine p_top 9 hk7303 ?_
    refine p_tsw 71 c195_4 (rgD rfl) (by decide) rfl rfl ?_
    refine p_aload 72 c195_71 rfl rfl ?_
    refine p_getR 75 c195_72 rfl kf169_2 ?_
    refine p_aload 76 c195_75 rfl rfl ?_
    refine p_aload 77 c195_76 rfl rfl ?_
    refine p_aload 78 c195_77 rfl rfl ?_
    refine p_getX 81 (m a1 3) c195_78 rfl (kS_3 hs1) rfl ?_
    refine p_iaX 82 (m a2 (m a1 3).toNat) c195_81 rfl hr2 (hR.rg _ _) rfl (fun hx7305 => ?_)
    refine p_aload 83 c195_82 rfl rfl ?_
    refine p_getX 86 (m a1 6) c195_83 rfl (kS_6 hs1) rfl ?_
    refine p_cTI 89 [.ref 169, yI (m a2 (m a1 3).toNat), yI (m a1 6)] [.ref 220] c195_86 rfl rfl rfl (fun k' hk' d' => d192 (f := f) (by omega) hc hA (hR.rg _ _) (hR.rg _ _) hR) (fun r7310 m7312 hF7308 hg7309 hR7313 n7307 k7306 hk7306 => ?_) (fun e' q7317 m7312 n' hF7308 hE7315 hR7316 => ?_)
    · have hX7311 := hX7304.trans (bT_l hF7308)
      refine p_aaX 90 c195_89 rfl kr220 hg7309 (fun hx7318 => ?_)
      have hX7319 := hX7311.trans (if_pos hx7318)
      refine p_aload 91 c195_90 rfl rfl ?_
      refine p_getX 94 (m7312 a1 6) c195_91 rfl (kS_6 hs1) rfl ?_
      refine p_iaX 95 (m7312 (221 + (r7310).toNat) (m7312 a1 6).toNat) c195_94 rfl (kR220 hx7318) (hR7313.rg _ _) rfl (fun hx7320 => ?_)
      exact p_ireturn c195_95 (Hr _ _ hX7319 (hR7313.rg _ _) hR7313 _)
    · exact ⟨fun pq hpq => absurd ((khm rfl).symm.trans hpq) (by simp), fun _ => Ht e' m7312 (hX7304.trans (bT_r hF7308)) (by have q := hE7315; simp only at q ⊢; omega) hR7316 q7317 n'⟩
  have hX7321 := hX7302.trans (if_neg hk7303)
  refine p_tswd 96 c195_4 (hR.rg _ _) (by omega) rfl ?_
  refine p_iconst 97 c195_96 rfl ?_
  exact p_ireturn c195_97 (Hr _ _ hX7321 (rgD rfl) hR _)
def F196 (f : Nat) (rc : Int → Int → Int → yM → Option ((Int ⊕ Nat) × yM)) (A : Nat) (x1 : Int) (x2 : Int) (m : yM) : Option ((Int ⊕ Nat) × yM) := (bT (F189 f m) (fun _ m6936 => (if 0 ≤ x1 ∧ x1 < ((40 : Nat) : Int) then (if 0 ≤ x2 ∧ x2 < ((4 : Nat) : Int) then (if m6936 (A + 20 + (x1).toNat) 0 = 0 then (if m6936 (252 + (x2).toNat) (m6936 (A + 20 + (x1).toNat) 3).toNat = (-1) then (bT (rc (m6936 (A + 20 + (x1).toNat) 11) (m6936 (A + 20 + (x1).toNat) 12) x2 m6936) (fun r6957 m6959 => (some (.inl r6957, m6959))) (fun e' m6959 => (some (.inr e', m6959)))) else (bT (rc (wr (x1 + 1)) (m6936 (A + 20 + (x1).toNat) 11) x2 m6936) (fun r6970 m6972 => (some (.inl r6970, m6972))) (fun e' m6972 => (some (.inr e', m6972))))) else (if m6936 (A + 20 + (x1).toNat) 0 = 1 then (bT (F190 f rc A x1 x2 m6936) (fun r7039 m7041 => (some (.inl r7039, m7041))) (fun e' m7041 => (some (.inr e', m7041)))) else (if m6936 (A + 20 + (x1).toNat) 0 = 2 then (bU (F188_48 f (252 + (x2).toNat) (m6936 (A + 20 + (x1).toNat) 2) (m6936 (252 + (x2).toNat) (m6936 (A + 20 + (x1).toNat) 3).toNat) m6936) (fun m7057 => (some (.inl 1, m7057)))) else (if m6936 (A + 20 + (x1).toNat) 0 = 3 then (bT (F192 f A (m6936 (252 + (x2).toNat) (m6936 (A + 20 + (x1).toNat) 2).toNat) (m6936 (A + 20 + (x1).toNat) 6) m6936) (fun r7094 m7096 => (if 0 ≤ r7094 ∧ r7094 < ((30 : Nat) : Int) then (some (.inl 0, yup m7096 (221 + (r7094).toNat) (m7096 (A + 20 + (x1).toNat) 6).toNat (m7096 (252 + (x2).toNat) (m7096 (A + 20 + (x1).toNat) 3).toNat))) else none)) (fun e' m7096 => (some (.inr e', m7096)))) else (if m6936 (A + 20 + (x1).toNat) 0 = 4 then (bT (F193 f rc A (A + 20 + (x1).toNat) x2 m6936) (fun _ m7228 => (some (.inl 0, m7228))) (fun e' m7228 => (some (.inr e', m7228)))) else (bT (F195_48 f A (A + 20 + (x1).toNat) (252 + (x2).toNat) m6936) (fun r7324 m7326 => (bU (F188_48 f (252 + (x2).toNat) (m6936 (A + 20 + (x1).toNat) 2) r7324 m7326) (fun m7338 => (some (.inl 0, m7338))))) (fun e' m7326 => (some (.inr e', m7326))))))))) else none) else none)) (fun e' m6936 => (some (.inr e', m6936))))
set_option maxRecDepth 100000 in
theorem d196 {L : Nat} {xs : Nat → Int32} {k d n : Nat} {c : yS3} {f : Nat} {rc : Int → Int → Int → yM → Option ((Int ⊕ Nat) × yM)} {A : Nat} {x1 : Int} {x2 : Int} {m : yM} (hk : k ≤ f) (hrc : ∀ k', k' < k → ∀ {d' : Nat} {x1 x2 x3 : Int} {m' : yM} {n' : Nat}, rg x1 → rg x2 → rg x3 → RM c m' → PC (gZ L xs) k' d' 197 [.ref 169, yI x1, yI x2, yI x3] m' n' (qEI (fun e => e = 10 ∨ e = 11 ∨ e = 12 ∨ e = 13) c (rc x1 x2 x3 m'))) (hc : c.2.2 = pX A) (hA : (A = 256 ∨ A = 316)) (gx1 : rg x1) (gx2 : rg x2) (hR : RM c m) : PC (gZ L xs) k d 196 [.ref 169, yI x1, yI x2] m n (qEI (fun e => e = 10 ∨ e = 11 ∨ e = 12 ∨ e = 13) c (F196 f rc A x1 x2 m)) := by
  have hX : F196 f rc A x1 x2 m = F196 f rc A x1 x2 m := rfl
  have Hr : ∀ r m', F196 f rc A x1 x2 m = some (.inl r, m') → rg r → RM c m' → ∀ n' : Nat, (qEI (fun e => e = 10 ∨ e = 11 ∨ e = 12 ∨ e = 13) c (F196 f rc A x1 x2 m)) (.inl (some (yI r))) m' n' := fun r m' e h1 h2 n' => Or.inl ⟨r, rfl, h1, h2, e⟩
  have Ht : ∀ e m', F196 f rc A x1 x2 m = some (.inr e, m') → (fun e => e = 10 ∨ e = 11 ∨ e = 12 ∨ e = 13) e → RM c m' → ∀ x n' : Nat, (qEI (fun e => e = 10 ∨ e = 11 ∨ e = 12 ∨ e = 13) c (F196 f rc A x1 x2 m)) (.inr (e, x)) m' n' := fun e m' e1 h1 h2 x n' => Or.inr ⟨e, x, rfl, h1, h2, e1⟩
  refine PC.mk [some (.ref 169), some (yI x1), some (yI x2), none, none] kn196 rfl ?_
  refine p_aload 1 c196_0 rfl rfl ?_
  refine p_cTV 4 [.ref 169] [] c196_1 rfl rfl rfl (fun k' hk' d' => d189 (f := f) (by omega) hR) (fun m6936 hF6932 hR6937 n6925 k6924 hk6924 => ?_) (fun e' q6941 m6936 n' hF6932 hE6939 hR6940 => ?_)
  · have hX6935 := hX.trans (bT_l hF6932)
    refine p_aload 5 c196_4 rfl rfl ?_
    refine p_getV 8 (.ref A) c196_5 rfl kf169_4 (pX_of hA hR6937.2.2.2.2.2 hc) ?_
    refine p_getR 11 c196_8 rfl (kP_6 hA) ?_
    refine p_iload 12 c196_11 rfl rfl ?_
    refine p_aaX 13 c196_12 rfl (kPr_7 hA) gx1 (fun hx6942 => ?_)
    have hX6943 := hX6935.trans (if_pos hx6942)
    refine p_astore 14 c196_13 rfl rfl ?_
    refine p_aload 15 c196_14 rfl rfl ?_
    refine p_getR 18 c196_15 rfl kf169_3 ?_
    refine p_iload 19 c196_18 rfl rfl ?_
    refine p_aaX 20 c196_19 rfl kr251 gx2 (fun hx6944 => ?_)
    have hX6945 := hX6943.trans (if_pos hx6944)
    refine p_astore 22 c196_20 rfl rfl ?_
    refine p_aload 23 c196_22 rfl rfl ?_
    refine p_getX 26 (m6936 (A + 20 + (x1).toNat) 0) c196_23 rfl (kS_0 (kSr hA hx6942)) rfl ?_
    by_cases hk6946 : m6936 (A + 20 + (x1).toNat) 0 = 0
    · have hX6947 := hX6945.trans (if_pos hk6946)
      refine p_top 0 hk6946 ?_
      refine p_tsw 60 c196_26 (rgD rfl) (by decide) rfl rfl ?_
      refine p_aload 62 c196_60 rfl rfl ?_
      refine p_aload 63 c196_62 rfl rfl ?_
      refine p_getX 66 (m6936 (A + 20 + (x1).toNat) 3) c196_63 rfl (kS_3 (kSr hA hx6942)) rfl ?_
      refine p_iaX 67 (m6936 (252 + (x2).toNat) (m6936 (A + 20 + (x1).toNat) 3).toNat) c196_66 rfl (kR251 hx6944) (hR6937.rg _ _) rfl (fun hx6948 => ?_)
      refine p_iconst 68 c196_67 rfl ?_
      refine p_icmp 86 71 c196_68 rfl rfl (yc_eq (hR6937.rg _ _) (rgD rfl)) (fun hb6949 k6950 hk6950 => ?_) (fun hb6949 k6951 hk6951 => ?_)
      · have hX6952 := hX6947.trans (if_pos hb6949)
        refine p_aload 87 c196_86 rfl rfl ?_
        refine p_aload 88 c196_87 rfl rfl ?_
        refine p_getX 91 (m6936 (A + 20 + (x1).toNat) 11) c196_88 rfl (kS_11 (kSr hA hx6942)) rfl ?_
        refine p_aload 92 c196_91 rfl rfl ?_
        refine p_getX 95 (m6936 (A + 20 + (x1).toNat) 12) c196_92 rfl (kS_12 (kSr hA hx6942)) rfl ?_
        refine p_iload 96 c196_95 rfl rfl ?_
        refine p_cTI 99 [.ref 169, yI (m6936 (A + 20 + (x1).toNat) 11), yI (m6936 (A + 20 + (x1).toNat) 12), yI x2] [] c196_96 rfl rfl rfl (fun k' hk' d' => hrc k' (by omega) (hR6937.rg _ _) (hR6937.rg _ _) gx2 hR6937) (fun r6957 m6959 hF6955 hg6956 hR6960 n6954 k6953 hk6953 => ?_) (fun e' q6964 m6959 n' hF6955 hE6962 hR6963 => ?_)
        · have hX6958 := hX6952.trans (bT_l hF6955)
          exact p_ireturn c196_99 (Hr _ _ hX6958 hg6956 hR6960 _)
        · exact ⟨fun pq hpq => absurd ((khm rfl).symm.trans hpq) (by simp), fun _ => Ht e' m6959 (hX6952.trans (bT_r hF6955)) hE6962 hR6963 q6964 n'⟩
      · have hX6965 := hX6947.trans (if_neg hb6949)
        refine p_aload 72 c196_71 rfl rfl ?_
        refine p_iload 73 c196_72 rfl rfl ?_
        refine p_iconst 74 c196_73 rfl ?_
        refine p_iadd 75 c196_74 rfl ?_
        refine p_aload 76 c196_75 rfl rfl ?_
        refine p_getX 79 (m6936 (A + 20 + (x1).toNat) 11) c196_76 rfl (kS_11 (kSr hA hx6942)) rfl ?_
        refine p_iload 80 c196_79 rfl rfl ?_
        refine p_cTI 83 [.ref 169, yI (wr (x1 + 1)), yI (m6936 (A + 20 + (x1).toNat) 11), yI x2] [] c196_80 rfl rfl rfl (fun k' hk' d' => hrc k' (by omega) (rg_wr _) (hR6937.rg _ _) gx2 hR6937) (fun r6970 m6972 hF6968 hg6969 hR6973 n6967 k6966 hk6966 => ?_) (fun e' q6977 m6972 n' hF6968 hE6975 hR6976 => ?_)
        · have hX6971 := hX6965.trans (bT_l hF6968)
          refine p_goto 99 c196_83 rfl ?_
          exact p_ireturn c196_99 (Hr _ _ hX6971 hg6969 hR6973 _)
        · exact ⟨fun pq hpq => absurd ((khm rfl).symm.trans hpq) (by simp), fun _ => Ht e' m6972 (hX6965.trans (bT_r hF6968)) hE6975 hR6976 q6977 n'⟩
    have hX6978 := hX6945.trans (if_neg hk6946)
    by_cases hk6979 : m6936 (A + 20 + (x1).toNat) 0 = 1
    · have hX6980 := hX6978.trans (if_pos hk6979)
      refine p_top 1 hk6979 ?_
      refine p_tsw 100 c196_26 (rgD rfl) (by decide) rfl rfl ?_
      refine p_aload 101 c196_100 rfl rfl ?_
      refine p_iload 102 c196_101 rfl rfl ?_
      refine p_iload 103 c196_102 rfl rfl ?_
      refine p_cTI 106 [.ref 169, yI x1, yI x2] [] c196_103 rfl rfl rfl (fun k' hk' d' => d190 (f := f) (by omega) (fun k' h' => hrc k' (by omega)) hc hA gx1 gx2 hR6937) (fun r7039 m7041 hF7037 hg7038 hR7042 n6982 k6981 hk6981 => ?_) (fun e' q7046 m7041 n' hF7037 hE7044 hR7045 => ?_)
      · have hX7040 := hX6980.trans (bT_l hF7037)
        exact p_ireturn c196_106 (Hr _ _ hX7040 hg7038 hR7042 _)
      · exact ⟨fun pq hpq => absurd ((khm rfl).symm.trans hpq) (by simp), fun _ => Ht e' m7041 (hX6980.trans (bT_r hF7037)) hE7044 hR7045 q7046 n'⟩
    have hX7047 := hX6978.trans (if_neg hk6979)
    by_cases hk7048 : m6936 (A + 20 + (x1).toNat) 0 = 2
    · have hX7049 := hX7047.trans (if_pos hk7048)
      refine p_top 2 hk7048 ?_
      refine p_tsw 107 c196_26 (rgD rfl) (by decide) rfl rfl ?_
      refine p_aload 108 c196_107 rfl rfl ?_
      refine p_aload 110 c196_108 rfl rfl ?_
      refine p_aload 111 c196_110 rfl rfl ?_
      refine p_getX 114 (m6936 (A + 20 + (x1).toNat) 2) c196_111 rfl (kS_2 (kSr hA hx6942)) rfl ?_
      refine p_aload 116 c196_114 rfl rfl ?_
      refine p_aload 117 c196_116 rfl rfl ?_
      refine p_getX 120 (m6936 (A + 20 + (x1).toNat) 3) c196_117 rfl (kS_3 (kSr hA hx6942)) rfl ?_
      refine p_iaX 121 (m6936 (252 + (x2).toNat) (m6936 (A + 20 + (x1).toNat) 3).toNat) c196_120 rfl (kR251 hx6944) (hR6937.rg _ _) rfl (fun hx7050 => ?_)
      refine p_cV 124 [.ref 169, .ref (252 + (x2).toNat), yI (m6936 (A + 20 + (x1).toNat) 2), yI (m6936 (252 + (x2).toNat) (m6936 (A + 20 + (x1).toNat) 3).toNat)] [] c196_121 rfl rfl rfl (fun k' hk' d' => d188_48 (f := f) (by omega) (kR251 hx6944) (by omega) (hR6937.rg _ _) (hR6937.rg _ _) hR6937) (fun m7057 hF7053 hR7058 n7052 k7051 hk7051 => ?_)
      have hX7056 := hX7049.trans (bU_s hF7053)
      refine p_iconst 125 c196_124 rfl ?_
      exact p_ireturn c196_125 (Hr _ _ hX7056 (rgD rfl) hR7058 _)
    have hX7059 := hX7047.trans (if_neg hk7048)
    by_cases hk7060 : m6936 (A + 20 + (x1).toNat) 0 = 3
    · have hX7061 := hX7059.trans (if_pos hk7060)
      refine p_top 3 hk7060 ?_
      refine p_tsw 126 c196_26 (rgD rfl) (by decide) rfl rfl ?_
      refine p_aload 127 c196_126 rfl rfl ?_
      refine p_getR 130 c196_127 rfl kf169_2 ?_
      refine p_aload 131 c196_130 rfl rfl ?_
      refine p_aload 133 c196_131 rfl rfl ?_
      refine p_aload 134 c196_133 rfl rfl ?_
      refine p_getX 137 (m6936 (A + 20 + (x1).toNat) 2) c196_134 rfl (kS_2 (kSr hA hx6942)) rfl ?_
      refine p_iaX 138 (m6936 (252 + (x2).toNat) (m6936 (A + 20 + (x1).toNat) 2).toNat) c196_137 rfl (kR251 hx6944) (hR6937.rg _ _) rfl (fun hx7062 => ?_)
      refine p_aload 139 c196_138 rfl rfl ?_
      refine p_getX 142 (m6936 (A + 20 + (x1).toNat) 6) c196_139 rfl (kS_6 (kSr hA hx6942)) rfl ?_
      refine p_cTI 145 [.ref 169, yI (m6936 (252 + (x2).toNat) (m6936 (A + 20 + (x1).toNat) 2).toNat), yI (m6936 (A + 20 + (x1).toNat) 6)] [.ref 220] c196_142 rfl rfl rfl (fun k' hk' d' => d192 (f := f) (by omega) hc hA (hR6937.rg _ _) (hR6937.rg _ _) hR6937) (fun r7094 m7096 hF7092 hg7093 hR7097 n7064 k7063 hk7063 => ?_) (fun e' q7101 m7096 n' hF7092 hE7099 hR7100 => ?_)
      · have hX7095 := hX7061.trans (bT_l hF7092)
        refine p_aaX 146 c196_145 rfl kr220 hg7093 (fun hx7102 => ?_)
        have hX7103 := hX7095.trans (if_pos hx7102)
        refine p_aload 147 c196_146 rfl rfl ?_
        refine p_getX 150 (m7096 (A + 20 + (x1).toNat) 6) c196_147 rfl (kS_6 (kSr hA hx6942)) rfl ?_
        refine p_aload 152 c196_150 rfl rfl ?_
        refine p_aload 153 c196_152 rfl rfl ?_
        refine p_getX 156 (m7096 (A + 20 + (x1).toNat) 3) c196_153 rfl (kS_3 (kSr hA hx6942)) rfl ?_
        refine p_iaX 157 (m7096 (252 + (x2).toNat) (m7096 (A + 20 + (x1).toNat) 3).toNat) c196_156 rfl (kR251 hx6944) (hR7097.rg _ _) rfl (fun hx7104 => ?_)
        refine p_iaS 158 c196_157 rfl (kR220 hx7102) (hR7097.rg _ _) (m7096 (252 + (x2).toNat) (m7096 (A + 20 + (x1).toNat) 3).toNat) (nar0 (hR7097.rg _ _)) (fun hx7105 => ?_)
        have hR7106 := hR7097.up (221 + (r7094).toNat) (m7096 (A + 20 + (x1).toNat) 6).toNat (v := m7096 (252 + (x2).toNat) (m7096 (A + 20 + (x1).toNat) 3).toNat) (nselA (by omega)) (hR7097.rg _ _)
        refine p_iconst 159 c196_158 rfl ?_
        exact p_ireturn c196_159 (Hr _ _ hX7103 (rgD rfl) hR7106 _)
      · exact ⟨fun pq hpq => absurd ((khm rfl).symm.trans hpq) (by simp), fun _ => Ht e' m7096 (hX7061.trans (bT_r hF7092)) (by have q := hE7099; simp only at q ⊢; omega) hR7100 q7101 n'⟩
    have hX7107 := hX7059.trans (if_neg hk7060)
    by_cases hk7108 : m6936 (A + 20 + (x1).toNat) 0 = 4
    · have hX7109 := hX7107.trans (if_pos hk7108)
      refine p_top 4 hk7108 ?_
      refine p_tsw 160 c196_26 (rgD rfl) (by decide) rfl rfl ?_
      refine p_aload 161 c196_160 rfl rfl ?_
      refine p_aload 162 c196_161 rfl rfl ?_
      refine p_iload 163 c196_162 rfl rfl ?_
      refine p_cTV 166 [.ref 169, .ref (A + 20 + (x1).toNat), yI x2] [] c196_163 rfl rfl rfl (fun k' hk' d' => d193 (f := f) (by omega) (fun k' h' => hrc k' (by omega)) hc hA (kSr hA hx6942) gx2 hR6937) (fun m7228 hF7224 hR7229 n7111 k7110 hk7110 => ?_) (fun e' q7233 m7228 n' hF7224 hE7231 hR7232 => ?_)
      · have hX7227 := hX7109.trans (bT_l hF7224)
        refine p_iconst 167 c196_166 rfl ?_
        exact p_ireturn c196_167 (Hr _ _ hX7227 (rgD rfl) hR7229 _)
      · exact ⟨fun pq hpq => absurd ((khm rfl).symm.trans hpq) (by simp), fun _ => Ht e' m7228 (hX7109.trans (bT_r hF7224)) hE7231 hR7232 q7233 n'⟩
    have hX7234 := hX7107.trans (if_neg hk7108)
    refine p_tswd 168 c196_26 (hR6937.rg _ _) (by omega) rfl ?_
    refine p_aload 169 c196_168 rfl rfl ?_
    refine p_aload 171 c196_169 rfl rfl ?_
    refine p_aload 172 c196_171 rfl rfl ?_
    refine p_getX 175 (m6936 (A + 20 + (x1).toNat) 2) c196_172 rfl (kS_2 (kSr hA hx6942)) rfl ?_
    refine p_aload 176 c196_175 rfl rfl ?_
    refine p_aload 177 c196_176 rfl rfl ?_
    refine p_aload 179 c196_177 rfl rfl ?_
    refine p_cTI 182 [.ref 169, .ref (A + 20 + (x1).toNat), .ref (252 + (x2).toNat)] [yI (m6936 (A + 20 + (x1).toNat) 2), .ref (252 + (x2).toNat), .ref 169] c196_179 rfl rfl rfl (fun k' hk' d' => d195_48 (f := f) (by omega) hc hA (kSr hA hx6942) (kR251 hx6944) (by omega) hR6937) (fun r7324 m7326 hF7322 hg7323 hR7327 n7236 k7235 hk7235 => ?_) (fun e' q7331 m7326 n' hF7322 hE7329 hR7330 => ?_)
    · have hX7325 := hX7234.trans (bT_l hF7322)
      refine p_cV 185 [.ref 169, .ref (252 + (x2).toNat), yI (m6936 (A + 20 + (x1).toNat) 2), yI r7324] [] c196_182 rfl rfl rfl (fun k' hk' d' => d188_48 (f := f) (by omega) (kR251 hx6944) (by omega) (hR6937.rg _ _) hg7323 hR7327) (fun m7338 hF7334 hR7339 n7333 k7332 hk7332 => ?_)
      have hX7337 := hX7325.trans (bU_s hF7334)
      refine p_iconst 186 c196_185 rfl ?_
      exact p_ireturn c196_186 (Hr _ _ hX7337 (rgD rfl) hR7339 _)
    · exact ⟨fun pq hpq => absurd ((khm rfl).symm.trans hpq) (by simp), fun _ => Ht e' m7326 (hX7234.trans (bT_r hF7322)) hE7329 hR7330 q7331 n'⟩
  · exact ⟨fun pq hpq => absurd ((khm rfl).symm.trans hpq) (by simp), fun _ => Ht e' m6936 (hX.trans (bT_r hF6932)) (by have q := hE6939; simp only at q ⊢; omega) hR6940 q6941 n'⟩
