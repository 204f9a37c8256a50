/-! FUNCTIONS OF THE METHODS: printed by wip/fn/dc.py -/
def F183 (f : Nat) (x1 : Int) (x2 : Int) (m : yM) : Option ((Int ⊕ Nat) × yM) := (if F167 x1 m = 0 then (some (.inr 11, m)) else (if 0 ≤ x1 ∧ x1 < ((10 : Nat) : Int) then (if x2 = 0 then (some (.inl (m ((pA (m 0 4)) + 10 + (x1).toNat) 2), m)) else (if x2 = 1 then (some (.inl (F57 ((pA (m 0 4)) + 10 + (x1).toNat) m), m)) else (if x2 = 2 then (some (.inl (F87 ((pA (m 0 4)) + 10 + (x1).toNat) 0 m), m)) else (if x2 = 3 then (some (.inl (F87 ((pA (m 0 4)) + 10 + (x1).toNat) 1 m), m)) else (if x2 = 4 then (some (.inl (m ((pA (m 0 4)) + 10 + (x1).toNat) 1), m)) else (some (.inr 9, m))))))) else none))
set_option maxRecDepth 100000 in
theorem d183 {L : Nat} {xs : Nat → Int32} {k d n : Nat} {c : yS3} {f : Nat} {x1 : Int} {x2 : Int} {m : yM} (hk : k ≤ f) (gx1 : rg x1) (gx2 : rg x2) (hR : RM c m) : PC (gZ L xs) k d 183 [.ref 0, yI x1, yI x2] m n (qEI (fun e => e = 9 ∨ e = 11) c (F183 f x1 x2 m)) := by
  have hX : F183 f x1 x2 m = F183 f x1 x2 m := rfl
  have Hr : ∀ r m', F183 f x1 x2 m = some (.inl r, m') → rg r → RM c m' → ∀ n' : Nat, (qEI (fun e => e = 9 ∨ e = 11) c (F183 f x1 x2 m)) (.inl (some (yI r))) m' n' := fun r m' e h1 h2 n' => Or.inl ⟨r, rfl, h1, h2, e⟩
  have Ht : ∀ e m', F183 f x1 x2 m = some (.inr e, m') → (fun e => e = 9 ∨ e = 11) e → RM c m' → ∀ x n' : Nat, (qEI (fun e => e = 9 ∨ e = 11) c (F183 f x1 x2 m)) (.inr (e, x)) m' n' := fun e m' e1 h1 h2 x n' => Or.inr ⟨e, x, rfl, h1, h2, e1⟩
  refine PC.mk [some (.ref 0), some (yI x1), some (yI x2), none] kn183 rfl ?_
  refine p_aload 1 c183_0 rfl rfl ?_
  refine p_iload 2 c183_1 rfl rfl ?_
  refine p_cX 5 [.ref 0, yI x1] [] c183_2 rfl rfl rfl (fun k' hk' d' => d167 gx1 hR) (fun hg6644 n6643 k6642 hk6642 => ?_)
  refine p_if 16 8 c183_5 rfl rfl (yz_ne hg6644) (fun hb6645 k6646 hk6646 => ?_) (fun hb6645 k6647 hk6647 => ?_)
  · have hX6648 := hX.trans (if_neg hb6645)
    refine p_aload 17 c183_16 rfl rfl ?_
    refine p_getV 20 (.ref (pA (m 0 4))) c183_17 rfl kf0_4 (pA_sv2 hR.2.1 rfl) ?_
    refine p_getR 23 c183_20 rfl (kP_5 (pA_is _)) ?_
    refine p_iload 24 c183_23 rfl rfl ?_
    refine p_aaX 25 c183_24 rfl (kPr_6 (pA_is _)) gx1 (fun hx6649 => ?_)
    have hX6650 := hX6648.trans (if_pos hx6649)
    refine p_astore 26 c183_25 rfl rfl ?_
    refine p_iload 27 c183_26 rfl rfl ?_
    by_cases hk6651 : x2 = 0
    · have hX6652 := hX6650.trans (if_pos hk6651)
      refine p_top 0 hk6651 ?_
      refine p_tsw 60 c183_27 (rgD rfl) (by decide) rfl rfl ?_
      refine p_aload 61 c183_60 rfl rfl ?_
      refine p_getX 64 (m ((pA (m 0 4)) + 10 + (x1).toNat) 2) c183_61 rfl (kM_2 (kMr (pA_is _) hx6649)) rfl ?_
      exact p_ireturn c183_64 (Hr _ _ hX6652 (hR.rg _ _) hR _)
    have hX6653 := hX6650.trans (if_neg hk6651)
    by_cases hk6654 : x2 = 1
    · have hX6655 := hX6653.trans (if_pos hk6654)
      refine p_top 1 hk6654 ?_
      refine p_tsw 65 c183_27 (rgD rfl) (by decide) rfl rfl ?_
      refine p_aload 66 c183_65 rfl rfl ?_
      refine p_cX 69 [.ref ((pA (m 0 4)) + 10 + (x1).toNat)] [] c183_66 rfl rfl rfl (fun k' hk' d' => d57 (kMr (pA_is _) hx6649) hR) (fun hg6658 n6657 k6656 hk6656 => ?_)
      exact p_ireturn c183_69 (Hr _ _ hX6655 hg6658 hR _)
    have hX6659 := hX6653.trans (if_neg hk6654)
    by_cases hk6660 : x2 = 2
    · have hX6661 := hX6659.trans (if_pos hk6660)
      refine p_top 2 hk6660 ?_
      refine p_tsw 70 c183_27 (rgD rfl) (by decide) rfl rfl ?_
      refine p_aload 71 c183_70 rfl rfl ?_
      refine p_iconst 72 c183_71 rfl ?_
      refine p_cX 75 [.ref ((pA (m 0 4)) + 10 + (x1).toNat), yI 0] [] c183_72 rfl rfl rfl (fun k' hk' d' => d87 (kMr (pA_is _) hx6649) (rgD rfl) hR) (fun hg6664 n6663 k6662 hk6662 => ?_)
      exact p_ireturn c183_75 (Hr _ _ hX6661 hg6664 hR _)
    have hX6665 := hX6659.trans (if_neg hk6660)
    by_cases hk6666 : x2 = 3
    · have hX6667 := hX6665.trans (if_pos hk6666)
      refine p_top 3 hk6666 ?_
      refine p_tsw 76 c183_27 (rgD rfl) (by decide) rfl rfl ?_
      refine p_aload 77 c183_76 rfl rfl ?_
      refine p_iconst 78 c183_77 rfl ?_
      refine p_cX 81 [.ref ((pA (m 0 4)) + 10 + (x1).toNat), yI 1] [] c183_78 rfl rfl rfl (fun k' hk' d' => d87 (kMr (pA_is _) hx6649) (rgD rfl) hR) (fun hg6670 n6669 k6668 hk6668 => ?_)
      exact p_ireturn c183_81 (Hr _ _ hX6667 hg6670 hR _)
    have hX6671 := hX6665.trans (if_neg hk6666)
    by_cases hk6672 : x2 = 4
    · have hX6673 := hX6671.trans (if_pos hk6672)
      refine p_top 4 hk6672 ?_
      refine p_tsw 82 c183_27 (rgD rfl) (by decide) rfl rfl ?_
      refine p_aload 83 c183_82 rfl rfl ?_
      refine p_getX 86 (m ((pA (m 0 4)) + 10 + (x1).toNat) 1) c183_83 rfl (kM_1 (kMr (pA_is _) hx6649)) rfl ?_
      exact p_ireturn c183_86 (Hr _ _ hX6673 (hR.rg _ _) hR _)
    have hX6674 := hX6671.trans (if_neg hk6672)
    refine p_tswd 87 c183_27 gx2 (by omega) rfl ?_
    exact p_throw c183_87 (fun x n' => Ht _ _ hX6674 (Or.inl rfl) hR x n')
  · have hX6675 := hX.trans (if_pos (Classical.not_not.mp hb6645))
    exact p_throw c183_8 (fun x n' => Ht _ _ hX6675 (Or.inr rfl) hR x n')
def F184 (f : Nat) (x1 : Int) (x2 : Int) (m : yM) : Option (Int × yM) := (bT (F183 f x1 x2 m) (fun r6678 m6680 => (some (0, yup m6680 413 0 ((i2l r6678).toInt)))) (fun e' m6680 => (if e' = 9 then (some (2, m6680)) else (if e' = 11 then (some (1, m6680)) else none))))
set_option maxRecDepth 100000 in
theorem d184 {L : Nat} {xs : Nat → Int32} {k d n : Nat} {c : yS3} {f : Nat} {x1 : Int} {x2 : Int} {m : yM} (hk : k ≤ f) (gx1 : rg x1) (gx2 : rg x2) (hR : RM c m) : PC (gZ L xs) k d 184 [.ref 0, yI x1, yI x2, .ref 413] m n (qS c (F184 f x1 x2 m)) := by
  have hX : F184 f x1 x2 m = F184 f x1 x2 m := rfl
  have Hr : ∀ r m', F184 f x1 x2 m = some (r, m') → rg r → RM c m' → ∀ n' : Nat, (qS c (F184 f x1 x2 m)) (.inl (some (yI r))) m' n' := fun r m' e h1 h2 n' => ⟨r, rfl, h1, h2, e⟩
  refine PC.mk [some (.ref 0), some (yI x1), some (yI x2), some (.ref 413), none] kn184 rfl ?_
  refine p_aload 1 c184_0 rfl rfl ?_
  refine p_iconst 2 c184_1 rfl ?_
  refine p_aload 3 c184_2 rfl rfl ?_
  refine p_iload 4 c184_3 rfl rfl ?_
  refine p_iload 5 c184_4 rfl rfl ?_
  refine p_cTI 8 [.ref 0, yI x1, yI x2] [yI 0, .ref 413] c184_5 rfl rfl rfl (fun k' hk' d' => d183 (f := f) (by omega) gx1 gx2 hR) (fun r6678 m6680 hF6676 hg6677 hR6681 n6641 k6640 hk6640 => ?_) (fun e' q6685 m6680 n' hF6676 hE6683 hR6684 => ?_)
  · have hX6679 := hX.trans (bT_l hF6676)
    refine p_i2l 9 c184_8 rfl ?_
    refine p_laS 10 c184_9 rfl kl413 (rgD rfl) (fun hx6686 => ?_)
    have hR6687 := hR6681.up 413 0 (v := (i2l r6678).toInt) (nselD rfl) (rg_i2l _)
    refine p_goto 21 c184_10 rfl ?_
    refine p_iconst 22 c184_21 rfl ?_
    exact p_ireturn c184_22 (Hr _ _ hX6679 (rgD rfl) hR6687 _)
  · have hXe := hX.trans (bT_r hF6676)
    rcases hE6683 with rfl | rfl
    · have hX6688 := hXe.trans (if_pos rfl)
      refine ⟨fun pq hpq k6689 hk6689 => ?_, fun hno => absurd (r_kh184_5_9.symm.trans hno) (by simp)⟩
      have hpp : pq = 17 := by have := r_kh184_5_9.symm.trans hpq; simpa using this.symm
      subst hpp
      refine p_astore 19 c184_17 rfl rfl ?_
      refine p_iconst 20 c184_19 rfl ?_
      exact p_ireturn c184_20 (Hr _ _ hX6688 (rgD rfl) hR6684 _)
    · have hX6690 := (hXe.trans (if_neg (by decide))).trans (if_pos rfl)
      refine ⟨fun pq hpq k6691 hk6691 => ?_, fun hno => absurd (r_kh184_5_11.symm.trans hno) (by simp)⟩
      have hpp : pq = 13 := by have := r_kh184_5_11.symm.trans hpq; simpa using this.symm
      subst hpp
      refine p_astore 15 c184_13 rfl rfl ?_
      refine p_iconst 16 c184_15 rfl ?_
      exact p_ireturn c184_16 (Hr _ _ hX6690 (rgD rfl) hR6684 _)
def F185 (f : Nat) (x1 : Int) (x2 : Int) (m : yM) : Option (Int × yM) := (bI (F162 f (F170 x1 m) m) (fun r6709 m6711 => (if r6709 = 0 then (some (0, m6711)) else (bI (F23 f (F22 x2 0 4) 2 m6711) (fun r6724 m6726 => (if r6724 = 0 then (some (0, m6726)) else (if x2 = 4 then (some (m6726 396 (wr ((wr (10 * (m6726 376 18))) + x1)).toNat, m6726)) else (if wr (x2 - 2) < m6726 397 (wr ((wr (10 * (m6726 376 18))) + x1)).toNat then (some (wr ((m6726 398 (wr ((wr (10 * (m6726 376 18))) + x1)).toNat) + x2), m6726)) else (some ((-1), m6726))))))))))
set_option maxRecDepth 100000 in
theorem d185 {L : Nat} {xs : Nat → Int32} {k d n : Nat} {c : yS3} {f : Nat} {x1 : Int} {x2 : Int} {m : yM} (hk : k ≤ f) (gx1 : rg x1) (gx2 : rg x2) (hR : RM c m) : PC (gZ L xs) k d 185 [.ref 376, yI x1, yI x2] m n (qS c (F185 f x1 x2 m)) := by
  have hX : F185 f x1 x2 m = F185 f x1 x2 m := rfl
  have Hr : ∀ r m', F185 f x1 x2 m = some (r, m') → rg r → RM c m' → ∀ n' : Nat, (qS c (F185 f x1 x2 m)) (.inl (some (yI r))) m' n' := fun r m' e h1 h2 n' => ⟨r, rfl, h1, h2, e⟩
  refine PC.mk [some (.ref 376), some (yI x1), some (yI x2), none] kn185 rfl ?_
  refine p_aload 1 c185_0 rfl rfl ?_
  refine p_aload 2 c185_1 rfl rfl ?_
  refine p_iload 3 c185_2 rfl rfl ?_
  refine p_cX 6 [.ref 376, yI x1] [.ref 376] c185_3 rfl rfl rfl (fun k' hk' d' => d170 gx1 hR) (fun hg6704 n6703 k6702 hk6702 => ?_)
  refine p_cS 9 [.ref 376, yI (F170 x1 m)] [] c185_6 rfl rfl rfl (fun k' hk' d' => d162 (f := f) (by omega) hg6704 hR) (fun r6709 m6711 hF6707 hg6708 hR6712 n6706 k6705 hk6705 => ?_)
  have hX6710 := hX.trans (bI_s hF6707)
  refine p_if 14 12 c185_9 rfl rfl (yz_ne hg6708) (fun hb6713 k6714 hk6714 => ?_) (fun hb6713 k6715 hk6715 => ?_)
  · have hX6716 := hX6710.trans (if_neg hb6713)
    refine p_aload 15 c185_14 rfl rfl ?_
    refine p_iload 16 c185_15 rfl rfl ?_
    refine p_iconst 17 c185_16 rfl ?_
    refine p_iconst 18 c185_17 rfl ?_
    refine p_cX 21 [yI x2, yI 0, yI 4] [.ref 376] c185_18 rfl rfl rfl (fun k' hk' d' => d22 gx2 (rgD rfl) (rgD rfl) hR6712) (fun hg6719 n6718 k6717 hk6717 => ?_)
    refine p_iconst 22 c185_21 rfl ?_
    refine p_cS 25 [.ref 376, yI (F22 x2 0 4), yI 2] [] c185_22 rfl rfl rfl (fun k' hk' d' => d23 (f := f) (by omega) hg6719 (rgD rfl) hR6712) (fun r6724 m6726 hF6722 hg6723 hR6727 n6721 k6720 hk6720 => ?_)
    have hX6725 := hX6716.trans (bI_s hF6722)
    refine p_if 30 28 c185_25 rfl rfl (yz_ne hg6723) (fun hb6728 k6729 hk6729 => ?_) (fun hb6728 k6730 hk6730 => ?_)
    · have hX6731 := hX6725.trans (if_neg hb6728)
      refine p_iconst 32 c185_30 rfl ?_
      refine p_aload 33 c185_32 rfl rfl ?_
      refine p_getX 36 (m6726 376 18) c185_33 rfl kf376_18 rfl ?_
      refine p_imul 37 c185_36 rfl ?_
      refine p_iload 38 c185_37 rfl rfl ?_
      refine p_iadd 39 c185_38 rfl ?_
      refine p_istore 40 c185_39 rfl rfl ?_
      refine p_iload 41 c185_40 rfl rfl ?_
      refine p_iconst 42 c185_41 rfl ?_
      refine p_icmp 52 45 c185_42 rfl rfl (yc_ne gx2 (rgD rfl)) (fun hb6732 k6733 hk6733 => ?_) (fun hb6732 k6734 hk6734 => ?_)
      · have hX6735 := hX6731.trans (if_neg hb6732)
        refine p_iload 53 c185_52 rfl rfl ?_
        refine p_iconst 54 c185_53 rfl ?_
        refine p_isub 55 c185_54 rfl ?_
        refine p_aload 56 c185_55 rfl rfl ?_
        refine p_getR 59 c185_56 rfl kf376_34 ?_
        refine p_iload 60 c185_59 rfl rfl ?_
        refine p_iaX 61 (m6726 397 (wr ((wr (10 * (m6726 376 18))) + x1)).toNat) c185_60 rfl ka397 (rg_wr _) rfl (fun hx6736 => ?_)
        refine p_icmp 75 64 c185_61 rfl rfl ((yc_ge (rg_wr _) (hR6727.rg _ _)).trans Int.not_lt.symm) (fun hb6737 k6738 hk6738 => ?_) (fun hb6737 k6739 hk6739 => ?_)
        · have hX6740 := hX6735.trans (if_neg hb6737)
          refine p_iconst 76 c185_75 rfl ?_
          exact p_ireturn c185_76 (Hr _ _ hX6740 (rgD rfl) hR6727 _)
        · have hX6741 := hX6735.trans (if_pos (Classical.not_not.mp hb6737))
          refine p_aload 65 c185_64 rfl rfl ?_
          refine p_getR 68 c185_65 rfl kf376_35 ?_
          refine p_iload 69 c185_68 rfl rfl ?_
          refine p_iaX 70 (m6726 398 (wr ((wr (10 * (m6726 376 18))) + x1)).toNat) c185_69 rfl ka398 (rg_wr _) rfl (fun hx6742 => ?_)
          refine p_iload 71 c185_70 rfl rfl ?_
          refine p_iadd 72 c185_71 rfl ?_
          refine p_goto 76 c185_72 rfl ?_
          exact p_ireturn c185_76 (Hr _ _ hX6741 (rg_wr _) hR6727 _)
      · have hX6743 := hX6731.trans (if_pos (Classical.not_not.mp hb6732))
        refine p_aload 46 c185_45 rfl rfl ?_
        refine p_getR 49 c185_46 rfl kf376_33 ?_
        refine p_iload 50 c185_49 rfl rfl ?_
        refine p_iaX 51 (m6726 396 (wr ((wr (10 * (m6726 376 18))) + x1)).toNat) c185_50 rfl ka396 (rg_wr _) rfl (fun hx6744 => ?_)
        exact p_ireturn c185_51 (Hr _ _ hX6743 (hR6727.rg _ _) hR6727 _)
    · have hX6745 := hX6725.trans (if_pos (Classical.not_not.mp hb6728))
      refine p_iconst 29 c185_28 rfl ?_
      exact p_ireturn c185_29 (Hr _ _ hX6745 (rgD rfl) hR6727 _)
  · have hX6746 := hX6710.trans (if_pos (Classical.not_not.mp hb6713))
    refine p_iconst 13 c185_12 rfl ?_
    exact p_ireturn c185_13 (Hr _ _ hX6746 (rgD rfl) hR6712 _)
def B75_8_5 (f : Nat) (a0 : Nat) (x1 : Int) (x3 : Int) (x2 : Int) (m : yM) : Option ((Int × yM) ⊕ ((Int × yM) ⊕ (Unit × yM))) := (if x2 < x3 then (some (.inl ((wr (x2 + 1)), yup m a0 x2.toNat x1))) else (some (.inr (.inl (x2, m)))))
set_option maxRecDepth 100000 in
theorem tB75_8_5 {L : Nat} {xs : Nat → Int32} {Q : xO → yM → Nat → Prop} {k d n : Nat} {c : yS3} {f : Nat} {a0 : Nat} {x1 : Int} {x3 : Int} {x2 : Int} {m : yM} (hk : k ≤ f) (hr0 : yarr gSh 414 a0 = some (0, 8)) (hq0 : (10 ≤ a0 ∧ a0 < 72) ∨ (73 ≤ a0 ∧ a0 < 169) ∨ (171 ≤ a0 ∧ a0 < 219) ∨ (221 ≤ a0 ∧ a0 < 251) ∨ (252 ≤ a0 ∧ a0 < 256)) (gx1 : rg x1) (gx3 : rg x3) (gx2 : rg x2) (hR : RM c m) (Hn : ∀ (y0 : Int) (m' : yM) (n' : Nat), B75_8_5 f a0 x1 x3 x2 m = some (.inl (y0, m')) → rg y0 → RM c m' → ∀ k', k' < k → PW (gZ L xs) k' 75 d 5 [some (.ref a0), some (yI x1), some (yI y0), some (yI x3)] [] m' n' Q) (He : ∀ (y0 : Int) (m' : yM) (n' : Nat), B75_8_5 f a0 x1 x3 x2 m = some (.inr (.inl (y0, m'))) → rg y0 → RM c m' → ∀ k', k' ≤ k → PW (gZ L xs) k' 75 d 20 [some (.ref a0), some (yI x1), some (yI y0), some (yI x3)] [] m' n' Q) (Hr : ∀ m', B75_8_5 f a0 x1 x3 x2 m = some (.inr (.inr ((), m'))) → RM c m' → ∀ n', Q (.inl none) m' n') : PW (gZ L xs) k 75 d 5 [some (.ref a0), some (yI x1), some (yI x2), some (yI x3)] [] m n Q := by
  have hX : B75_8_5 f a0 x1 x3 x2 m = B75_8_5 f a0 x1 x3 x2 m := rfl
  refine p_iload 6 c75_5 rfl rfl ?_
  refine p_iload 7 c75_6 rfl rfl ?_
  refine p_icmp 20 10 c75_7 rfl rfl ((yc_ge gx2 gx3).trans Int.not_lt.symm) (fun hb6790 k6791 hk6791 => ?_) (fun hb6790 k6792 hk6792 => ?_)
  · have hX6793 := hX.trans (if_neg hb6790)
    exact He _ _ _ hX6793 gx2 hR _ (by omega)
  · have hX6794 := hX.trans (if_pos (Classical.not_not.mp hb6790))
    refine p_aload 11 c75_10 rfl rfl ?_
    refine p_iload 12 c75_11 rfl rfl ?_
    refine p_iload 13 c75_12 rfl rfl ?_
    refine p_iaS 14 c75_13 rfl hr0 gx2 x1 (nar0 gx1) (fun hx6795 => ?_)
    have hR6796 := hR.up a0 x2.toNat (v := x1) (nselA (by omega)) gx1
    refine p_iinc 17 c75_14 rfl rfl rfl ?_
    refine p_gotoD 5 c75_17 rfl (fun k6797 hk6797 => ?_)
    exact Hn _ _ _ hX6794 (rg_wr _) hR6796 _ (by omega)
def F75_8 (f : Nat) (a0 : Nat) (x1 : Int) (m : yM) : Option yM := (bL (yloop (fun (l : Int) ml => B75_8_5 f a0 x1 8 l ml) f 0 m) (fun l6798 m6804 => (some m6804)) (fun _ mr => some mr))
set_option maxRecDepth 100000 in
theorem d75_8 {L : Nat} {xs : Nat → Int32} {k d n : Nat} {c : yS3} {f : Nat} {a0 : Nat} {x1 : Int} {m : yM} (hk : k ≤ f) (hr0 : yarr gSh 414 a0 = some (0, 8)) (hq0 : (10 ≤ a0 ∧ a0 < 72) ∨ (73 ≤ a0 ∧ a0 < 169) ∨ (171 ≤ a0 ∧ a0 < 219) ∨ (221 ≤ a0 ∧ a0 < 251) ∨ (252 ≤ a0 ∧ a0 < 256)) (gx1 : rg x1) (hR : RM c m) : PC (gZ L xs) k d 75 [.ref a0, yI x1] m n (qV c (F75_8 f a0 x1 m)) := by
  have hX : F75_8 f a0 x1 m = F75_8 f a0 x1 m := rfl
  have Hr : ∀ m', F75_8 f a0 x1 m = some m' → RM c m' → ∀ n' : Nat, (qV c (F75_8 f a0 x1 m)) (.inl none) m' n' := fun m' e h n' => ⟨rfl, h, e⟩
  refine PC.mk [some (.ref a0), some (yI x1), none, none] kn75 rfl ?_
  refine p_iconst 1 c75_0 rfl ?_
  refine p_istore 2 c75_1 rfl rfl ?_
  refine p_aload 3 c75_2 rfl rfl ?_
  refine p_alen 4 c75_3 rfl hr0 ?_
  refine p_istore 5 c75_4 rfl rfl ?_
  refine PW.loop (K := k) (pce := 20) (fun (l : Int) ml => B75_8_5 f a0 x1 8 l ml) (fun (l : Int) j => [some (.ref a0), some (yI x1), some (yI l), some (yI 8)]) (fun (l : Int) => rg l) (RM c) (fun (r' : Unit) m' => RM c m' → ∀ n' : Nat, (qV c (F75_8 f a0 x1 m)) (.inl none) m' n') (fun k' hk' l j m' n' hl hI Hn' He' Hr' => tB75_8_5 (f := f) (by omega) hr0 (by omega) gx1 (rgD rfl) hl hI (fun y0 m2 n2 e h0 hR2 => Hn' y0 (fun q => ([none, none, none, none] : List (Option Value)).getD q none) m2 n2 e h0 hR2) (fun y0 m2 n2 e h0 hR2 => He' y0 (fun q => ([none, none, none, none] : List (Option Value)).getD q none) m2 n2 e h0 hR2) (fun m2 e => Hr' () m2 e)) f k (by omega) (Nat.le_refl _) 0 (fun q => ([some (.ref a0), some (yI x1), some (yI 0), some (yI 8)] : xL).getD q none) _ _ (rgD rfl) hR (fun l6798 j6801 m6804 n6803 e6800 hl6799 hR6805 k6802 hk6802 => ?_) (fun r' m' e' => ?_)
  · have hX6806 := hX.trans (bL_l e6800)
    exact p_return c75_20 (Hr _ hX6806 hR6805 _)
  · exact Hr m' (hX.trans (bL_r e'))
def F186 (f : Nat) (x1 : Int) (m : yM) : Option ((Int ⊕ Nat) × yM) := (if m 169 5 = 30 then (some (.inr 10, m)) else (if 0 ≤ (m 169 5) ∧ (m 169 5) < ((30 : Nat) : Int) then (bU (F75_8 f (221 + (m 169 5).toNat) ((-1)) (yup (yup m 169 5 (wr ((m 169 5) + 1))) 219 (m 169 5).toNat x1)) (fun m6811 => (some (.inl (m 169 5), m6811)))) else none))
set_option maxRecDepth 100000 in
theorem d186 {L : Nat} {xs : Nat → Int32} {k d n : Nat} {c : yS3} {f : Nat} {x1 : Int} {m : yM} (hk : k ≤ f) (gx1 : rg x1) (hR : RM c m) : PC (gZ L xs) k d 186 [.ref 169, yI x1] m n (qEI (fun e => e = 10) c (F186 f x1 m)) := by
  have hX : F186 f x1 m = F186 f x1 m := rfl
  have Hr : ∀ r m', F186 f x1 m = some (.inl r, m') → rg r → RM c m' → ∀ n' : Nat, (qEI (fun e => e = 10) c (F186 f x1 m)) (.inl (some (yI r))) m' n' := fun r m' e h1 h2 n' => Or.inl ⟨r, rfl, h1, h2, e⟩
  have Ht : ∀ e m', F186 f x1 m = some (.inr e, m') → (fun e => e = 10) e → RM c m' → ∀ x n' : Nat, (qEI (fun e => e = 10) c (F186 f x1 m)) (.inr (e, x)) m' n' := fun e m' e1 h1 h2 x n' => Or.inr ⟨e, x, rfl, h1, h2, e1⟩
  refine PC.mk [some (.ref 169), some (yI x1), none] kn186 rfl ?_
  refine p_aload 1 c186_0 rfl rfl ?_
  refine p_getX 4 (m 169 5) c186_1 rfl kf169_5 rfl ?_
  refine p_iconst 6 c186_4 rfl ?_
  refine p_icmp 17 9 c186_6 rfl rfl (yc_ne (hR.rg _ _) (rgD rfl)) (fun hb6779 k6780 hk6780 => ?_) (fun hb6779 k6781 hk6781 => ?_)
  · have hX6782 := hX.trans (if_neg hb6779)
    refine p_aload 18 c186_17 rfl rfl ?_
    refine p_getX 21 (m 169 5) c186_18 rfl kf169_5 rfl ?_
    refine p_istore 22 c186_21 rfl rfl ?_
    refine p_aload 23 c186_22 rfl rfl ?_
    refine p_dup 24 c186_23 rfl rfl ?_
    refine p_getX 27 (m 169 5) c186_24 rfl kf169_5 rfl ?_
    refine p_iconst 28 c186_27 rfl ?_
    refine p_iadd 29 c186_28 rfl ?_
    refine p_putI 32 c186_29 rfl kf169_5 ?_
    have hR6783 := hR.up 169 5 (v := wr ((m 169 5) + 1)) (nselD rfl) (rg_wr _)
    refine p_aload 33 c186_32 rfl rfl ?_
    refine p_getR 36 c186_33 rfl kf169_1 ?_
    refine p_iload 37 c186_36 rfl rfl ?_
    refine p_iload 38 c186_37 rfl rfl ?_
    refine p_iaS 39 c186_38 rfl ka219 (hR.rg _ _) x1 (nar0 gx1) (fun hx6784 => ?_)
    have hR6785 := hR6783.up 219 (m 169 5).toNat (v := x1) (nselA (by decide)) gx1
    refine p_aload 40 c186_39 rfl rfl ?_
    refine p_getR 43 c186_40 rfl kf169_2 ?_
    refine p_iload 44 c186_43 rfl rfl ?_
    refine p_aaX 45 c186_44 rfl kr220 (hR.rg _ _) (fun hx6786 => ?_)
    have hX6787 := hX6782.trans (if_pos hx6786)
    refine p_iconst 46 c186_45 rfl ?_
    refine p_cV 49 [.ref (221 + (m 169 5).toNat), yI ((-1))] [] c186_46 rfl rfl rfl (fun k' hk' d' => d75_8 (f := f) (by omega) (kR220 hx6786) (by omega) (rgD rfl) hR6785) (fun m6811 hF6807 hR6812 n6789 k6788 hk6788 => ?_)
    have hX6810 := hX6787.trans (bU_s hF6807)
    refine p_iload 50 c186_49 rfl rfl ?_
    exact p_ireturn c186_50 (Hr _ _ hX6810 (hR.rg _ _) hR6812 _)
  · have hX6813 := hX.trans (if_pos (Classical.not_not.mp hb6779))
    exact p_throw c186_9 (fun x n' => Ht _ _ hX6813 rfl hR x n')
def B75_48_5 (f : Nat) (a0 : Nat) (x1 : Int) (x3 : Int) (x2 : Int) (m : yM) : Option ((Int × yM) ⊕ ((Int × yM) ⊕ (Unit × yM))) := (if x2 < x3 then (some (.inl ((wr (x2 + 1)), yup m a0 x2.toNat x1))) else (some (.inr (.inl (x2, m)))))
set_option maxRecDepth 100000 in
theorem tB75_48_5 {L : Nat} {xs : Nat → Int32} {Q : xO → yM → Nat → Prop} {k d n : Nat} {c : yS3} {f : Nat} {a0 : Nat} {x1 : Int} {x3 : Int} {x2 : Int} {m : yM} (hk : k ≤ f) (hr0 : yarr gSh 414 a0 = some (0, 48)) (hq0 : (10 ≤ a0 ∧ a0 < 72) ∨ (73 ≤ a0 ∧ a0 < 169) ∨ (171 ≤ a0 ∧ a0 < 219) ∨ (221 ≤ a0 ∧ a0 < 251) ∨ (252 ≤ a0 ∧ a0 < 256)) (gx1 : rg x1) (gx3 : rg x3) (gx2 : rg x2) (hR : RM c m) (Hn : ∀ (y0 : Int) (m' : yM) (n' : Nat), B75_48_5 f a0 x1 x3 x2 m = some (.inl (y0, m')) → rg y0 → RM c m' → ∀ k', k' < k → PW (gZ L xs) k' 75 d 5 [some (.ref a0), some (yI x1), some (yI y0), some (yI x3)] [] m' n' Q) (He : ∀ (y0 : Int) (m' : yM) (n' : Nat), B75_48_5 f a0 x1 x3 x2 m = some (.inr (.inl (y0, m'))) → rg y0 → RM c m' → ∀ k', k' ≤ k → PW (gZ L xs) k' 75 d 20 [some (.ref a0), some (yI x1), some (yI y0), some (yI x3)] [] m' n' Q) (Hr : ∀ m', B75_48_5 f a0 x1 x3 x2 m = some (.inr (.inr ((), m'))) → RM c m' → ∀ n', Q (.inl none) m' n') : PW (gZ L xs) k 75 d 5 [some (.ref a0), some (yI x1), some (yI x2), some (yI x3)] [] m n Q := by
  have hX : B75_48_5 f a0 x1 x3 x2 m = B75_48_5 f a0 x1 x3 x2 m := rfl
  refine p_iload 6 c75_5 rfl rfl ?_
  refine p_iload 7 c75_6 rfl rfl ?_
  refine p_icmp 20 10 c75_7 rfl rfl ((yc_ge gx2 gx3).trans Int.not_lt.symm) (fun hb6836 k6837 hk6837 => ?_) (fun hb6836 k6838 hk6838 => ?_)
  · have hX6839 := hX.trans (if_neg hb6836)
    exact He _ _ _ hX6839 gx2 hR _ (by omega)
  · have hX6840 := hX.trans (if_pos (Classical.not_not.mp hb6836))
    refine p_aload 11 c75_10 rfl rfl ?_
    refine p_iload 12 c75_11 rfl rfl ?_
    refine p_iload 13 c75_12 rfl rfl ?_
    refine p_iaS 14 c75_13 rfl hr0 gx2 x1 (nar0 gx1) (fun hx6841 => ?_)
    have hR6842 := hR.up a0 x2.toNat (v := x1) (nselA (by omega)) gx1
    refine p_iinc 17 c75_14 rfl rfl rfl ?_
    refine p_gotoD 5 c75_17 rfl (fun k6843 hk6843 => ?_)
    exact Hn _ _ _ hX6840 (rg_wr _) hR6842 _ (by omega)
def F75_48 (f : Nat) (a0 : Nat) (x1 : Int) (m : yM) : Option yM := (bL (yloop (fun (l : Int) ml => B75_48_5 f a0 x1 48 l ml) f 0 m) (fun l6844 m6850 => (some m6850)) (fun _ mr => some mr))
set_option maxRecDepth 100000 in
theorem d75_48 {L : Nat} {xs : Nat → Int32} {k d n : Nat} {c : yS3} {f : Nat} {a0 : Nat} {x1 : Int} {m : yM} (hk : k ≤ f) (hr0 : yarr gSh 414 a0 = some (0, 48)) (hq0 : (10 ≤ a0 ∧ a0 < 72) ∨ (73 ≤ a0 ∧ a0 < 169) ∨ (171 ≤ a0 ∧ a0 < 219) ∨ (221 ≤ a0 ∧ a0 < 251) ∨ (252 ≤ a0 ∧ a0 < 256)) (gx1 : rg x1) (hR : RM c m) : PC (gZ L xs) k d 75 [.ref a0, yI x1] m n (qV c (F75_48 f a0 x1 m)) := by
  have hX : F75_48 f a0 x1 m = F75_48 f a0 x1 m := rfl
  have Hr : ∀ m', F75_48 f a0 x1 m = some m' → RM c m' → ∀ n' : Nat, (qV c (F75_48 f a0 x1 m)) (.inl none) m' n' := fun m' e h n' => ⟨rfl, h, e⟩
  refine PC.mk [some (.ref a0), some (yI x1), none, none] kn75 rfl ?_
  refine p_iconst 1 c75_0 rfl ?_
  refine p_istore 2 c75_1 rfl rfl ?_
  refine p_aload 3 c75_2 rfl rfl ?_
  refine p_alen 4 c75_3 rfl hr0 ?_
  refine p_istore 5 c75_4 rfl rfl ?_
  refine PW.loop (K := k) (pce := 20) (fun (l : Int) ml => B75_48_5 f a0 x1 48 l ml) (fun (l : Int) j => [some (.ref a0), some (yI x1), some (yI l), some (yI 48)]) (fun (l : Int) => rg l) (RM c) (fun (r' : Unit) m' => RM c m' → ∀ n' : Nat, (qV c (F75_48 f a0 x1 m)) (.inl none) m' n') (fun k' hk' l j m' n' hl hI Hn' He' Hr' => tB75_48_5 (f := f) (by omega) hr0 (by omega) gx1 (rgD rfl) hl hI (fun y0 m2 n2 e h0 hR2 => Hn' y0 (fun q => ([none, none, none, none] : List (Option Value)).getD q none) m2 n2 e h0 hR2) (fun y0 m2 n2 e h0 hR2 => He' y0 (fun q => ([none, none, none, none] : List (Option Value)).getD q none) m2 n2 e h0 hR2) (fun m2 e => Hr' () m2 e)) f k (by omega) (Nat.le_refl _) 0 (fun q => ([some (.ref a0), some (yI x1), some (yI 0), some (yI 48)] : xL).getD q none) _ _ (rgD rfl) hR (fun l6844 j6847 m6850 n6849 e6846 hl6845 hR6851 k6848 hk6848 => ?_) (fun r' m' e' => ?_)
  · have hX6852 := hX.trans (bL_l e6846)
    exact p_return c75_20 (Hr _ hX6852 hR6851 _)
  · exact Hr m' (hX.trans (bL_r e'))
def F187 (f : Nat) (x1 : Int) (m : yM) : Option ((Nat ⊕ Nat) × yM) := (if x1 < 4 then (if 0 ≤ x1 ∧ x1 < ((4 : Nat) : Int) then (bU (F75_48 f (252 + (x1).toNat) ((-1)) m) (fun m6857 => (if 0 ≤ x1 ∧ x1 < ((4 : Nat) : Int) then (some (.inl (252 + (x1).toNat), m6857)) else none))) else none) else (some (.inr 10, m)))
set_option maxRecDepth 100000 in
theorem d187 {L : Nat} {xs : Nat → Int32} {k d n : Nat} {c : yS3} {f : Nat} {x1 : Int} {m : yM} (hk : k ≤ f) (gx1 : rg x1) (hR : RM c m) : PC (gZ L xs) k d 187 [.ref 169, yI x1] m n (qEA (fun e => e = 10) c (fun a => yarr gSh 414 a = some (0, 48) ∧ (252 ≤ a ∧ a < 256)) (F187 f x1 m)) := by
  have hX : F187 f x1 m = F187 f x1 m := rfl
  have Hr : ∀ r m', F187 f x1 m = some (.inl r, m') → (fun a => yarr gSh 414 a = some (0, 48) ∧ (252 ≤ a ∧ a < 256)) r → RM c m' → ∀ n' : Nat, (qEA (fun e => e = 10) c (fun a => yarr gSh 414 a = some (0, 48) ∧ (252 ≤ a ∧ a < 256)) (F187 f x1 m)) (.inl (some (.ref r))) m' n' := fun r m' e h1 h2 n' => Or.inl ⟨r, rfl, h1, h2, e⟩
  have Ht : ∀ e m', F187 f x1 m = some (.inr e, m') → (fun e => e = 10) e → RM c m' → ∀ x n' : Nat, (qEA (fun e => e = 10) c (fun a => yarr gSh 414 a = some (0, 48) ∧ (252 ≤ a ∧ a < 256)) (F187 f x1 m)) (.inr (e, x)) m' n' := fun e m' e1 h1 h2 x n' => Or.inr ⟨e, x, rfl, h1, h2, e1⟩
  refine PC.mk [some (.ref 169), some (yI x1)] kn187 rfl ?_
  refine p_iload 1 c187_0 rfl rfl ?_
  refine p_iconst 2 c187_1 rfl ?_
  refine p_icmp 13 5 c187_2 rfl rfl (yc_lt gx1 (rgD rfl)) (fun hb6828 k6829 hk6829 => ?_) (fun hb6828 k6830 hk6830 => ?_)
  · have hX6831 := hX.trans (if_pos hb6828)
    refine p_aload 14 c187_13 rfl rfl ?_
    refine p_getR 17 c187_14 rfl kf169_3 ?_
    refine p_iload 18 c187_17 rfl rfl ?_
    refine p_aaX 19 c187_18 rfl kr251 gx1 (fun hx6832 => ?_)
    have hX6833 := hX6831.trans (if_pos hx6832)
    refine p_iconst 20 c187_19 rfl ?_
    refine p_cV 23 [.ref (252 + (x1).toNat), yI ((-1))] [] c187_20 rfl rfl rfl (fun k' hk' d' => d75_48 (f := f) (by omega) (kR251 hx6832) (by omega) (rgD rfl) hR) (fun m6857 hF6853 hR6858 n6835 k6834 hk6834 => ?_)
    have hX6856 := hX6833.trans (bU_s hF6853)
    refine p_aload 24 c187_23 rfl rfl ?_
    refine p_getR 27 c187_24 rfl kf169_3 ?_
    refine p_iload 28 c187_27 rfl rfl ?_
    refine p_aaX 29 c187_28 rfl kr251 gx1 (fun hx6859 => ?_)
    have hX6860 := hX6856.trans (if_pos hx6859)
    exact p_areturn c187_29 (Hr _ _ hX6860 ⟨(kR251 hx6859), by omega⟩ hR6858 _)
  · have hX6861 := hX.trans (if_neg hb6828)
    exact p_throw c187_5 (fun x n' => Ht _ _ hX6861 rfl hR x n')
def F188_48 (f : Nat) (a1 : Nat) (x2 : Int) (x3 : Int) (m : yM) : Option yM := (if x3 = (-1) then (some (yup m a1 x2.toNat x3)) else (if 0 ≤ x2 ∧ x2 < ((48 : Nat) : Int) then (some (yup (yup m a1 x2.toNat x3) (171 + (x2).toNat) (m 219 x3.toNat).toNat 1)) else none))
set_option maxRecDepth 100000 in
theorem d188_48 {L : Nat} {xs : Nat → Int32} {k d n : Nat} {c : yS3} {f : Nat} {a1 : Nat} {x2 : Int} {x3 : Int} {m : yM} (hk : k ≤ f) (hr1 : yarr gSh 414 a1 = some (0, 48)) (hq1 : (252 ≤ a1 ∧ a1 < 256)) (gx2 : rg x2) (gx3 : rg x3) (hR : RM c m) : PC (gZ L xs) k d 188 [.ref 169, .ref a1, yI x2, yI x3] m n (qV c (F188_48 f a1 x2 x3 m)) := by
  have hX : F188_48 f a1 x2 x3 m = F188_48 f a1 x2 x3 m := rfl
  have Hr : ∀ m', F188_48 f a1 x2 x3 m = some m' → RM c m' → ∀ n' : Nat, (qV c (F188_48 f a1 x2 x3 m)) (.inl none) m' n' := fun m' e h n' => ⟨rfl, h, e⟩
  refine PC.mk [some (.ref 169), some (.ref a1), some (yI x2), some (yI x3)] kn188 rfl ?_
  refine p_aload 1 c188_0 rfl rfl ?_
  refine p_iload 2 c188_1 rfl rfl ?_
  refine p_iload 3 c188_2 rfl rfl ?_
  refine p_iaS 4 c188_3 rfl hr1 gx2 x3 (nar0 gx3) (fun hx6878 => ?_)
  have hR6879 := hR.up a1 x2.toNat (v := x3) (nselA (by omega)) gx3
  refine p_iload 5 c188_4 rfl rfl ?_
  refine p_iconst 6 c188_5 rfl ?_
  refine p_icmp 23 9 c188_6 rfl rfl (yc_eq gx3 (rgD rfl)) (fun hb6880 k6881 hk6881 => ?_) (fun hb6880 k6882 hk6882 => ?_)
  · have hX6883 := hX.trans (if_pos hb6880)
    exact p_return c188_23 (Hr _ hX6883 hR6879 _)
  · have hX6884 := hX.trans (if_neg hb6880)
    refine p_aload 10 c188_9 rfl rfl ?_
    refine p_getR 13 c188_10 rfl kf169_0 ?_
    refine p_iload 14 c188_13 rfl rfl ?_
    refine p_aaX 15 c188_14 rfl kr170 gx2 (fun hx6885 => ?_)
    have hX6886 := hX6884.trans (if_pos hx6885)
    refine p_aload 16 c188_15 rfl rfl ?_
    refine p_getR 19 c188_16 rfl kf169_1 ?_
    refine p_iload 20 c188_19 rfl rfl ?_
    refine p_iaX 21 (m 219 x3.toNat) c188_20 rfl ka219 gx3 (yup_na (by omega)) (fun hx6887 => ?_)
    refine p_iconst 22 c188_21 rfl ?_
    refine p_iaS 23 c188_22 rfl (kR170 hx6885) (hR.rg _ _) 1 (nar0 (rgD rfl)) (fun hx6888 => ?_)
    have hR6889 := hR6879.up (171 + (x2).toNat) (m 219 x3.toNat).toNat (v := 1) (nselA (by omega)) (rgD rfl)
    exact p_return c188_23 (Hr _ hX6886 hR6889 _)
def F189 (f : Nat) (m : yM) : Option ((Unit ⊕ Nat) × yM) := (if m 169 6 = 200 then (some (.inr 10, m)) else (some (.inl (), yup m 169 6 (wr ((m 169 6) + 1)))))
set_option maxRecDepth 100000 in
theorem d189 {L : Nat} {xs : Nat → Int32} {k d n : Nat} {c : yS3} {f : Nat} {m : yM} (hk : k ≤ f) (hR : RM c m) : PC (gZ L xs) k d 189 [.ref 169] m n (qEV (fun e => e = 10) c (F189 f m)) := by
  have hX : F189 f m = F189 f m := rfl
  have Hr : ∀ m', F189 f m = some (.inl (), m') → RM c m' → ∀ n' : Nat, (qEV (fun e => e = 10) c (F189 f m)) (.inl none) m' n' := fun m' e h n' => Or.inl ⟨rfl, h, e⟩
  have Ht : ∀ e m', F189 f m = some (.inr e, m') → (fun e => e = 10) e → RM c m' → ∀ x n' : Nat, (qEV (fun e => e = 10) c (F189 f m)) (.inr (e, x)) m' n' := fun e m' e1 h1 h2 x n' => Or.inr ⟨e, x, rfl, h1, h2, e1⟩
  refine PC.mk [some (.ref 169)] kn189 rfl ?_
  refine p_aload 1 c189_0 rfl rfl ?_
  refine p_getX 4 (m 169 6) c189_1 rfl kf169_6 rfl ?_
  refine p_iconst 7 c189_4 rfl ?_
  refine p_icmp 18 10 c189_7 rfl rfl (yc_ne (hR.rg _ _) (rgD rfl)) (fun hb6912 k6913 hk6913 => ?_) (fun hb6912 k6914 hk6914 => ?_)
  · have hX6915 := hX.trans (if_neg hb6912)
    refine p_aload 19 c189_18 rfl rfl ?_
    refine p_dup 20 c189_19 rfl rfl ?_
    refine p_getX 23 (m 169 6) c189_20 rfl kf169_6 rfl ?_
    refine p_iconst 24 c189_23 rfl ?_
    refine p_iadd 25 c189_24 rfl ?_
    refine p_putI 28 c189_25 rfl kf169_6 ?_
    have hR6916 := hR.up 169 6 (v := wr ((m 169 6) + 1)) (nselD rfl) (rg_wr _)
    exact p_return c189_28 (Hr _ hX6915 hR6916 _)
  · have hX6917 := hX.trans (if_pos (Classical.not_not.mp hb6912))
    exact p_throw c189_10 (fun x n' => Ht _ _ hX6917 rfl hR x n')
def B190_13 (f : Nat) (rc : Int → Int → Int → yM → Option ((Int ⊕ Nat) × yM)) (A : Nat) (x1 : Int) (x2 : Int) (a3 : Nat) (x4 : Int) (m : yM) : Option ((Int × yM) ⊕ ((Int × yM) ⊕ ((Int ⊕ Nat) × yM))) := (if 200 < x4 then (some (.inr (.inl (x4, m)))) else (if 0 ≤ x2 ∧ x2 < ((4 : Nat) : Int) then (if m (252 + (x2).toNat) (m a3 3).toNat = (-1) then (some (.inr (.inl (x4, m)))) else (bT (rc (wr (x1 + 1)) (m a3 11) x2 m) (fun r6988 m6990 => (if r6988 = 0 then (bT (F189 f m6990) (fun _ m7006 => (some (.inl ((wr (x4 + 1)), m7006)))) (fun e' m7006 => (some (.inr (.inr (.inr e', m7006)))))) else (some (.inr (.inr (.inl 1, m6990)))))) (fun e' m6990 => (some (.inr (.inr (.inr e', m6990))))))) else none))
set_option maxRecDepth 100000 in
theorem tB190_13 {L : Nat} {xs : Nat → Int32} {Q : xO → yM → Nat → Prop} {k d n : Nat} {c : yS3} {f : Nat} {rc : Int → Int → Int → yM → Option ((Int ⊕ Nat) × yM)} {A : Nat} {x1 : Int} {x2 : Int} {a3 : Nat} {x4 : Int} {m : yM} (hk : k ≤ f) (hrc : ∀ k', k' < k → ∀ {d' : Nat} {x1 x2 x3 : Int} {m' : yM} {n' : Nat}, rg x1 → rg x2 → rg x3 → RM c m' → PC (gZ L xs) k' d' 197 [.ref 169, yI x1, yI x2, yI x3] m' n' (qEI (fun e => e = 10 ∨ e = 11 ∨ e = 12 ∨ e = 13) c (rc x1 x2 x3 m'))) (hc : c.2.2 = pX A) (hA : (A = 256 ∨ A = 316)) (gx1 : rg x1) (gx2 : rg x2) (hs3 : (276 ≤ a3 ∧ a3 < 316) ∨ (336 ≤ a3 ∧ a3 < 376)) (gx4 : rg x4) (hR : RM c m) (Hn : ∀ (y0 : Int) (m' : yM) (n' : Nat), B190_13 f rc A x1 x2 a3 x4 m = some (.inl (y0, m')) → rg y0 → RM c m' → ∀ k', k' < k → PW (gZ L xs) k' 190 d 13 [some (.ref 169), some (yI x1), some (yI x2), some (.ref a3), some (yI y0)] [] m' n' Q) (He : ∀ (y0 : Int) (m' : yM) (n' : Nat), B190_13 f rc A x1 x2 a3 x4 m = some (.inr (.inl (y0, m'))) → rg y0 → RM c m' → ∀ k', k' ≤ k → PW (gZ L xs) k' 190 d 63 [some (.ref 169), some (yI x1), some (yI x2), some (.ref a3), some (yI y0)] [] m' n' Q) (Hr : ∀ r m', B190_13 f rc A x1 x2 a3 x4 m = some (.inr (.inr (.inl r, m'))) → rg r → RM c m' → ∀ n', Q (.inl (some (yI r))) m' n') (Ht : ∀ e m', B190_13 f rc A x1 x2 a3 x4 m = some (.inr (.inr (.inr e, m'))) → (fun e => e = 10 ∨ e = 11 ∨ e = 12 ∨ e = 13) e → RM c m' → ∀ x n', Q (.inr (e, x)) m' n') : PW (gZ L xs) k 190 d 13 [some (.ref 169), some (yI x1), some (yI x2), some (.ref a3), some (yI x4)] [] m n Q := by
  have hX : B190_13 f rc A x1 x2 a3 x4 m = B190_13 f rc A x1 x2 a3 x4 m := rfl
  refine p_iload 15 c190_13 rfl rfl ?_
  refine p_iconst 18 c190_15 rfl ?_
  refine p_icmp 63 21 c190_18 rfl rfl (yc_gt gx4 (rgD rfl)) (fun hb6971 k6972 hk6972 => ?_) (fun hb6971 k6973 hk6973 => ?_)
  · have hX6974 := hX.trans (if_pos hb6971)
    exact He _ _ _ hX6974 gx4 hR _ (by omega)
  · have hX6975 := hX.trans (if_neg hb6971)
    refine p_aload 22 c190_21 rfl rfl ?_
    refine p_getR 25 c190_22 rfl kf169_3 ?_
    refine p_iload 26 c190_25 rfl rfl ?_
    refine p_aaX 27 c190_26 rfl kr251 gx2 (fun hx6976 => ?_)
    have hX6977 := hX6975.trans (if_pos hx6976)
    refine p_aload 28 c190_27 rfl rfl ?_
    refine p_getX 31 (m a3 3) c190_28 rfl (kS_3 hs3) rfl ?_
    refine p_iaX 32 (m (252 + (x2).toNat) (m a3 3).toNat) c190_31 rfl (kR251 hx6976) (hR.rg _ _) rfl (fun hx6978 => ?_)
    refine p_iconst 33 c190_32 rfl ?_
    refine p_icmp 63 36 c190_33 rfl rfl (yc_eq (hR.rg _ _) (rgD rfl)) (fun hb6979 k6980 hk6980 => ?_) (fun hb6979 k6981 hk6981 => ?_)
    · have hX6982 := hX6977.trans (if_pos hb6979)
      exact He _ _ _ hX6982 gx4 hR _ (by omega)
    · have hX6983 := hX6977.trans (if_neg hb6979)
      refine p_aload 37 c190_36 rfl rfl ?_
      refine p_iload 38 c190_37 rfl rfl ?_
      refine p_iconst 39 c190_38 rfl ?_
      refine p_iadd 40 c190_39 rfl ?_
      refine p_aload 41 c190_40 rfl rfl ?_
      refine p_getX 44 (m a3 11) c190_41 rfl (kS_11 hs3) rfl ?_
      refine p_iload 45 c190_44 rfl rfl ?_
      refine p_cTI 48 [.ref 169, yI (wr (x1 + 1)), yI (m a3 11), yI x2] [] c190_45 rfl rfl rfl (fun k' hk' d' => hrc k' (by omega) (rg_wr _) (hR.rg _ _) gx2 hR) (fun r6988 m6990 hF6986 hg6987 hR6991 n6985 k6984 hk6984 => ?_) (fun e' q6995 m6990 n' hF6986 hE6993 hR6994 => ?_)
      · have hX6989 := hX6983.trans (bT_l hF6986)
        refine p_if 53 51 c190_48 rfl rfl (yz_eq hg6987) (fun hb6996 k6997 hk6997 => ?_) (fun hb6996 k6998 hk6998 => ?_)
        · have hX6999 := hX6989.trans (if_pos hb6996)
          refine p_aload 54 c190_53 rfl rfl ?_
          refine p_cTV 57 [.ref 169] [] c190_54 rfl rfl rfl (fun k' hk' d' => d189 (f := f) (by omega) hR6991) (fun m7006 hF7002 hR7007 n7001 k7000 hk7000 => ?_) (fun e' q7011 m7006 n' hF7002 hE7009 hR7010 => ?_)
          · have hX7005 := hX6999.trans (bT_l hF7002)
            refine p_iinc 60 c190_57 rfl rfl rfl ?_
            refine p_gotoD 13 c190_60 rfl (fun k7012 hk7012 => ?_)
            exact Hn _ _ _ hX7005 (rg_wr _) hR7007 _ (by omega)
          · exact ⟨fun pq hpq => absurd ((khm rfl).symm.trans hpq) (by simp), fun _ => Ht e' m7006 (hX6999.trans (bT_r hF7002)) (by have q := hE7009; simp only at q ⊢; omega) hR7010 q7011 n'⟩
        · have hX7013 := hX6989.trans (if_neg hb6996)
          refine p_iconst 52 c190_51 rfl ?_
          exact p_ireturn c190_52 (Hr _ _ hX7013 (rgD rfl) hR6991 _)
      · exact ⟨fun pq hpq => absurd ((khm rfl).symm.trans hpq) (by simp), fun _ => Ht e' m6990 (hX6983.trans (bT_r hF6986)) hE6993 hR6994 q6995 n'⟩
def F190 (f : Nat) (rc : Int → Int → Int → yM → Option ((Int ⊕ Nat) × yM)) (A : Nat) (x1 : Int) (x2 : Int) (m : yM) : Option ((Int ⊕ Nat) × yM) := (if 0 ≤ x1 ∧ x1 < ((40 : Nat) : Int) then (bL (yloop (fun (l : Int) ml => B190_13 f rc A x1 x2 (A + 20 + (x1).toNat) l ml) f 0 m) (fun l7014 m7020 => (some (.inl 0, m7020))) (fun r mr => some (r, mr))) else none)
set_option maxRecDepth 100000 in
theorem d190 {L : Nat} {xs : Nat → Int32} {k d n : Nat} {c : yS3} {f : Nat} {rc : Int → Int → Int → yM → Option ((Int ⊕ Nat) × yM)} {A : Nat} {x1 : Int} {x2 : Int} {m : yM} (hk : k ≤ f) (hrc : ∀ k', k' < k → ∀ {d' : Nat} {x1 x2 x3 : Int} {m' : yM} {n' : Nat}, rg x1 → rg x2 → rg x3 → RM c m' → PC (gZ L xs) k' d' 197 [.ref 169, yI x1, yI x2, yI x3] m' n' (qEI (fun e => e = 10 ∨ e = 11 ∨ e = 12 ∨ e = 13) c (rc x1 x2 x3 m'))) (hc : c.2.2 = pX A) (hA : (A = 256 ∨ A = 316)) (gx1 : rg x1) (gx2 : rg x2) (hR : RM c m) : PC (gZ L xs) k d 190 [.ref 169, yI x1, yI x2] m n (qEI (fun e => e = 10 ∨ e = 11 ∨ e = 12 ∨ e = 13) c (F190 f rc A x1 x2 m)) := by
  have hX : F190 f rc A x1 x2 m = F190 f rc A x1 x2 m := rfl
  have Hr : ∀ r m', F190 f rc A x1 x2 m = some (.inl r, m') → rg r → RM c m' → ∀ n' : Nat, (qEI (fun e => e = 10 ∨ e = 11 ∨ e = 12 ∨ e = 13) c (F190 f rc A x1 x2 m)) (.inl (some (yI r))) m' n' := fun r m' e h1 h2 n' => Or.inl ⟨r, rfl, h1, h2, e⟩
  have Ht : ∀ e m', F190 f rc A x1 x2 m = some (.inr e, m') → (fun e => e = 10 ∨ e = 11 ∨ e = 12 ∨ e = 13) e → RM c m' → ∀ x n' : Nat, (qEI (fun e => e = 10 ∨ e = 11 ∨ e = 12 ∨ e = 13) c (F190 f rc A x1 x2 m)) (.inr (e, x)) m' n' := fun e m' e1 h1 h2 x n' => Or.inr ⟨e, x, rfl, h1, h2, e1⟩
  refine PC.mk [some (.ref 169), some (yI x1), some (yI x2), none, none] kn190 rfl ?_
  refine p_aload 1 c190_0 rfl rfl ?_
  refine p_getV 4 (.ref A) c190_1 rfl kf169_4 (pX_of hA hR.2.2.2.2.2 hc) ?_
  refine p_getR 7 c190_4 rfl (kP_6 hA) ?_
  refine p_iload 8 c190_7 rfl rfl ?_
  refine p_aaX 9 c190_8 rfl (kPr_7 hA) gx1 (fun hx6969 => ?_)
  have hX6970 := hX.trans (if_pos hx6969)
  refine p_astore 10 c190_9 rfl rfl ?_
  refine p_iconst 11 c190_10 rfl ?_
  refine p_istore 13 c190_11 rfl rfl ?_
  refine PW.loop (K := k) (pce := 63) (fun (l : Int) ml => B190_13 f rc A x1 x2 (A + 20 + (x1).toNat) l ml) (fun (l : Int) j => [some (.ref 169), some (yI x1), some (yI x2), some (.ref (A + 20 + (x1).toNat)), some (yI l)]) (fun (l : Int) => rg l) (RM c) (fun (r' : (Int ⊕ Nat)) m' => (∀ v, r' = .inl v → rg v → RM c m' → ∀ n' : Nat, (qEI (fun e => e = 10 ∨ e = 11 ∨ e = 12 ∨ e = 13) c (F190 f rc A x1 x2 m)) (.inl (some (yI v))) m' n') ∧ (∀ e, r' = .inr e → (fun e => e = 10 ∨ e = 11 ∨ e = 12 ∨ e = 13) e → RM c m' → ∀ x n' : Nat, (qEI (fun e => e = 10 ∨ e = 11 ∨ e = 12 ∨ e = 13) c (F190 f rc A x1 x2 m)) (.inr (e, x)) m' n')) (fun k' hk' l j m' n' hl hI Hn' He' Hr' => tB190_13 (f := f) (by omega) (fun k' h' => hrc k' (by omega)) hc hA gx1 gx2 (kSr hA hx6969) hl hI (fun y0 m2 n2 e h0 hR2 => Hn' y0 (fun q => ([none, none, none, none, none] : List (Option Value)).getD q none) m2 n2 e h0 hR2) (fun y0 m2 n2 e h0 hR2 => He' y0 (fun q => ([none, none, none, none, none] : List (Option Value)).getD q none) m2 n2 e h0 hR2) (fun v m2 e => (Hr' (.inl v) m2 e).1 v rfl) (fun v m2 e => (Hr' (.inr v) m2 e).2 v rfl)) f k (by omega) (Nat.le_refl _) 0 (fun q => ([some (.ref 169), some (yI x1), some (yI x2), some (.ref (A + 20 + (x1).toNat)), some (yI 0)] : xL).getD q none) _ _ (rgD rfl) hR (fun l7014 j7017 m7020 n7019 e7016 hl7015 hR7021 k7018 hk7018 => ?_) (fun r' m' e' => ?_)
  · have hX7022 := hX6970.trans (bL_l e7016)
    refine p_iconst 64 c190_63 rfl ?_
    exact p_ireturn c190_64 (Hr _ _ hX7022 (rgD rfl) hR7021 _)
  · exact ⟨fun v hv => Hr v m' ((hX6970.trans (bL_r e')).trans (by rw [hv])), fun v hv => Ht v m' ((hX6970.trans (bL_r e')).trans (by rw [hv]))⟩
def F191 (f : Nat) (A : Nat) (x1 : Int) (m : yM) : Option ((Int ⊕ Nat) × yM) := (if x1 = (-1) then (some (.inr 11, m)) else (some (.inl (m (A + 8) (m 219 x1.toNat).toNat), m)))
set_option maxRecDepth 100000 in
theorem d191 {L : Nat} {xs : Nat → Int32} {k d n : Nat} {c : yS3} {f : Nat} {A : Nat} {x1 : Int} {m : yM} (hk : k ≤ f) (hc : c.2.2 = pX A) (hA : (A = 256 ∨ A = 316)) (gx1 : rg x1) (hR : RM c m) : PC (gZ L xs) k d 191 [.ref 169, yI x1] m n (qEI (fun e => e = 11) c (F191 f A x1 m)) := by
  have hX : F191 f A x1 m = F191 f A x1 m := rfl
  have Hr : ∀ r m', F191 f A x1 m = some (.inl r, m') → rg r → RM c m' → ∀ n' : Nat, (qEI (fun e => e = 11) c (F191 f A x1 m)) (.inl (some (yI r))) m' n' := fun r m' e h1 h2 n' => Or.inl ⟨r, rfl, h1, h2, e⟩
  have Ht : ∀ e m', F191 f A x1 m = some (.inr e, m') → (fun e => e = 11) e → RM c m' → ∀ x n' : Nat, (qEI (fun e => e = 11) c (F191 f A x1 m)) (.inr (e, x)) m' n' := fun e m' e1 h1 h2 x n' => Or.inr ⟨e, x, rfl, h1, h2, e1⟩
  refine PC.mk [some (.ref 169), some (yI x1)] kn191 rfl ?_
  refine p_iload 1 c191_0 rfl rfl ?_
  refine p_iconst 2 c191_1 rfl ?_
  refine p_icmp 13 5 c191_2 rfl rfl (yc_ne gx1 (rgD rfl)) (fun hb7053 k7054 hk7054 => ?_) (fun hb7053 k7055 hk7055 => ?_)
  · have hX7056 := hX.trans (if_neg hb7053)
    refine p_aload 14 c191_13 rfl rfl ?_
    refine p_getV 17 (.ref A) c191_14 rfl kf169_4 (pX_of hA hR.2.2.2.2.2 hc) ?_
    refine p_getR 20 c191_17 rfl (kP_7 hA) ?_
    refine p_aload 21 c191_20 rfl rfl ?_
    refine p_getR 24 c191_21 rfl kf169_1 ?_
    refine p_iload 25 c191_24 rfl rfl ?_
    refine p_iaX 26 (m 219 x1.toNat) c191_25 rfl ka219 gx1 rfl (fun hx7057 => ?_)
    refine p_iaX 27 (m (A + 8) (m 219 x1.toNat).toNat) c191_26 rfl (kPa_8 hA) (hR.rg _ _) rfl (fun hx7058 => ?_)
    exact p_ireturn c191_27 (Hr _ _ hX7056 (hR.rg _ _) hR _)
  · have hX7059 := hX.trans (if_pos (Classical.not_not.mp hb7053))
    exact p_throw c191_5 (fun x n' => Ht _ _ hX7059 rfl hR x n')
def F192 (f : Nat) (A : Nat) (x1 : Int) (x2 : Int) (m : yM) : Option ((Int ⊕ Nat) × yM) := (bT (F191 f A x1 m) (fun r7062 m7064 => (if F47 A r7062 x2 m7064 = 0 then (some (.inr 13, m7064)) else (some (.inl x1, m7064)))) (fun e' m7064 => (some (.inr e', m7064))))
set_option maxRecDepth 100000 in
theorem d192 {L : Nat} {xs : Nat → Int32} {k d n : Nat} {c : yS3} {f : Nat} {A : Nat} {x1 : Int} {x2 : Int} {m : yM} (hk : k ≤ f) (hc : c.2.2 = pX A) (hA : (A = 256 ∨ A = 316)) (gx1 : rg x1) (gx2 : rg x2) (hR : RM c m) : PC (gZ L xs) k d 192 [.ref 169, yI x1, yI x2] m n (qEI (fun e => e = 11 ∨ e = 13) c (F192 f A x1 x2 m)) := by
  have hX : F192 f A x1 x2 m = F192 f A x1 x2 m := rfl
  have Hr : ∀ r m', F192 f A x1 x2 m = some (.inl r, m') → rg r → RM c m' → ∀ n' : Nat, (qEI (fun e => e = 11 ∨ e = 13) c (F192 f A x1 x2 m)) (.inl (some (yI r))) m' n' := fun r m' e h1 h2 n' => Or.inl ⟨r, rfl, h1, h2, e⟩
  have Ht : ∀ e m', F192 f A x1 x2 m = some (.inr e, m') → (fun e => e = 11 ∨ e = 13) e → RM c m' → ∀ x n' : Nat, (qEI (fun e => e = 11 ∨ e = 13) c (F192 f A x1 x2 m)) (.inr (e, x)) m' n' := fun e m' e1 h1 h2 x n' => Or.inr ⟨e, x, rfl, h1, h2, e1⟩
  refine PC.mk [some (.ref 169), some (yI x1), some (yI x2)] kn192 rfl ?_
  refine p_aload 1 c192_0 rfl rfl ?_
  refine p_getV 4 (.ref A) c192_1 rfl kf169_4 (pX_of hA hR.2.2.2.2.2 hc) ?_
  refine p_aload 5 c192_4 rfl rfl ?_
  refine p_iload 6 c192_5 rfl rfl ?_
  refine p_cTI 9 [.ref 169, yI x1] [.ref A] c192_6 rfl rfl rfl (fun k' hk' d' => d191 (f := f) (by omega) hc hA gx1 hR) (fun r7062 m7064 hF7060 hg7061 hR7065 n7052 k7051 hk7051 => ?_) (fun e' q7069 m7064 n' hF7060 hE7067 hR7068 => ?_)
  · have hX7063 := hX.trans (bT_l hF7060)
    refine p_iload 10 c192_9 rfl rfl ?_
    refine p_cX 13 [.ref A, yI r7062, yI x2] [] c192_10 rfl rfl rfl (fun k' hk' d' => d47 hA hg7061 gx2 hR7065) (fun hg7072 n7071 k7070 hk7070 => ?_)
    refine p_if 24 16 c192_13 rfl rfl (yz_ne hg7072) (fun hb7073 k7074 hk7074 => ?_) (fun hb7073 k7075 hk7075 => ?_)
    · have hX7076 := hX7063.trans (if_neg hb7073)
      refine p_iload 25 c192_24 rfl rfl ?_
      exact p_ireturn c192_25 (Hr _ _ hX7076 gx1 hR7065 _)
    · have hX7077 := hX7063.trans (if_pos (Classical.not_not.mp hb7073))
      exact p_throw c192_16 (fun x n' => Ht _ _ hX7077 (Or.inr rfl) hR7065 x n')
  · exact ⟨fun pq hpq => absurd ((khm rfl).symm.trans hpq) (by simp), fun _ => Ht e' m7064 (hX.trans (bT_r hF7060)) (by have q := hE7067; simp only at q ⊢; omega) hR7068 q7069 n'⟩
def J193_137 (f : Nat) (rc : Int → Int → Int → yM → Option ((Int ⊕ Nat) × yM)) (A : Nat) (a1 : Nat) (x2 : Int) (a3 : Nat) (a6 : Nat) (a7 : Nat) (m : yM) : Option ((Unit ⊕ Nat) × yM) := (bT (rc (m a6 4) (m a6 5) (wr (x2 + 1)) m) (fun r7161 m7163 => (if m7163 a1 2 = (-1) then (some (.inl (), m7163)) else (bU (F188_48 f a3 (m7163 a1 2) (m7163 a7 (m7163 a6 2).toNat) m7163) (fun m7181 => (some (.inl (), m7181)))))) (fun e' m7163 => (some (.inr e', m7163))))
set_option maxRecDepth 100000 in
theorem tJ193_137 {L : Nat} {xs : Nat → Int32} {Q : xO → yM → Nat → Prop} {k d n : Nat} {c : yS3} {f : Nat} {rc : Int → Int → Int → yM → Option ((Int ⊕ Nat) × yM)} {A : Nat} {a1 : Nat} {x2 : Int} {a3 : Nat} {a6 : Nat} {a7 : Nat} {m : yM} {j4 j5 : Option Value} (hk : k ≤ f) (hrc : ∀ k', k' < k → ∀ {d' : Nat} {x1 x2 x3 : Int} {m' : yM} {n' : Nat}, rg x1 → rg x2 → rg x3 → RM c m' → PC (gZ L xs) k' d' 197 [.ref 169, yI x1, yI x2, yI x3] m' n' (qEI (fun e => e = 10 ∨ e = 11 ∨ e = 12 ∨ e = 13) c (rc x1 x2 x3 m'))) (hc : c.2.2 = pX A) (hA : (A = 256 ∨ A = 316)) (hs1 : (276 ≤ a1 ∧ a1 < 316) ∨ (336 ≤ a1 ∧ a1 < 376)) (gx2 : rg x2) (hr3 : yarr gSh 414 a3 = some (0, 48)) (hq3 : (252 ≤ a3 ∧ a3 < 256)) (hm6 : (266 ≤ a6 ∧ a6 < 276) ∨ (326 ≤ a6 ∧ a6 < 336)) (hr7 : yarr gSh 414 a7 = some (0, 48)) (hq7 : (252 ≤ a7 ∧ a7 < 256)) (hR : RM c m) (Hr : ∀ m', J193_137 f rc A a1 x2 a3 a6 a7 m = some (.inl (), m') → RM c m' → ∀ n', Q (.inl none) m' n') (Ht : ∀ e m', J193_137 f rc A a1 x2 a3 a6 a7 m = some (.inr e, m') → (fun e => e = 10 ∨ e = 11 ∨ e = 12 ∨ e = 13) e → RM c m' → ∀ x n', Q (.inr (e, x)) m' n') : PW (gZ L xs) k 193 d 137 [some (.ref 169), some (.ref a1), some (yI x2), some (.ref a3), j4, j5, some (.ref a6), some (.ref a7)] [] m n Q := by
  have hX : J193_137 f rc A a1 x2 a3 a6 a7 m = J193_137 f rc A a1 x2 a3 a6 a7 m := rfl
  refine p_aload 138 c193_137 rfl rfl ?_
  refine p_aload 140 c193_138 rfl rfl ?_
  refine p_getX 143 (m a6 4) c193_140 rfl (kM_4 hm6) rfl ?_
  refine p_aload 145 c193_143 rfl rfl ?_
  refine p_getX 148 (m a6 5) c193_145 rfl (kM_5 hm6) rfl ?_
  refine p_iload 149 c193_148 rfl rfl ?_
  refine p_iconst 150 c193_149 rfl ?_
  refine p_iadd 151 c193_150 rfl ?_
  refine p_cTI 154 [.ref 169, yI (m a6 4), yI (m a6 5), yI (wr (x2 + 1))] [] c193_151 rfl rfl rfl (fun k' hk' d' => hrc k' (by omega) (hR.rg _ _) (hR.rg _ _) (rg_wr _) hR) (fun r7161 m7163 hF7159 hg7160 hR7164 n7158 k7157 hk7157 => ?_) (fun e' q7168 m7163 n' hF7159 hE7166 hR7167 => ?_)
  · have hX7162 := hX.trans (bT_l hF7159)
    refine p_pop 155 c193_154 rfl rfl ?_
    refine p_aload 156 c193_155 rfl rfl ?_
    refine p_getX 159 (m7163 a1 2) c193_156 rfl (kS_2 hs1) rfl ?_
    refine p_iconst 160 c193_159 rfl ?_
    refine p_icmp 180 163 c193_160 rfl rfl (yc_eq (hR7164.rg _ _) (rgD rfl)) (fun hb7169 k7170 hk7170 => ?_) (fun hb7169 k7171 hk7171 => ?_)
    · have hX7172 := hX7162.trans (if_pos hb7169)
      exact p_return c193_180 (Hr _ hX7172 hR7164 _)
    · have hX7173 := hX7162.trans (if_neg hb7169)
      refine p_aload 164 c193_163 rfl rfl ?_
      refine p_aload 165 c193_164 rfl rfl ?_
      refine p_aload 166 c193_165 rfl rfl ?_
      refine p_getX 169 (m7163 a1 2) c193_166 rfl (kS_2 hs1) rfl ?_
      refine p_aload 171 c193_169 rfl rfl ?_
      refine p_aload 173 c193_171 rfl rfl ?_
      refine p_getX 176 (m7163 a6 2) c193_173 rfl (kM_2 hm6) rfl ?_
      refine p_iaX 177 (m7163 a7 (m7163 a6 2).toNat) c193_176 rfl hr7 (hR7164.rg _ _) rfl (fun hx7174 => ?_)
      refine p_cV 180 [.ref 169, .ref a3, yI (m7163 a1 2), yI (m7163 a7 (m7163 a6 2).toNat)] [] c193_177 rfl rfl rfl (fun k' hk' d' => d188_48 (f := f) (by omega) hr3 (by omega) (hR7164.rg _ _) (hR7164.rg _ _) hR7164) (fun m7181 hF7177 hR7182 n7176 k7175 hk7175 => ?_)
      have hX7180 := hX7173.trans (bU_s hF7177)
      exact p_return c193_180 (Hr _ hX7180 hR7182 _)
  · exact ⟨fun pq hpq => absurd ((khm rfl).symm.trans hpq) (by simp), fun _ => Ht e' m7163 (hX.trans (bT_r hF7159)) hE7166 hR7167 q7168 n'⟩
def J193_111 (f : Nat) (rc : Int → Int → Int → yM → Option ((Int ⊕ Nat) × yM)) (A : Nat) (a1 : Nat) (x2 : Int) (a3 : Nat) (a6 : Nat) (a7 : Nat) (m : yM) : Option ((Unit ⊕ Nat) × yM) := (if 1 < m a1 8 then (bU (F188_48 f a7 (F87 a6 1 m) (m a3 (m a1 10).toNat) m) (fun m7194 => (J193_137 f rc A a1 x2 a3 a6 a7 m7194))) else (J193_137 f rc A a1 x2 a3 a6 a7 m))
set_option maxRecDepth 100000 in
theorem tJ193_111 {L : Nat} {xs : Nat → Int32} {Q : xO → yM → Nat → Prop} {k d n : Nat} {c : yS3} {f : Nat} {rc : Int → Int → Int → yM → Option ((Int ⊕ Nat) × yM)} {A : Nat} {a1 : Nat} {x2 : Int} {a3 : Nat} {a6 : Nat} {a7 : Nat} {m : yM} {j4 j5 : Option Value} (hk : k ≤ f) (hrc : ∀ k', k' < k → ∀ {d' : Nat} {x1 x2 x3 : Int} {m' : yM} {n' : Nat}, rg x1 → rg x2 → rg x3 → RM c m' → PC (gZ L xs) k' d' 197 [.ref 169, yI x1, yI x2, yI x3] m' n' (qEI (fun e => e = 10 ∨ e = 11 ∨ e = 12 ∨ e = 13) c (rc x1 x2 x3 m'))) (hc : c.2.2 = pX A) (hA : (A = 256 ∨ A = 316)) (hs1 : (276 ≤ a1 ∧ a1 < 316) ∨ (336 ≤ a1 ∧ a1 < 376)) (gx2 : rg x2) (hr3 : yarr gSh 414 a3 = some (0, 48)) (hq3 : (252 ≤ a3 ∧ a3 < 256)) (hm6 : (266 ≤ a6 ∧ a6 < 276) ∨ (326 ≤ a6 ∧ a6 < 336)) (hr7 : yarr gSh 414 a7 = some (0, 48)) (hq7 : (252 ≤ a7 ∧ a7 < 256)) (hR : RM c m) (Hr : ∀ m', J193_111 f rc A a1 x2 a3 a6 a7 m = some (.inl (), m') → RM c m' → ∀ n', Q (.inl none) m' n') (Ht : ∀ e m', J193_111 f rc A a1 x2 a3 a6 a7 m = some (.inr e, m') → (fun e => e = 10 ∨ e = 11 ∨ e = 12 ∨ e = 13) e → RM c m' → ∀ x n', Q (.inr (e, x)) m' n') : PW (gZ L xs) k 193 d 111 [some (.ref 169), some (.ref a1), some (yI x2), some (.ref a3), j4, j5, some (.ref a6), some (.ref a7)] [] m n Q := by
  have hX : J193_111 f rc A a1 x2 a3 a6 a7 m = J193_111 f rc A a1 x2 a3 a6 a7 m := rfl
  refine p_aload 112 c193_111 rfl rfl ?_
  refine p_getX 115 (m a1 8) c193_112 rfl (kS_8 hs1) rfl ?_
  refine p_iconst 116 c193_115 rfl ?_
  refine p_icmp 137 119 c193_116 rfl rfl ((yc_le (hR.rg _ _) (rgD rfl)).trans Int.not_lt.symm) (fun hb7153 k7154 hk7154 => ?_) (fun hb7153 k7155 hk7155 => ?_)
  · have hX7156 := hX.trans (if_neg hb7153)
    exact tJ193_137 (f := f) (by omega) (fun k' h' => hrc k' (by omega)) hc hA hs1 gx2 hr3 (by omega) hm6 hr7 (by omega) hR (fun m' e' => Hr m' (hX7156.trans e')) (fun r' m' e' => Ht r' m' (hX7156.trans e'))
  · have hX7183 := hX.trans (if_pos (Classical.not_not.mp hb7153))
    refine p_aload 120 c193_119 rfl rfl ?_
    refine p_aload 122 c193_120 rfl rfl ?_
    refine p_aload 124 c193_122 rfl rfl ?_
    refine p_iconst 125 c193_124 rfl ?_
    refine p_cX 128 [.ref a6, yI 1] [.ref a7, .ref 169] c193_125 rfl rfl rfl (fun k' hk' d' => d87 hm6 (rgD rfl) hR) (fun hg7186 n7185 k7184 hk7184 => ?_)
    refine p_aload 129 c193_128 rfl rfl ?_
    refine p_aload 130 c193_129 rfl rfl ?_
    refine p_getX 133 (m a1 10) c193_130 rfl (kS_10 hs1) rfl ?_
    refine p_iaX 134 (m a3 (m a1 10).toNat) c193_133 rfl hr3 (hR.rg _ _) rfl (fun hx7187 => ?_)
    refine p_cV 137 [.ref 169, .ref a7, yI (F87 a6 1 m), yI (m a3 (m a1 10).toNat)] [] c193_134 rfl rfl rfl (fun k' hk' d' => d188_48 (f := f) (by omega) hr7 (by omega) hg7186 (hR.rg _ _) hR) (fun m7194 hF7190 hR7195 n7189 k7188 hk7188 => ?_)
    have hX7193 := hX7183.trans (bU_s hF7190)
    exact tJ193_137 (f := f) (by omega) (fun k' h' => hrc k' (by omega)) hc hA hs1 gx2 hr3 (by omega) hm6 hr7 (by omega) hR7195 (fun m' e' => Hr m' (hX7193.trans e')) (fun r' m' e' => Ht r' m' (hX7193.trans e'))
def F193 (f : Nat) (rc : Int → Int → Int → yM → Option ((Int ⊕ Nat) × yM)) (A : Nat) (a1 : Nat) (x2 : Int) (m : yM) : Option ((Unit ⊕ Nat) × yM) := (if 0 ≤ x2 ∧ x2 < ((4 : Nat) : Int) then (bT (F191 f A (m (252 + (x2).toNat) (m a1 3).toNat) m) (fun r7105 m7107 => (bP (F72 f A r7105 (m7107 a1 4) (m7107 a1 8) m7107) (fun r7117 => (if r7117 = (-1) then (some (.inr 13, m7107)) else (if 0 ≤ r7117 ∧ r7117 < ((10 : Nat) : Int) then (bT (F187 f (wr (x2 + 1)) m7107) (fun r7129 m7131 => (if 252 ≤ r7129 ∧ r7129 < 256 then (bU (F188_48 f r7129 (F57 (A + 10 + (r7117).toNat) m7131) (m (252 + (x2).toNat) (m a1 3).toNat) m7131) (fun m7147 => (if 0 < m7147 a1 8 then (bU (F188_48 f r7129 (F87 (A + 10 + (r7117).toNat) 0 m7147) (m7147 (252 + (x2).toNat) (m7147 a1 9).toNat) m7147) (fun m7207 => (J193_111 f rc A a1 x2 (252 + (x2).toNat) (A + 10 + (r7117).toNat) r7129 m7207))) else (J193_111 f rc A a1 x2 (252 + (x2).toNat) (A + 10 + (r7117).toNat) r7129 m7147)))) else none)) (fun e' m7131 => (some (.inr e', m7131)))) else none))))) (fun e' m7107 => (some (.inr e', m7107)))) else none)
set_option maxRecDepth 100000 in
theorem d193 {L : Nat} {xs : Nat → Int32} {k d n : Nat} {c : yS3} {f : Nat} {rc : Int → Int → Int → yM → Option ((Int ⊕ Nat) × yM)} {A : Nat} {a1 : Nat} {x2 : Int} {m : yM} (hk : k ≤ f) (hrc : ∀ k', k' < k → ∀ {d' : Nat} {x1 x2 x3 : Int} {m' : yM} {n' : Nat}, rg x1 → rg x2 → rg x3 → RM c m' → PC (gZ L xs) k' d' 197 [.ref 169, yI x1, yI x2, yI x3] m' n' (qEI (fun e => e = 10 ∨ e = 11 ∨ e = 12 ∨ e = 13) c (rc x1 x2 x3 m'))) (hc : c.2.2 = pX A) (hA : (A = 256 ∨ A = 316)) (hs1 : (276 ≤ a1 ∧ a1 < 316) ∨ (336 ≤ a1 ∧ a1 < 376)) (gx2 : rg x2) (hR : RM c m) : PC (gZ L xs) k d 193 [.ref 169, .ref a1, yI x2] m n (qEV (fun e => e = 10 ∨ e = 11 ∨ e = 12 ∨ e = 13) c (F193 f rc A a1 x2 m)) := by
  have hX : F193 f rc A a1 x2 m = F193 f rc A a1 x2 m := rfl
  have Hr : ∀ m', F193 f rc A a1 x2 m = some (.inl (), m') → RM c m' → ∀ n' : Nat, (qEV (fun e => e = 10 ∨ e = 11 ∨ e = 12 ∨ e = 13) c (F193 f rc A a1 x2 m)) (.inl none) m' n' := fun m' e h n' => Or.inl ⟨rfl, h, e⟩
  have Ht : ∀ e m', F193 f rc A a1 x2 m = some (.inr e, m') → (fun e => e = 10 ∨ e = 11 ∨ e = 12 ∨ e = 13) e → RM c m' → ∀ x n' : Nat, (qEV (fun e => e = 10 ∨ e = 11 ∨ e = 12 ∨ e = 13) c (F193 f rc A a1 x2 m)) (.inr (e, x)) m' n' := fun e m' e1 h1 h2 x n' => Or.inr ⟨e, x, rfl, h1, h2, e1⟩
  refine PC.mk [some (.ref 169), some (.ref a1), some (yI x2), none, none, none, none, none] kn193 rfl ?_
  refine p_aload 1 c193_0 rfl rfl ?_
  refine p_getR 4 c193_1 rfl kf169_3 ?_
  refine p_iload 5 c193_4 rfl rfl ?_
  refine p_aaX 6 c193_5 rfl kr251 gx2 (fun hx7098 => ?_)
  have hX7099 := hX.trans (if_pos hx7098)
  refine p_astore 7 c193_6 rfl rfl ?_
  refine p_aload 8 c193_7 rfl rfl ?_
  refine p_aload 9 c193_8 rfl rfl ?_
  refine p_getX 12 (m a1 3) c193_9 rfl (kS_3 hs1) rfl ?_
  refine p_iaX 13 (m (252 + (x2).toNat) (m a1 3).toNat) c193_12 rfl (kR251 hx7098) (hR.rg _ _) rfl (fun hx7100 => ?_)
  refine p_istore 15 c193_13 rfl rfl ?_
  refine p_aload 16 c193_15 rfl rfl ?_
  refine p_getV 19 (.ref A) c193_16 rfl kf169_4 (pX_of hA hR.2.2.2.2.2 hc) ?_
  refine p_aload 20 c193_19 rfl rfl ?_
  refine p_iload 22 c193_20 rfl rfl ?_
  refine p_cTI 25 [.ref 169, yI (m (252 + (x2).toNat) (m a1 3).toNat)] [.ref A] c193_22 rfl rfl rfl (fun k' hk' d' => d191 (f := f) (by omega) hc hA (hR.rg _ _) hR) (fun r7105 m7107 hF7103 hg7104 hR7108 n7102 k7101 hk7101 => ?_) (fun e' q7112 m7107 n' hF7103 hE7110 hR7111 => ?_)
  · have hX7106 := hX7099.trans (bT_l hF7103)
    refine p_aload 26 c193_25 rfl rfl ?_
    refine p_getX 29 (m7107 a1 4) c193_26 rfl (kS_4 hs1) rfl ?_
    refine p_aload 30 c193_29 rfl rfl ?_
    refine p_getX 33 (m7107 a1 8) c193_30 rfl (kS_8 hs1) rfl ?_
    refine p_cO 36 [.ref A, yI r7105, yI (m7107 a1 4), yI (m7107 a1 8)] [] c193_33 rfl rfl rfl (fun k' hk' d' => d72 (f := f) (by omega) hA hg7104 (hR7108.rg _ _) (hR7108.rg _ _) hR7108) (fun r7117 hF7115 hg7116 n7114 k7113 hk7113 => ?_)
    have hX7118 := hX7106.trans (bP_s hF7115)
    refine p_istore 38 c193_36 rfl rfl ?_
    refine p_iload 40 c193_38 rfl rfl ?_
    refine p_iconst 41 c193_40 rfl ?_
    refine p_icmp 52 44 c193_41 rfl rfl (yc_ne hg7116 (rgD rfl)) (fun hb7119 k7120 hk7120 => ?_) (fun hb7119 k7121 hk7121 => ?_)
    · have hX7122 := hX7118.trans (if_neg hb7119)
      refine p_aload 53 c193_52 rfl rfl ?_
      refine p_getV 56 (.ref A) c193_53 rfl kf169_4 (pX_of hA hR7108.2.2.2.2.2 hc) ?_
      refine p_getR 59 c193_56 rfl (kP_5 hA) ?_
      refine p_iload 61 c193_59 rfl rfl ?_
      refine p_aaX 62 c193_61 rfl (kPr_6 hA) hg7116 (fun hx7123 => ?_)
      have hX7124 := hX7122.trans (if_pos hx7123)
      refine p_astore 64 c193_62 rfl rfl ?_
      refine p_aload 65 c193_64 rfl rfl ?_
      refine p_iload 66 c193_65 rfl rfl ?_
      refine p_iconst 67 c193_66 rfl ?_
      refine p_iadd 68 c193_67 rfl ?_
      refine p_cTA 71 [.ref 169, yI (wr (x2 + 1))] [] c193_68 rfl rfl rfl (fun k' hk' d' => d187 (f := f) (by omega) (rg_wr _) hR7108) (fun r7129 m7131 hF7127 hg7128 hR7132 n7126 k7125 hk7125 => ?_) (fun e' q7136 m7131 n' hF7127 hE7134 hR7135 => ?_)
      · have hX7130 := hX7124.trans (bT_l hF7127)
        have := hg7128.2
        have hX7137 := hX7130.trans (if_pos hg7128.2)
        refine p_astore 73 c193_71 rfl rfl ?_
        refine p_aload 74 c193_73 rfl rfl ?_
        refine p_aload 76 c193_74 rfl rfl ?_
        refine p_aload 78 c193_76 rfl rfl ?_
        refine p_cX 81 [.ref (A + 10 + (r7117).toNat)] [.ref r7129, .ref 169] c193_78 rfl rfl rfl (fun k' hk' d' => d57 (kMr hA hx7123) hR7132) (fun hg7140 n7139 k7138 hk7138 => ?_)
        refine p_iload 83 c193_81 rfl rfl ?_
        refine p_cV 86 [.ref 169, .ref r7129, yI (F57 (A + 10 + (r7117).toNat) m7131), yI (m (252 + (x2).toNat) (m a1 3).toNat)] [] c193_83 rfl rfl rfl (fun k' hk' d' => d188_48 (f := f) (by omega) hg7128.1 (by omega) hg7140 (hR.rg _ _) hR7132) (fun m7147 hF7143 hR7148 n7142 k7141 hk7141 => ?_)
        have hX7146 := hX7137.trans (bU_s hF7143)
        refine p_aload 87 c193_86 rfl rfl ?_
        refine p_getX 90 (m7147 a1 8) c193_87 rfl (kS_8 hs1) rfl ?_
        refine p_if 111 93 c193_90 rfl rfl ((yz_le (hR7148.rg _ _)).trans Int.not_lt.symm) (fun hb7149 k7150 hk7150 => ?_) (fun hb7149 k7151 hk7151 => ?_)
        · have hX7152 := hX7146.trans (if_neg hb7149)
          exact tJ193_111 (f := f) (by omega) (fun k' h' => hrc k' (by omega)) hc hA hs1 gx2 (kR251 hx7098) (by omega) (kMr hA hx7123) hg7128.1 (by omega) hR7148 (fun m' e' => Hr m' (hX7152.trans e')) (fun r' m' e' => Ht r' m' (hX7152.trans e'))
        · have hX7196 := hX7146.trans (if_pos (Classical.not_not.mp hb7149))
          refine p_aload 94 c193_93 rfl rfl ?_
          refine p_aload 96 c193_94 rfl rfl ?_
          refine p_aload 98 c193_96 rfl rfl ?_
          refine p_iconst 99 c193_98 rfl ?_
          refine p_cX 102 [.ref (A + 10 + (r7117).toNat), yI 0] [.ref r7129, .ref 169] c193_99 rfl rfl rfl (fun k' hk' d' => d87 (kMr hA hx7123) (rgD rfl) hR7148) (fun hg7199 n7198 k7197 hk7197 => ?_)
          refine p_aload 103 c193_102 rfl rfl ?_
          refine p_aload 104 c193_103 rfl rfl ?_
          refine p_getX 107 (m7147 a1 9) c193_104 rfl (kS_9 hs1) rfl ?_
          refine p_iaX 108 (m7147 (252 + (x2).toNat) (m7147 a1 9).toNat) c193_107 rfl (kR251 hx7098) (hR7148.rg _ _) rfl (fun hx7200 => ?_)
          refine p_cV 111 [.ref 169, .ref r7129, yI (F87 (A + 10 + (r7117).toNat) 0 m7147), yI (m7147 (252 + (x2).toNat) (m7147 a1 9).toNat)] [] c193_108 rfl rfl rfl (fun k' hk' d' => d188_48 (f := f) (by omega) hg7128.1 (by omega) hg7199 (hR7148.rg _ _) hR7148) (fun m7207 hF7203 hR7208 n7202 k7201 hk7201 => ?_)
          have hX7206 := hX7196.trans (bU_s hF7203)
          exact tJ193_111 (f := f) (by omega) (fun k' h' => hrc k' (by omega)) hc hA hs1 gx2 (kR251 hx7098) (by omega) (kMr hA hx7123) hg7128.1 (by omega) hR7208 (fun m' e' => Hr m' (hX7206.trans e')) (fun r' m' e' => Ht r' m' (hX7206.trans e'))
      · exact ⟨fun pq hpq => absurd ((khm rfl).symm.trans hpq) (by simp), fun _ => Ht e' m7131 (hX7124.trans (bT_r hF7127)) (by have q := hE7134; simp only at q ⊢; omega) hR7135 q7136 n'⟩
    · have hX7209 := hX7118.trans (if_pos (Classical.not_not.mp hb7119))
      exact p_throw c193_44 (fun x n' => Ht _ _ hX7209 (Or.inr (Or.inr (Or.inr rfl))) hR7108 x n')
  · exact ⟨fun pq hpq => absurd ((khm rfl).symm.trans hpq) (by simp), fun _ => Ht e' m7107 (hX7099.trans (bT_r hF7103)) (by have q := hE7110; simp only at q ⊢; omega) hR7111 q7112 n'⟩
def F194 (f : Nat) (A : Nat) (x1 : Int) (x2 : Int) (m : yM) : Option ((Int ⊕ Nat) × yM) := (if x2 = (-1) then (some (.inl x2, m)) else (bT (F191 f A x2 m) (fun r7255 m7257 => (bP (F81 f A r7255 x1 m7257) (fun r7267 => (if r7267 = 0 then (some (.inr 12, m7257)) else (some (.inl x2, m7257)))))) (fun e' m7257 => (some (.inr e', m7257)))))
set_option maxRecDepth 100000 in
theorem d194 {L : Nat} {xs : Nat → Int32} {k d n : Nat} {c : yS3} {f : Nat} {A : Nat} {x1 : Int} {x2 : Int} {m : yM} (hk : k ≤ f) (hc : c.2.2 = pX A) (hA : (A = 256 ∨ A = 316)) (gx1 : rg x1) (gx2 : rg x2) (hR : RM c m) : PC (gZ L xs) k d 194 [.ref 169, yI x1, yI x2] m n (qEI (fun e => e = 11 ∨ e = 12) c (F194 f A x1 x2 m)) := by
  have hX : F194 f A x1 x2 m = F194 f A x1 x2 m := rfl
  have Hr : ∀ r m', F194 f A x1 x2 m = some (.inl r, m') → rg r → RM c m' → ∀ n' : Nat, (qEI (fun e => e = 11 ∨ e = 12) c (F194 f A x1 x2 m)) (.inl (some (yI r))) m' n' := fun r m' e h1 h2 n' => Or.inl ⟨r, rfl, h1, h2, e⟩
  have Ht : ∀ e m', F194 f A x1 x2 m = some (.inr e, m') → (fun e => e = 11 ∨ e = 12) e → RM c m' → ∀ x n' : Nat, (qEI (fun e => e = 11 ∨ e = 12) c (F194 f A x1 x2 m)) (.inr (e, x)) m' n' := fun e m' e1 h1 h2 x n' => Or.inr ⟨e, x, rfl, h1, h2, e1⟩
  refine PC.mk [some (.ref 169), some (yI x1), some (yI x2)] kn194 rfl ?_
  refine p_iload 1 c194_0 rfl rfl ?_
  refine p_iconst 2 c194_1 rfl ?_
  refine p_icmp 29 5 c194_2 rfl rfl (yc_eq gx2 (rgD rfl)) (fun hb7246 k7247 hk7247 => ?_) (fun hb7246 k7248 hk7248 => ?_)
  · have hX7249 := hX.trans (if_pos hb7246)
    refine p_iload 30 c194_29 rfl rfl ?_
    exact p_ireturn c194_30 (Hr _ _ hX7249 gx2 hR _)
  · have hX7250 := hX.trans (if_neg hb7246)
    refine p_aload 6 c194_5 rfl rfl ?_
    refine p_getV 9 (.ref A) c194_6 rfl kf169_4 (pX_of hA hR.2.2.2.2.2 hc) ?_
    refine p_aload 10 c194_9 rfl rfl ?_
    refine p_iload 11 c194_10 rfl rfl ?_
    refine p_cTI 14 [.ref 169, yI x2] [.ref A] c194_11 rfl rfl rfl (fun k' hk' d' => d191 (f := f) (by omega) hc hA gx2 hR) (fun r7255 m7257 hF7253 hg7254 hR7258 n7252 k7251 hk7251 => ?_) (fun e' q7262 m7257 n' hF7253 hE7260 hR7261 => ?_)
    · have hX7256 := hX7250.trans (bT_l hF7253)
      refine p_iload 15 c194_14 rfl rfl ?_
      refine p_cO 18 [.ref A, yI r7255, yI x1] [] c194_15 rfl rfl rfl (fun k' hk' d' => d81 (f := f) (by omega) hA hg7254 gx1 hR7258) (fun r7267 hF7265 hg7266 n7264 k7263 hk7263 => ?_)
      have hX7268 := hX7256.trans (bP_s hF7265)
      refine p_if 29 21 c194_18 rfl rfl (yz_ne hg7266) (fun hb7269 k7270 hk7270 => ?_) (fun hb7269 k7271 hk7271 => ?_)
      · have hX7272 := hX7268.trans (if_neg hb7269)
        refine p_iload 30 c194_29 rfl rfl ?_
        exact p_ireturn c194_30 (Hr _ _ hX7272 gx2 hR7258 _)
      · have hX7273 := hX7268.trans (if_pos (Classical.not_not.mp hb7269))
        exact p_throw c194_21 (fun x n' => Ht _ _ hX7273 (Or.inr rfl) hR7258 x n')
    · exact ⟨fun pq hpq => absurd ((khm rfl).symm.trans hpq) (by simp), fun _ => Ht e' m7257 (hX7250.trans (bT_r hF7253)) (by have q := hE7260; simp only at q ⊢; omega) hR7261 q7262 n'⟩
def F195_48 (f : Nat) (A : Nat) (a1 : Nat) (a2 : Nat) (m : yM) : Option ((Int ⊕ Nat) × yM) := (if m a1 0 = 5 then (bT (F186 f (m a1 6) m) (fun r7229 m7231 => (some (.inl r7229, m7231))) (fun e' m7231 => (some (.inr e', m7231)))) else (if m a1 0 = 6 then (some (.inl ((-1)), m)) else (if m a1 0 = 7 then (bT (F194 f A (m a1 7) (m a2 (m a1 3).toNat) m) (fun r7276 m7278 => (some (.inl r7276, m7278))) (fun e' m7278 => (some (.inr e', m7278)))) else (if m a1 0 = 8 then (some (.inl (m a2 (m a1 3).toNat), m)) else (if m a1 0 = 9 then (bT (F192 f A (m a2 (m a1 3).toNat) (m a1 6) m) (fun r7296 m7298 => (if 0 ≤ r7296 ∧ r7296 < ((30 : Nat) : Int) then (some (.inl (m7298 (221 + (r7296).toNat) (m7298 a1 6).toNat), m7298)) else none)) (fun e' m7298 => (some (.inr e', m7298)))) else (some (.inl ((-1)), m)))))))
set_option maxRecDepth 100000 in
theorem d195_48 {L : Nat} {xs : Nat → Int32} {k d n : Nat} {c : yS3} {f : Nat} {A : Nat} {a1 : Nat} {a2 : Nat} {m : yM} (hk : k ≤ f) (hc : c.2.2 = pX A) (hA : (A = 256 ∨ A = 316)) (hs1 : (276 ≤ a1 ∧ a1 < 316) ∨ (336 ≤ a1 ∧ a1 < 376)) (hr2 : yarr gSh 414 a2 = some (0, 48)) (hq2 : (252 ≤ a2 ∧ a2 < 256)) (hR : RM c m) : PC (gZ L xs) k d 195 [.ref 169, .ref a1, .ref a2] m n (qEI (fun e => e = 10 ∨ e = 11 ∨ e = 12 ∨ e = 13) c (F195_48 f A a1 a2 m)) := by
  have hX : F195_48 f A a1 a2 m = F195_48 f A a1 a2 m := rfl
  have Hr : ∀ r m', F195_48 f A a1 a2 m = some (.inl r, m') → rg r → RM c m' → ∀ n' : Nat, (qEI (fun e => e = 10 ∨ e = 11 ∨ e = 12 ∨ e = 13) c (F195_48 f A a1 a2 m)) (.inl (some (yI r))) m' n' := fun r m' e h1 h2 n' => Or.inl ⟨r, rfl, h1, h2, e⟩
  have Ht : ∀ e m', F195_48 f A a1 a2 m = some (.inr e, m') → (fun e => e = 10 ∨ e = 11 ∨ e = 12 ∨ e = 13) e → RM c m' → ∀ x n' : Nat, (qEI (fun e => e = 10 ∨ e = 11 ∨ e = 12 ∨ e = 13) c (F195_48 f A a1 a2 m)) (.inr (e, x)) m' n' := fun e m' e1 h1 h2 x n' => Or.inr ⟨e, x, rfl, h1, h2, e1⟩
  refine PC.mk [some (.ref 169), some (.ref a1), some (.ref a2)] kn195 rfl ?_
  refine p_aload 1 c195_0 rfl rfl ?_
  refine p_getX 4 (m a1 0) c195_1 rfl (kS_0 hs1) rfl ?_
  by_cases hk7223 : m a1 0 = 5
  · have hX7224 := hX.trans (if_pos hk7223)
    refine p_top 5 hk7223 ?_
    refine p_tsw 40 c195_4 (rgD rfl) (by decide) rfl rfl ?_
    refine p_aload 41 c195_40 rfl rfl ?_
    refine p_aload 42 c195_41 rfl rfl ?_
    refine p_getX 45 (m a1 6) c195_42 rfl (kS_6 hs1) rfl ?_
    refine p_cTI 48 [.ref 169, yI (m a1 6)] [] c195_45 rfl rfl rfl (fun k' hk' d' => d186 (f := f) (by omega) (hR.rg _ _) hR) (fun r7229 m7231 hF7227 hg7228 hR7232 n7226 k7225 hk7225 => ?_) (fun e' q7236 m7231 n' hF7227 hE7234 hR7235 => ?_)
    · have hX7230 := hX7224.trans (bT_l hF7227)
      exact p_ireturn c195_48 (Hr _ _ hX7230 hg7228 hR7232 _)
    · exact ⟨fun pq hpq => absurd ((khm rfl).symm.trans hpq) (by simp), fun _ => Ht e' m7231 (hX7224.trans (bT_r hF7227)) (by have q := hE7234; simp only at q ⊢; omega) hR7235 q7236 n'⟩
  have hX7237 := hX.trans (if_neg hk7223)
  by_cases hk7238 : m a1 0 = 6
  · have hX7239 := hX7237.trans (if_pos hk7238)
    refine p_top 6 hk7238 ?_
    refine p_tsw 96 c195_4 (rgD rfl) (by decide) rfl rfl ?_
    refine p_iconst 97 c195_96 rfl ?_
    exact p_ireturn c195_97 (Hr _ _ hX7239 (rgD rfl) hR _)
  have hX7240 := hX7237.trans (if_neg hk7238)
  by_cases hk7241 : m a1 0 = 7
  · have hX7242 := hX7240.trans (if_pos hk7241)
    refine p_top 7 hk7241 ?_
    refine p_tsw 49 c195_4 (rgD rfl) (by decide) rfl rfl ?_
    refine p_aload 50 c195_49 rfl rfl ?_
    refine p_aload 51 c195_50 rfl rfl ?_
    refine p_getX 54 (m a1 7) c195_51 rfl (kS_7 hs1) rfl ?_
    refine p_aload 55 c195_54 rfl rfl ?_
    refine p_aload 56 c195_55 rfl rfl ?_
    refine p_getX 59 (m a1 3) c195_56 rfl (kS_3 hs1) rfl ?_
    refine p_iaX 60 (m a2 (m a1 3).toNat) c195_59 rfl hr2 (hR.rg _ _) rfl (fun hx7243 => ?_)
    refine p_cTI 63 [.ref 169, yI (m a1 7), yI (m a2 (m a1 3).toNat)] [] c195_60 rfl rfl rfl (fun k' hk' d' => d194 (f := f) (by omega) hc hA (hR.rg _ _) (hR.rg _ _) hR) (fun r7276 m7278 hF7274 hg7275 hR7279 n7245 k7244 hk7244 => ?_) (fun e' q7283 m7278 n' hF7274 hE7281 hR7282 => ?_)
    · have hX7277 := hX7242.trans (bT_l hF7274)
      exact p_ireturn c195_63 (Hr _ _ hX7277 hg7275 hR7279 _)
    · exact ⟨fun pq hpq => absurd ((khm rfl).symm.trans hpq) (by simp), fun _ => Ht e' m7278 (hX7242.trans (bT_r hF7274)) (by have q := hE7281; simp only at q ⊢; omega) hR7282 q7283 n'⟩
  have hX7284 := hX7240.trans (if_neg hk7241)
  by_cases hk7285 : m a1 0 = 8
  · have hX7286 := hX7284.trans (if_pos hk7285)
    refine p_top 8 hk7285 ?_
    refine p_tsw 64 c195_4 (rgD rfl) (by decide) rfl rfl ?_
    refine p_aload 65 c195_64 rfl rfl ?_
    refine p_aload 66 c195_65 rfl rfl ?_
    refine p_getX 69 (m a1 3) c195_66 rfl (kS_3 hs1) rfl ?_
    refine p_iaX 70 (m a2 (m a1 3).toNat) c195_69 rfl hr2 (hR.rg _ _) rfl (fun hx7287 => ?_)
    exact p_ireturn c195_70 (Hr _ _ hX7286 (hR.rg _ _) hR _)
  have hX7288 := hX7284.trans (if_neg hk7285)
  by_cases hk7289 : m a1 0 = 9
  · have hX7290 := hX7288.trans (if_pos hk7289)
    refine p_top 9 hk7289 ?_
    refine p_tsw 71 c195_4 (rgD rfl) (by decide) rfl rfl ?_
    refine p_aload 72 c195_71 rfl rfl ?_
    refine p_getR 75 c195_72 rfl kf169_2 ?_
    refine p_aload 76 c195_75 rfl rfl ?_
    refine p_aload 77 c195_76 rfl rfl ?_
    refine p_aload 78 c195_77 rfl rfl ?_
    refine p_getX 81 (m a1 3) c195_78 rfl (kS_3 hs1) rfl ?_
    refine p_iaX 82 (m a2 (m a1 3).toNat) c195_81 rfl hr2 (hR.rg _ _) rfl (fun hx7291 => ?_)
    refine p_aload 83 c195_82 rfl rfl ?_
    refine p_getX 86 (m a1 6) c195_83 rfl (kS_6 hs1) rfl ?_
    refine p_cTI 89 [.ref 169, yI (m a2 (m a1 3).toNat), yI (m a1 6)] [.ref 220] c195_86 rfl rfl rfl (fun k' hk' d' => d192 (f := f) (by omega) hc hA (hR.rg _ _) (hR.rg _ _) hR) (fun r7296 m7298 hF7294 hg7295 hR7299 n7293 k7292 hk7292 => ?_) (fun e' q7303 m7298 n' hF7294 hE7301 hR7302 => ?_)
    · have hX7297 := hX7290.trans (bT_l hF7294)
      refine p_aaX 90 c195_89 rfl kr220 hg7295 (fun hx7304 => ?_)
      have hX7305 := hX7297.trans (if_pos hx7304)
      refine p_aload 91 c195_90 rfl rfl ?_
      refine p_getX 94 (m7298 a1 6) c195_91 rfl (kS_6 hs1) rfl ?_
      refine p_iaX 95 (m7298 (221 + (r7296).toNat) (m7298 a1 6).toNat) c195_94 rfl (kR220 hx7304) (hR7299.rg _ _) rfl (fun hx7306 => ?_)
      exact p_ireturn c195_95 (Hr _ _ hX7305 (hR7299.rg _ _) hR7299 _)
    · exact ⟨fun pq hpq => absurd ((khm rfl).symm.trans hpq) (by simp), fun _ => Ht e' m7298 (hX7290.trans (bT_r hF7294)) (by have q := hE7301; simp only at q ⊢; omega) hR7302 q7303 n'⟩
  have hX7307 := hX7288.trans (if_neg hk7289)
  refine p_tswd 96 c195_4 (hR.rg _ _) (by omega) rfl ?_
  refine p_iconst 97 c195_96 rfl ?_
  exact p_ireturn c195_97 (Hr _ _ hX7307 (rgD rfl) hR _)
def F196 (f : Nat) (rc : Int → Int → Int → yM → Option ((Int ⊕ Nat) × yM)) (A : Nat) (x1 : Int) (x2 : Int) (m : yM) : Option ((Int ⊕ Nat) × yM) := (bT (F189 f m) (fun _ m6922 => (if 0 ≤ x1 ∧ x1 < ((40 : Nat) : Int) then (if 0 ≤ x2 ∧ x2 < ((4 : Nat) : Int) then (if m6922 (A + 20 + (x1).toNat) 0 = 0 then (if m6922 (252 + (x2).toNat) (m6922 (A + 20 + (x1).toNat) 3).toNat = (-1) then (bT (rc (m6922 (A + 20 + (x1).toNat) 11) (m6922 (A + 20 + (x1).toNat) 12) x2 m6922) (fun r6943 m6945 => (some (.inl r6943, m6945))) (fun e' m6945 => (some (.inr e', m6945)))) else (bT (rc (wr (x1 + 1)) (m6922 (A + 20 + (x1).toNat) 11) x2 m6922) (fun r6956 m6958 => (some (.inl r6956, m6958))) (fun e' m6958 => (some (.inr e', m6958))))) else (if m6922 (A + 20 + (x1).toNat) 0 = 1 then (bT (F190 f rc A x1 x2 m6922) (fun r7025 m7027 => (some (.inl r7025, m7027))) (fun e' m7027 => (some (.inr e', m7027)))) else (if m6922 (A + 20 + (x1).toNat) 0 = 2 then (bU (F188_48 f (252 + (x2).toNat) (m6922 (A + 20 + (x1).toNat) 2) (m6922 (252 + (x2).toNat) (m6922 (A + 20 + (x1).toNat) 3).toNat) m6922) (fun m7043 => (some (.inl 1, m7043)))) else (if m6922 (A + 20 + (x1).toNat) 0 = 3 then (bT (F192 f A (m6922 (252 + (x2).toNat) (m6922 (A + 20 + (x1).toNat) 2).toNat) (m6922 (A + 20 + (x1).toNat) 6) m6922) (fun r7080 m7082 => (if 0 ≤ r7080 ∧ r7080 < ((30 : Nat) : Int) then (some (.inl 0, yup m7082 (221 + (r7080).toNat) (m7082 (A + 20 + (x1).toNat) 6).toNat (m7082 (252 + (x2).toNat) (m7082 (A + 20 + (x1).toNat) 3).toNat))) else none)) (fun e' m7082 => (some (.inr e', m7082)))) else (if m6922 (A + 20 + (x1).toNat) 0 = 4 then (bT (F193 f rc A (A + 20 + (x1).toNat) x2 m6922) (fun _ m7214 => (some (.inl 0, m7214))) (fun e' m7214 => (some (.inr e', m7214)))) else (bT (F195_48 f A (A + 20 + (x1).toNat) (252 + (x2).toNat) m6922) (fun r7310 m7312 => (bU (F188_48 f (252 + (x2).toNat) (m6922 (A + 20 + (x1).toNat) 2) r7310 m7312) (fun m7324 => (some (.inl 0, m7324))))) (fun e' m7312 => (some (.inr e', m7312))))))))) else none) else none)) (fun e' m6922 => (some (.inr e', m6922))))
set_option maxRecDepth 100000 in
theorem d196 {L : Nat} {xs : Nat → Int32} {k d n : Nat} {c : yS3} {f : Nat} {rc : Int → Int → Int → yM → Option ((Int ⊕ Nat) × yM)} {A : Nat} {x1 : Int} {x2 : Int} {m : yM} (hk : k ≤ f) (hrc : ∀ k', k' < k → ∀ {d' : Nat} {x1 x2 x3 : Int} {m' : yM} {n' : Nat}, rg x1 → rg x2 → rg x3 → RM c m' → PC (gZ L xs) k' d' 197 [.ref 169, yI x1, yI x2, yI x3] m' n' (qEI (fun e => e = 10 ∨ e = 11 ∨ e = 12 ∨ e = 13) c (rc x1 x2 x3 m'))) (hc : c.2.2 = pX A) (hA : (A = 256 ∨ A = 316)) (gx1 : rg x1) (gx2 : rg x2) (hR : RM c m) : PC (gZ L xs) k d 196 [.ref 169, yI x1, yI x2] m n (qEI (fun e => e = 10 ∨ e = 11 ∨ e = 12 ∨ e = 13) c (F196 f rc A x1 x2 m)) := by
  have hX : F196 f rc A x1 x2 m = F196 f rc A x1 x2 m := rfl
  have Hr : ∀ r m', F196 f rc A x1 x2 m = some (.inl r, m') → rg r → RM c m' → ∀ n' : Nat, (qEI (fun e => e = 10 ∨ e = 11 ∨ e = 12 ∨ e = 13) c (F196 f rc A x1 x2 m)) (.inl (some (yI r))) m' n' := fun r m' e h1 h2 n' => Or.inl ⟨r, rfl, h1, h2, e⟩
  have Ht : ∀ e m', F196 f rc A x1 x2 m = some (.inr e, m') → (fun e => e = 10 ∨ e = 11 ∨ e = 12 ∨ e = 13) e → RM c m' → ∀ x n' : Nat, (qEI (fun e => e = 10 ∨ e = 11 ∨ e = 12 ∨ e = 13) c (F196 f rc A x1 x2 m)) (.inr (e, x)) m' n' := fun e m' e1 h1 h2 x n' => Or.inr ⟨e, x, rfl, h1, h2, e1⟩
  refine PC.mk [some (.ref 169), some (yI x1), some (yI x2), none, none] kn196 rfl ?_
  refine p_aload 1 c196_0 rfl rfl ?_
  refine p_cTV 4 [.ref 169] [] c196_1 rfl rfl rfl (fun k' hk' d' => d189 (f := f) (by omega) hR) (fun m6922 hF6918 hR6923 n6911 k6910 hk6910 => ?_) (fun e' q6927 m6922 n' hF6918 hE6925 hR6926 => ?_)
  · have hX6921 := hX.trans (bT_l hF6918)
    refine p_aload 5 c196_4 rfl rfl ?_
    refine p_getV 8 (.ref A) c196_5 rfl kf169_4 (pX_of hA hR6923.2.2.2.2.2 hc) ?_
    refine p_getR 11 c196_8 rfl (kP_6 hA) ?_
    refine p_iload 12 c196_11 rfl rfl ?_
    refine p_aaX 13 c196_12 rfl (kPr_7 hA) gx1 (fun hx6928 => ?_)
    have hX6929 := hX6921.trans (if_pos hx6928)
    refine p_astore 14 c196_13 rfl rfl ?_
    refine p_aload 15 c196_14 rfl rfl ?_
    refine p_getR 18 c196_15 rfl kf169_3 ?_
    refine p_iload 19 c196_18 rfl rfl ?_
    refine p_aaX 20 c196_19 rfl kr251 gx2 (fun hx6930 => ?_)
    have hX6931 := hX6929.trans (if_pos hx6930)
    refine p_astore 22 c196_20 rfl rfl ?_
    refine p_aload 23 c196_22 rfl rfl ?_
    refine p_getX 26 (m6922 (A + 20 + (x1).toNat) 0) c196_23 rfl (kS_0 (kSr hA hx6928)) rfl ?_
    by_cases hk6932 : m6922 (A + 20 + (x1).toNat) 0 = 0
    · have hX6933 := hX6931.trans (if_pos hk6932)
      refine p_top 0 hk6932 ?_
      refine p_tsw 60 c196_26 (rgD rfl) (by decide) rfl rfl ?_
      refine p_aload 62 c196_60 rfl rfl ?_
      refine p_aload 63 c196_62 rfl rfl ?_
      refine p_getX 66 (m6922 (A + 20 + (x1).toNat) 3) c196_63 rfl (kS_3 (kSr hA hx6928)) rfl ?_
      refine p_iaX 67 (m6922 (252 + (x2).toNat) (m6922 (A + 20 + (x1).toNat) 3).toNat) c196_66 rfl (kR251 hx6930) (hR6923.rg _ _) rfl (fun hx6934 => ?_)
      refine p_iconst 68 c196_67 rfl ?_
      refine p_icmp 86 71 c196_68 rfl rfl (yc_eq (hR6923.rg _ _) (rgD rfl)) (fun hb6935 k6936 hk6936 => ?_) (fun hb6935 k6937 hk6937 => ?_)
      · have hX6938 := hX6933.trans (if_pos hb6935)
        refine p_aload 87 c196_86 rfl rfl ?_
        refine p_aload 88 c196_87 rfl rfl ?_
        refine p_getX 91 (m6922 (A + 20 + (x1).toNat) 11) c196_88 rfl (kS_11 (kSr hA hx6928)) rfl ?_
        refine p_aload 92 c196_91 rfl rfl ?_
        refine p_getX 95 (m6922 (A + 20 + (x1).toNat) 12) c196_92 rfl (kS_12 (kSr hA hx6928)) rfl ?_
        refine p_iload 96 c196_95 rfl rfl ?_
        refine p_cTI 99 [.ref 169, yI (m6922 (A + 20 + (x1).toNat) 11), yI (m6922 (A + 20 + (x1).toNat) 12), yI x2] [] c196_96 rfl rfl rfl (fun k' hk' d' => hrc k' (by omega) (hR6923.rg _ _) (hR6923.rg _ _) gx2 hR6923) (fun r6943 m6945 hF6941 hg6942 hR6946 n6940 k6939 hk6939 => ?_) (fun e' q6950 m6945 n' hF6941 hE6948 hR6949 => ?_)
        · have hX6944 := hX6938.trans (bT_l hF6941)
          exact p_ireturn c196_99 (Hr _ _ hX6944 hg6942 hR6946 _)
        · exact ⟨fun pq hpq => absurd ((khm rfl).symm.trans hpq) (by simp), fun _ => Ht e' m6945 (hX6938.trans (bT_r hF6941)) hE6948 hR6949 q6950 n'⟩
      · have hX6951 := hX6933.trans (if_neg hb6935)
        refine p_aload 72 c196_71 rfl rfl ?_
        refine p_iload 73 c196_72 rfl rfl ?_
        refine p_iconst 74 c196_73 rfl ?_
        refine p_iadd 75 c196_74 rfl ?_
        refine p_aload 76 c196_75 rfl rfl ?_
        refine p_getX 79 (m6922 (A + 20 + (x1).toNat) 11) c196_76 rfl (kS_11 (kSr hA hx6928)) rfl ?_
        refine p_iload 80 c196_79 rfl rfl ?_
        refine p_cTI 83 [.ref 169, yI (wr (x1 + 1)), yI (m6922 (A + 20 + (x1).toNat) 11), yI x2] [] c196_80 rfl rfl rfl (fun k' hk' d' => hrc k' (by omega) (rg_wr _) (hR6923.rg _ _) gx2 hR6923) (fun r6956 m6958 hF6954 hg6955 hR6959 n6953 k6952 hk6952 => ?_) (fun e' q6963 m6958 n' hF6954 hE6961 hR6962 => ?_)
        · have hX6957 := hX6951.trans (bT_l hF6954)
          refine p_goto 99 c196_83 rfl ?_
          exact p_ireturn c196_99 (Hr _ _ hX6957 hg6955 hR6959 _)
        · exact ⟨fun pq hpq => absurd ((khm rfl).symm.trans hpq) (by simp), fun _ => Ht e' m6958 (hX6951.trans (bT_r hF6954)) hE6961 hR6962 q6963 n'⟩
    have hX6964 := hX6931.trans (if_neg hk6932)
    by_cases hk6965 : m6922 (A + 20 + (x1).toNat) 0 = 1
    · have hX6966 := hX6964.trans (if_pos hk6965)
      refine p_top 1 hk6965 ?_
      refine p_tsw 100 c196_26 (rgD rfl) (by decide) rfl rfl ?_
      refine p_aload 101 c196_100 rfl rfl ?_
      refine p_iload 102 c196_101 rfl rfl ?_
      refine p_iload 103 c196_102 rfl rfl ?_
      refine p_cTI 106 [.ref 169, yI x1, yI x2] [] c196_103 rfl rfl rfl (fun k' hk' d' => d190 (f := f) (by omega) (fun k' h' => hrc k' (by omega)) hc hA gx1 gx2 hR6923) (fun r7025 m7027 hF7023 hg7024 hR7028 n6968 k6967 hk6967 => ?_) (fun e' q7032 m7027 n' hF7023 hE7030 hR7031 => ?_)
      · have hX7026 := hX6966.trans (bT_l hF7023)
        exact p_ireturn c196_106 (Hr _ _ hX7026 hg7024 hR7028 _)
      · exact ⟨fun pq hpq => absurd ((khm rfl).symm.trans hpq) (by simp), fun _ => Ht e' m7027 (hX6966.trans (bT_r hF7023)) hE7030 hR7031 q7032 n'⟩
    have hX7033 := hX6964.trans (if_neg hk6965)
    by_cases hk7034 : m6922 (A + 20 + (x1).toNat) 0 = 2
    · have hX7035 := hX7033.trans (if_pos hk7034)
      refine p_top 2 hk7034 ?_
      refine p_tsw 107 c196_26 (rgD rfl) (by decide) rfl rfl ?_
      refine p_aload 108 c196_107 rfl rfl ?_
      refine p_aload 110 c196_108 rfl rfl ?_
      refine p_aload 111 c196_110 rfl rfl ?_
      refine p_getX 114 (m6922 (A + 20 + (x1).toNat) 2) c196_111 rfl (kS_2 (kSr hA hx6928)) rfl ?_
      refine p_aload 116 c196_114 rfl rfl ?_
      refine p_aload 117 c196_116 rfl rfl ?_
      refine p_getX 120 (m6922 (A + 20 + (x1).toNat) 3) c196_117 rfl (kS_3 (kSr hA hx6928)) rfl ?_
      refine p_iaX 121 (m6922 (252 + (x2).toNat) (m6922 (A + 20 + (x1).toNat) 3).toNat) c196_120 rfl (kR251 hx6930) (hR6923.rg _ _) rfl (fun hx7036 => ?_)
      refine p_cV 124 [.ref 169, .ref (252 + (x2).toNat), yI (m6922 (A + 20 + (x1).toNat) 2), yI (m6922 (252 + (x2).toNat) (m6922 (A + 20 + (x1).toNat) 3).toNat)] [] c196_121 rfl rfl rfl (fun k' hk' d' => d188_48 (f := f) (by omega) (kR251 hx6930) (by omega) (hR6923.rg _ _) (hR6923.rg _ _) hR6923) (fun m7043 hF7039 hR7044 n7038 k7037 hk7037 => ?_)
      have hX7042 := hX7035.trans (bU_s hF7039)
      refine p_iconst 125 c196_124 rfl ?_
      exact p_ireturn c196_125 (Hr _ _ hX7042 (rgD rfl) hR7044 _)
    have hX7045 := hX7033.trans (if_neg hk7034)
    by_cases hk7046 : m6922 (A + 20 + (x1).toNat) 0 = 3
    · have hX7047 := hX7045.trans (if_pos hk7046)
      refine p_top 3 hk7046 ?_
      refine p_tsw 126 c196_26 (rgD rfl) (by decide) rfl rfl ?_
      refine p_aload 127 c196_126 rfl rfl ?_
      refine p_getR 130 c196_127 rfl kf169_2 ?_
      refine p_aload 131 c196_130 rfl rfl ?_
      refine p_aload 133 c196_131 rfl rfl ?_
      refine p_aload 134 c196_133 rfl rfl ?_
      refine p_getX 137 (m6922 (A + 20 + (x1).toNat) 2) c196_134 rfl (kS_2 (kSr hA hx6928)) rfl ?_
      refine p_iaX 138 (m6922 (252 + (x2).toNat) (m6922 (A + 20 + (x1).toNat) 2).toNat) c196_137 rfl (kR251 hx6930) (hR6923.rg _ _) rfl (fun hx7048 => ?_)
      refine p_aload 139 c196_138 rfl rfl ?_
      refine p_getX 142 (m6922 (A + 20 + (x1).toNat) 6) c196_139 rfl (kS_6 (kSr hA hx6928)) rfl ?_
      refine p_cTI 145 [.ref 169, yI (m6922 (252 + (x2).toNat) (m6922 (A + 20 + (x1).toNat) 2).toNat), yI (m6922 (A + 20 + (x1).toNat) 6)] [.ref 220] c196_142 rfl rfl rfl (fun k' hk' d' => d192 (f := f) (by omega) hc hA (hR6923.rg _ _) (hR6923.rg _ _) hR6923) (fun r7080 m7082 hF7078 hg7079 hR7083 n7050 k7049 hk7049 => ?_) (fun e' q7087 m7082 n' hF7078 hE7085 hR7086 => ?_)
      · have hX7081 := hX7047.trans (bT_l hF7078)
        refine p_aaX 146 c196_145 rfl kr220 hg7079 (fun hx7088 => ?_)
        have hX7089 := hX7081.trans (if_pos hx7088)
        refine p_aload 147 c196_146 rfl rfl ?_
        refine p_getX 150 (m7082 (A + 20 + (x1).toNat) 6) c196_147 rfl (kS_6 (kSr hA hx6928)) rfl ?_
        refine p_aload 152 c196_150 rfl rfl ?_
        refine p_aload 153 c196_152 rfl rfl ?_
        refine p_getX 156 (m7082 (A + 20 + (x1).toNat) 3) c196_153 rfl (kS_3 (kSr hA hx6928)) rfl ?_
        refine p_iaX 157 (m7082 (252 + (x2).toNat) (m7082 (A + 20 + (x1).toNat) 3).toNat) c196_156 rfl (kR251 hx6930) (hR7083.rg _ _) rfl (fun hx7090 => ?_)
        refine p_iaS 158 c196_157 rfl (kR220 hx7088) (hR7083.rg _ _) (m7082 (252 + (x2).toNat) (m7082 (A + 20 + (x1).toNat) 3).toNat) (nar0 (hR7083.rg _ _)) (fun hx7091 => ?_)
        have hR7092 := hR7083.up (221 + (r7080).toNat) (m7082 (A + 20 + (x1).toNat) 6).toNat (v := m7082 (252 + (x2).toNat) (m7082 (A + 20 + (x1).toNat) 3).toNat) (nselA (by omega)) (hR7083.rg _ _)
        refine p_iconst 159 c196_158 rfl ?_
        exact p_ireturn c196_159 (Hr _ _ hX7089 (rgD rfl) hR7092 _)
      · exact ⟨fun pq hpq => absurd ((khm rfl).symm.trans hpq) (by simp), fun _ => Ht e' m7082 (hX7047.trans (bT_r hF7078)) (by have q := hE7085; simp only at q ⊢; omega) hR7086 q7087 n'⟩
    have hX7093 := hX7045.trans (if_neg hk7046)
    by_cases hk7094 : m6922 (A + 20 + (x1).toNat) 0 = 4
    · have hX7095 := hX7093.trans (if_pos hk7094)
      refine p_top 4 hk7094 ?_
      refine p_tsw 160 c196_26 (rgD rfl) (by decide) rfl rfl ?_
      refine p_aload 161 c196_160 rfl rfl ?_
      refine p_aload 162 c196_161 rfl rfl ?_
      refine p_iload 163 c196_162 rfl rfl ?_
      refine p_cTV 166 [.ref 169, .ref (A + 20 + (x1).toNat), yI x2] [] c196_163 rfl rfl rfl (fun k' hk' d' => d193 (f := f) (by omega) (fun k' h' => hrc k' (by omega)) hc hA (kSr hA hx6928) gx2 hR6923) (fun m7214 hF7210 hR7215 n7097 k7096 hk7096 => ?_) (fun e' q7219 m7214 n' hF7210 hE7217 hR7218 => ?_)
      · have hX7213 := hX7095.trans (bT_l hF7210)
        refine p_iconst 167 c196_166 rfl ?_
        exact p_ireturn c196_167 (Hr _ _ hX7213 (rgD rfl) hR7215 _)
      · exact ⟨fun pq hpq => absurd ((khm rfl).symm.trans hpq) (by simp), fun _ => Ht e' m7214 (hX7095.trans (bT_r hF7210)) hE7217 hR7218 q7219 n'⟩
    have hX7220 := hX7093.trans (if_neg hk7094)
    refine p_tswd 168 c196_26 (hR6923.rg _ _) (by omega) rfl ?_
    refine p_aload 169 c196_168 rfl rfl ?_
    refine p_aload 171 c196_169 rfl rfl ?_
    refine p_aload 172 c196_171 rfl rfl ?_
    refine p_getX 175 (m6922 (A + 20 + (x1).toNat) 2) c196_172 rfl (kS_2 (kSr hA hx6928)) rfl ?_
    refine p_aload 176 c196_175 rfl rfl ?_
    refine p_aload 177 c196_176 rfl rfl ?_
    refine p_aload 179 c196_177 rfl rfl ?_
    refine p_cTI 182 [.ref 169, .ref (A + 20 + (x1).toNat), .ref (252 + (x2).toNat)] [yI (m6922 (A + 20 + (x1).toNat) 2), .ref (252 + (x2).toNat), .ref 169] c196_179 rfl rfl rfl (fun k' hk' d' => d195_48 (f := f) (by omega) hc hA (kSr hA hx6928) (kR251 hx6930) (by omega) hR6923) (fun r7310 m7312 hF7308 hg7309 hR7313 n7222 k7221 hk7221 => ?_) (fun e' q7317 m7312 n' hF7308 hE7315 hR7316 => ?_)
    · have hX7311 := hX7220.trans (bT_l hF7308)
      refine p_cV 185 [.ref 169, .ref (252 + (x2).toNat), yI (m6922 (A + 20 + (x1).toNat) 2), yI r7310] [] c196_182 rfl rfl rfl (fun k' hk' d' => d188_48 (f := f) (by omega) (kR251 hx6930) (by omega) (hR6923.rg _ _) hg7309 hR7313) (fun m7324 hF7320 hR7325 n7319 k7318 hk7318 => ?_)
      have hX7323 := hX7311.trans (bU_s hF7320)
      refine p_iconst 186 c196_185 rfl ?_
      exact p_ireturn c196_186 (Hr _ _ hX7323 (rgD rfl) hR7325 _)
    · exact ⟨fun pq hpq => absurd ((khm rfl).symm.trans hpq) (by simp), fun _ => Ht e' m7312 (hX7220.trans (bT_r hF7308)) hE7315 hR7316 q7317 n'⟩
  · exact ⟨fun pq hpq => absurd ((khm rfl).symm.trans hpq) (by simp), fun _ => Ht e' m6922 (hX.trans (bT_r hF6918)) (by have q := hE6925; simp only at q ⊢; omega) hR6926 q6927 n'⟩
def B197_6 (f : Nat) (rc : Int → Int → Int → yM → Option ((Int ⊕ Nat) × yM)) (A : Nat) (x2 : Int) (x3 : Int) (x4 : Int) (x5 : Int) (m : yM) : Option (((Int × Int) × yM) ⊕ (((Int × Int) × yM) ⊕ ((Int ⊕ Nat) × yM))) := (if x5 < 40 then (if x4 < x2 then (bT (F196 f rc A x4 x3 m) (fun r7328 m7330 => (if r7328 = 0 then (if 0 ≤ x4 ∧ x4 < ((40 : Nat) : Int) then (some (.inl ((m7330 (A + 20 + (x4).toNat) 12, wr (x5 + 1)), m7330))) else none) else (some (.inr (.inr (.inl 1, m7330)))))) (fun e' m7330 => (some (.inr (.inr (.inr e', m7330)))))) else (some (.inr (.inl ((x4, x5), m))))) else (some (.inr (.inl ((x4, x5), m)))))
set_option maxRecDepth 100000 in
theorem tB197_6 {L : Nat} {xs : Nat → Int32} {Q : xO → yM → Nat → Prop} {k d n : Nat} {c : yS3} {f : Nat} {rc : Int → Int → Int → yM → Option ((Int ⊕ Nat) × yM)} {A : Nat} {x2 : Int} {x3 : Int} {x4 : Int} {x5 : Int} {m : yM} {j1 : Option Value} (hk : k ≤ f) (hrc : ∀ k', k' < k → ∀ {d' : Nat} {x1 x2 x3 : Int} {m' : yM} {n' : Nat}, rg x1 → rg x2 → rg x3 → RM c m' → PC (gZ L xs) k' d' 197 [.ref 169, yI x1, yI x2, yI x3] m' n' (qEI (fun e => e = 10 ∨ e = 11 ∨ e = 12 ∨ e = 13) c (rc x1 x2 x3 m'))) (hc : c.2.2 = pX A) (hA : (A = 256 ∨ A = 316)) (gx2 : rg x2) (gx3 : rg x3) (gx4 : rg x4) (gx5 : rg x5) (hR : RM c m) (Hn : ∀ (y0 y1 : Int) (z0 : Option Value) (m' : yM) (n' : Nat), B197_6 f rc A x2 x3 x4 x5 m = some (.inl ((y0, y1), m')) → rg y0 → rg y1 → RM c m' → ∀ k', k' < k → PW (gZ L xs) k' 197 d 6 [some (.ref 169), z0, some (yI x2), some (yI x3), some (yI y0), some (yI y1)] [] m' n' Q) (He : ∀ (y0 y1 : Int) (z0 : Option Value) (m' : yM) (n' : Nat), B197_6 f rc A x2 x3 x4 x5 m = some (.inr (.inl ((y0, y1), m'))) → rg y0 → rg y1 → RM c m' → ∀ k', k' ≤ k → PW (gZ L xs) k' 197 d 52 [some (.ref 169), z0, some (yI x2), some (yI x3), some (yI y0), some (yI y1)] [] m' n' Q) (Hr : ∀ r m', B197_6 f rc A x2 x3 x4 x5 m = some (.inr (.inr (.inl r, m'))) → rg r → RM c m' → ∀ n', Q (.inl (some (yI r))) m' n') (Ht : ∀ e m', B197_6 f rc A x2 x3 x4 x5 m = some (.inr (.inr (.inr e, m'))) → (fun e => e = 10 ∨ e = 11 ∨ e = 12 ∨ e = 13) e → RM c m' → ∀ x n', Q (.inr (e, x)) m' n') : PW (gZ L xs) k 197 d 6 [some (.ref 169), j1, some (yI x2), some (yI x3), some (yI x4), some (yI x5)] [] m n Q := by
  have hX : B197_6 f rc A x2 x3 x4 x5 m = B197_6 f rc A x2 x3 x4 x5 m := rfl
  refine p_iload 8 c197_6 rfl rfl ?_
  refine p_iconst 10 c197_8 rfl ?_
  refine p_icmp 52 13 c197_10 rfl rfl ((yc_ge gx5 (rgD rfl)).trans Int.not_lt.symm) (fun hb6898 k6899 hk6899 => ?_) (fun hb6898 k6900 hk6900 => ?_)
  · have hX6901 := hX.trans (if_neg hb6898)
    exact He _ _ _ _ _ hX6901 gx4 gx5 hR _ (by omega)
  · have hX6902 := hX.trans (if_pos (Classical.not_not.mp hb6898))
    refine p_iload 15 c197_13 rfl rfl ?_
    refine p_iload 16 c197_15 rfl rfl ?_
    refine p_icmp 52 19 c197_16 rfl rfl ((yc_ge gx4 gx2).trans Int.not_lt.symm) (fun hb6903 k6904 hk6904 => ?_) (fun hb6903 k6905 hk6905 => ?_)
    · have hX6906 := hX6902.trans (if_neg hb6903)
      exact He _ _ _ _ _ hX6906 gx4 gx5 hR _ (by omega)
    · have hX6907 := hX6902.trans (if_pos (Classical.not_not.mp hb6903))
      refine p_aload 20 c197_19 rfl rfl ?_
      refine p_iload 22 c197_20 rfl rfl ?_
      refine p_iload 23 c197_22 rfl rfl ?_
      refine p_cTI 26 [.ref 169, yI x4, yI x3] [] c197_23 rfl rfl rfl (fun k' hk' d' => d196 (f := f) (by omega) (fun k' h' => hrc k' (by omega)) hc hA gx4 gx3 hR) (fun r7328 m7330 hF7326 hg7327 hR7331 n6909 k6908 hk6908 => ?_) (fun e' q7335 m7330 n' hF7326 hE7333 hR7334 => ?_)
      · have hX7329 := hX6907.trans (bT_l hF7326)
        refine p_if 31 29 c197_26 rfl rfl (yz_eq hg7327) (fun hb7336 k7337 hk7337 => ?_) (fun hb7336 k7338 hk7338 => ?_)
        · have hX7339 := hX7329.trans (if_pos hb7336)
          refine p_aload 32 c197_31 rfl rfl ?_
          refine p_getV 35 (.ref A) c197_32 rfl kf169_4 (pX_of hA hR7331.2.2.2.2.2 hc) ?_
          refine p_getR 38 c197_35 rfl (kP_6 hA) ?_
          refine p_iload 40 c197_38 rfl rfl ?_
          refine p_aaX 41 c197_40 rfl (kPr_7 hA) gx4 (fun hx7340 => ?_)
          have hX7341 := hX7339.trans (if_pos hx7340)
          refine p_getX 44 (m7330 (A + 20 + (x4).toNat) 12) c197_41 rfl (kS_12 (kSr hA hx7340)) rfl ?_
          refine p_istore 46 c197_44 rfl rfl ?_
          refine p_iinc 49 c197_46 rfl rfl rfl ?_
          refine p_gotoD 6 c197_49 rfl (fun k7342 hk7342 => ?_)
          exact Hn _ _ _ _ _ hX7341 (hR7331.rg _ _) (rg_wr _) hR7331 _ (by omega)
        · have hX7343 := hX7329.trans (if_neg hb7336)
          refine p_iconst 30 c197_29 rfl ?_
          exact p_ireturn c197_30 (Hr _ _ hX7343 (rgD rfl) hR7331 _)
      · exact ⟨fun pq hpq => absurd ((khm rfl).symm.trans hpq) (by simp), fun _ => Ht e' m7330 (hX6907.trans (bT_r hF7326)) hE7333 hR7334 q7335 n'⟩
def G197 (f : Nat) (rc : Int → Int → Int → yM → Option ((Int ⊕ Nat) × yM)) (A : Nat) (x1 : Int) (x2 : Int) (x3 : Int) (m : yM) : Option ((Int ⊕ Nat) × yM) := (bL (yloop (fun (l : Int × Int) ml => B197_6 f rc A x2 x3 l.1 l.2 ml) f (x1, 0) m) (fun l7344 m7350 => (some (.inl 0, m7350))) (fun r mr => some (r, mr)))
set_option maxRecDepth 100000 in
theorem g197 {L : Nat} {xs : Nat → Int32} {k d n : Nat} {c : yS3} {f : Nat} {rc : Int → Int → Int → yM → Option ((Int ⊕ Nat) × yM)} {A : Nat} {x1 : Int} {x2 : Int} {x3 : Int} {m : yM} (hk : k ≤ f) (hrc : ∀ k', k' < k → ∀ {d' : Nat} {x1 x2 x3 : Int} {m' : yM} {n' : Nat}, rg x1 → rg x2 → rg x3 → RM c m' → PC (gZ L xs) k' d' 197 [.ref 169, yI x1, yI x2, yI x3] m' n' (qEI (fun e => e = 10 ∨ e = 11 ∨ e = 12 ∨ e = 13) c (rc x1 x2 x3 m'))) (hc : c.2.2 = pX A) (hA : (A = 256 ∨ A = 316)) (gx1 : rg x1) (gx2 : rg x2) (gx3 : rg x3) (hR : RM c m) : PC (gZ L xs) k d 197 [.ref 169, yI x1, yI x2, yI x3] m n (qEI (fun e => e = 10 ∨ e = 11 ∨ e = 12 ∨ e = 13) c (G197 f rc A x1 x2 x3 m)) := by
  have hX : G197 f rc A x1 x2 x3 m = G197 f rc A x1 x2 x3 m := rfl
  have Hr : ∀ r m', G197 f rc A x1 x2 x3 m = some (.inl r, m') → rg r → RM c m' → ∀ n' : Nat, (qEI (fun e => e = 10 ∨ e = 11 ∨ e = 12 ∨ e = 13) c (G197 f rc A x1 x2 x3 m)) (.inl (some (yI r))) m' n' := fun r m' e h1 h2 n' => Or.inl ⟨r, rfl, h1, h2, e⟩
  have Ht : ∀ e m', G197 f rc A x1 x2 x3 m = some (.inr e, m') → (fun e => e = 10 ∨ e = 11 ∨ e = 12 ∨ e = 13) e → RM c m' → ∀ x n' : Nat, (qEI (fun e => e = 10 ∨ e = 11 ∨ e = 12 ∨ e = 13) c (G197 f rc A x1 x2 x3 m)) (.inr (e, x)) m' n' := fun e m' e1 h1 h2 x n' => Or.inr ⟨e, x, rfl, h1, h2, e1⟩
  refine PC.mk [some (.ref 169), some (yI x1), some (yI x2), some (yI x3), none, none] kn197 rfl ?_
  refine p_iload 1 c197_0 rfl rfl ?_
  refine p_istore 3 c197_1 rfl rfl ?_
  refine p_iconst 4 c197_3 rfl ?_
  refine p_istore 6 c197_4 rfl rfl ?_
  refine PW.loop (K := k) (pce := 52) (fun (l : Int × Int) ml => B197_6 f rc A x2 x3 l.1 l.2 ml) (fun (l : Int × Int) j => [some (.ref 169), j 1, some (yI x2), some (yI x3), some (yI l.1), some (yI l.2)]) (fun (l : Int × Int) => rg l.1 ∧ rg l.2) (RM c) (fun (r' : (Int ⊕ Nat)) m' => (∀ v, r' = .inl v → rg v → RM c m' → ∀ n' : Nat, (qEI (fun e => e = 10 ∨ e = 11 ∨ e = 12 ∨ e = 13) c (G197 f rc A x1 x2 x3 m)) (.inl (some (yI v))) m' n') ∧ (∀ e, r' = .inr e → (fun e => e = 10 ∨ e = 11 ∨ e = 12 ∨ e = 13) e → RM c m' → ∀ x n' : Nat, (qEI (fun e => e = 10 ∨ e = 11 ∨ e = 12 ∨ e = 13) c (G197 f rc A x1 x2 x3 m)) (.inr (e, x)) m' n')) (fun k' hk' l j m' n' hl hI Hn' He' Hr' => tB197_6 (f := f) (by omega) (fun k' h' => hrc k' (by omega)) hc hA gx2 gx3 hl.1 hl.2 hI (fun y0 y1 y2 m2 n2 e h0 h1 hR2 => Hn' (y0, y1) (fun q => ([none, y2, none, none, none, none] : List (Option Value)).getD q none) m2 n2 e ⟨h0, h1⟩ hR2) (fun y0 y1 y2 m2 n2 e h0 h1 hR2 => He' (y0, y1) (fun q => ([none, y2, none, none, none, none] : List (Option Value)).getD q none) m2 n2 e ⟨h0, h1⟩ hR2) (fun v m2 e => (Hr' (.inl v) m2 e).1 v rfl) (fun v m2 e => (Hr' (.inr v) m2 e).2 v rfl)) f k (by omega) (Nat.le_refl _) (x1, 0) (fun q => ([some (.ref 169), some (yI x1), some (yI x2), some (yI x3), some (yI x1), some (yI 0)] : xL).getD q none) _ _ ⟨gx1, (rgD rfl)⟩ hR (fun l7344 j7347 m7350 n7349 e7346 hl7345 hR7351 k7348 hk7348 => ?_) (fun r' m' e' => ?_)
  · have hX7352 := hX.trans (bL_l e7346)
    refine p_iconst 53 c197_52 rfl ?_
    exact p_ireturn c197_53 (Hr _ _ hX7352 (rgD rfl) hR7351 _)
  · exact ⟨fun v hv => Hr v m' ((hX.trans (bL_r e')).trans (by rw [hv])), fun v hv => Ht v m' ((hX.trans (bL_r e')).trans (by rw [hv]))⟩
def F197 (f : Nat) (A : Nat) : Nat → Int → Int → Int → yM → Option ((Int ⊕ Nat) × yM)
  | 0 => fun _ _ _ _ => none
  | g + 1 => G197 f (F197 f A g) A
theorem d197 {L : Nat} {xs : Nat → Int32} {f A : Nat} {c : yS3} (hc : c.2.2 = pX A) (hA : (A = 256 ∨ A = 316)) : ∀ (g k : Nat), k ≤ f → k ≤ g → ∀ (d n : Nat) (x1 : Int) (x2 : Int) (x3 : Int) (m : yM), rg x1 → rg x2 → rg x3 → RM c m → PC (gZ L xs) k d 197 [.ref 169, yI x1, yI x2, yI x3] m n (qEI (fun e => e = 10 ∨ e = 11 ∨ e = 12 ∨ e = 13) c (F197 f A g x1 x2 x3 m))
  | 0, k, _, h => by
    intro d n x1 x2 x3 m _ _ _ _
    have e : k = 0 := by omega
    subst e
    exact PW.zero
  | g + 1, k, hk, hg => by
    intro d n x1 x2 x3 m gx1 gx2 gx3 hR
    exact g197 (f := f) hk (fun k' hk' {d'} {x0'} {x1'} {x2'} {m'} {n'} h0' h1' h2' hR' => d197 hc hA g k' (by omega) (by omega) d' n' x0' x1' x2' m' h0' h1' h2' hR') hc hA gx1 gx2 gx3 hR
