section
/-! FUNCTIONS OF THE METHODS: printed by wip/fn/dc.py -/
def B121_9 (f : Nat) (x1 : Int) (x3 : Int) (x4 : Int) (m : yM) : Option (Int ⊕ (Int ⊕ Int)) := (if x4 < 0 then (some (.inr (.inl x4))) else (if m 393 (wr ((wr ((wr (48 * x1)) + (wr (8 * x4)))) + x3)).toNat = 0 then (some (.inl (m 392 (wr ((wr (6 * x1)) + x4)).toNat))) else (some (.inr (.inr 1)))))
set_option maxRecDepth 100000 in
theorem tB121_9 {L : Nat} {xs : Nat → Int32} {Q : xO → yM → Nat → Prop} {k d n : Nat} {c : yS3} {f : Nat} {x1 : Int} {x3 : Int} {x4 : Int} {m : yM} {j2 : Option Value} (hk : k ≤ f) (gx1 : rg x1) (gx3 : rg x3) (gx4 : rg x4) (hR : RM c m) (Hn : ∀ (y0 : Int) (z0 : Option Value) (n' : Nat), B121_9 f x1 x3 x4 m = some (.inl y0) → rg y0 → ∀ k', k' < k → PW (gZ L xs) k' 121 d 9 [some (.ref 376), some (yI x1), z0, some (yI x3), some (yI y0)] [] m n' Q) (He : ∀ (y0 : Int) (z0 : Option Value) (n' : Nat), B121_9 f x1 x3 x4 m = some (.inr (.inl y0)) → rg y0 → ∀ k', k' ≤ k → PW (gZ L xs) k' 121 d 53 [some (.ref 376), some (yI x1), z0, some (yI x3), some (yI y0)] [] m n' Q) (Hr : ∀ r, B121_9 f x1 x3 x4 m = some (.inr (.inr r)) → rg r → ∀ n', Q (.inl (some (yI r))) m n') : PW (gZ L xs) k 121 d 9 [some (.ref 376), some (yI x1), j2, some (yI x3), some (yI x4)] [] m n Q := by
  have hX : B121_9 f x1 x3 x4 m = B121_9 f x1 x3 x4 m := rfl
  refine p_iload 11 c121_9 rfl rfl ?_
  refine p_if 53 14 c121_11 rfl rfl (yz_lt gx4) (fun hb4919 k4920 hk4920 => ?_) (fun hb4919 k4921 hk4921 => ?_)
  · have hX4922 := hX.trans (if_pos hb4919)
    exact He _ _ _ hX4922 gx4 _ (by omega)
  · have hX4923 := hX.trans (if_neg hb4919)
    refine p_aload 15 c121_14 rfl rfl ?_
    refine p_getR 18 c121_15 rfl kf376_30 ?_
    refine p_iconst 20 c121_18 rfl ?_
    refine p_iload 21 c121_20 rfl rfl ?_
    refine p_imul 22 c121_21 rfl ?_
    refine p_iconst 24 c121_22 rfl ?_
    refine p_iload 26 c121_24 rfl rfl ?_
    refine p_imul 27 c121_26 rfl ?_
    refine p_iadd 28 c121_27 rfl ?_
    refine p_iload 29 c121_28 rfl rfl ?_
    refine p_iadd 30 c121_29 rfl ?_
    refine p_iaX 31 (m 393 (wr ((wr ((wr (48 * x1)) + (wr (8 * x4)))) + x3)).toNat) c121_30 rfl ka393 (rg_wr _) rfl (fun hx4924 => ?_)
    refine p_if 36 34 c121_31 rfl rfl (yz_eq (hR.rg _ _)) (fun hb4925 k4926 hk4926 => ?_) (fun hb4925 k4927 hk4927 => ?_)
    · have hX4928 := hX4923.trans (if_pos hb4925)
      refine p_aload 37 c121_36 rfl rfl ?_
      refine p_getR 40 c121_37 rfl kf376_29 ?_
      refine p_iconst 42 c121_40 rfl ?_
      refine p_iload 43 c121_42 rfl rfl ?_
      refine p_imul 44 c121_43 rfl ?_
      refine p_iload 46 c121_44 rfl rfl ?_
      refine p_iadd 47 c121_46 rfl ?_
      refine p_iaX 48 (m 392 (wr ((wr (6 * x1)) + x4)).toNat) c121_47 rfl ka392 (rg_wr _) rfl (fun hx4929 => ?_)
      refine p_istore 50 c121_48 rfl rfl ?_
      refine p_gotoD 9 c121_50 rfl (fun k4930 hk4930 => ?_)
      exact Hn _ _ _ hX4928 (hR.rg _ _) _ (by omega)
    · have hX4931 := hX4923.trans (if_neg hb4925)
      refine p_iconst 35 c121_34 rfl ?_
      exact p_ireturn c121_35 (Hr _ hX4931 (rgD rfl) _)
def F121 (f : Nat) (x1 : Int) (x2 : Int) (x3 : Int) (m : yM) : Option Int := (if x3 < 0 then (some 0) else (bQ (ploop (fun (l : Int) => B121_9 f x1 x3 l m) f x2) (fun l4932 => (some 0)) (fun r => some r)))
set_option maxRecDepth 100000 in
theorem d121 {L : Nat} {xs : Nat → Int32} {k d n : Nat} {c : yS3} {f : Nat} {x1 : Int} {x2 : Int} {x3 : Int} {m : yM} (hk : k ≤ f) (gx1 : rg x1) (gx2 : rg x2) (gx3 : rg x3) (hR : RM c m) : PC (gZ L xs) k d 121 [.ref 376, yI x1, yI x2, yI x3] m n (qO m (F121 f x1 x2 x3 m)) := by
  have hX : F121 f x1 x2 x3 m = F121 f x1 x2 x3 m := rfl
  have Hr : ∀ r, F121 f x1 x2 x3 m = some r → rg r → ∀ n' : Nat, (qO m (F121 f x1 x2 x3 m)) (.inl (some (yI r))) m n' := fun r e h n' => ⟨r, rfl, h, rfl, e⟩
  refine PC.mk [some (.ref 376), some (yI x1), some (yI x2), some (yI x3), none] kn121 rfl ?_
  refine p_iload 1 c121_0 rfl rfl ?_
  refine p_if 6 4 c121_1 rfl rfl ((yz_ge gx3).trans Int.not_lt.symm) (fun hb4915 k4916 hk4916 => ?_) (fun hb4915 k4917 hk4917 => ?_)
  · have hX4918 := hX.trans (if_neg hb4915)
    refine p_iload 7 c121_6 rfl rfl ?_
    refine p_istore 9 c121_7 rfl rfl ?_
    refine PW.ploop (K := k4916) (pce := 53) (fun (l : Int) => B121_9 f x1 x3 l m) (fun (l : Int) j => [some (.ref 376), some (yI x1), j 2, some (yI x3), some (yI l)]) (fun (l : Int) => rg l) (fun r' => rg r' → ∀ n' : Nat, (qO m (F121 f x1 x2 x3 m)) (.inl (some (yI r'))) m n') (fun k' hk' l j n' hl Hn' He' Hr' => tB121_9 (f := f) (by omega) gx1 gx3 hl hR (fun y0 y1 n2 e h0 => Hn' y0 (fun q => ([none, none, y1, none, none] : List (Option Value)).getD q none) n2 e h0) (fun y0 y1 n2 e h0 => He' y0 (fun q => ([none, none, y1, none, none] : List (Option Value)).getD q none) n2 e h0) Hr') f k4916 (by omega) (Nat.le_refl _) x2 (fun q => ([some (.ref 376), some (yI x1), some (yI x2), some (yI x3), some (yI x2)] : xL).getD q none) _ gx2 (fun l4932 j4935 n4937 e4934 hl4933 k4936 hk4936 => ?_) (fun r' e' => ?_)
    · have hX4938 := hX4918.trans (bQ_l e4934)
      refine p_iconst 54 c121_53 rfl ?_
      exact p_ireturn c121_54 (Hr _ hX4938 (rgD rfl) _)
    · exact Hr r' (hX4918.trans (bQ_r e'))
  · have hX4939 := hX.trans (if_pos (Classical.not_not.mp hb4915))
    refine p_iconst 5 c121_4 rfl ?_
    exact p_ireturn c121_5 (Hr _ hX4939 (rgD rfl) _)
def B120_2 (f : Nat) (x1 : Int) (x2 : Int) (x3 : Int) (m : yM) : Option (Int ⊕ (Int ⊕ Int)) := (if x3 < m 385 x1.toNat then (if m 394 (wr ((wr (8 * x1)) + x3)).toNat = x2 then (some (.inr (.inr x3))) else (some (.inl (wr (x3 + 1))))) else (some (.inr (.inl x3))))
set_option maxRecDepth 100000 in
theorem tB120_2 {L : Nat} {xs : Nat → Int32} {Q : xO → yM → Nat → Prop} {k d n : Nat} {c : yS3} {f : Nat} {x1 : Int} {x2 : Int} {x3 : Int} {m : yM} (hk : k ≤ f) (gx1 : rg x1) (gx2 : rg x2) (gx3 : rg x3) (hR : RM c m) (Hn : ∀ (y0 : Int) (n' : Nat), B120_2 f x1 x2 x3 m = some (.inl y0) → rg y0 → ∀ k', k' < k → PW (gZ L xs) k' 120 d 2 [some (.ref 376), some (yI x1), some (yI x2), some (yI y0)] [] m n' Q) (He : ∀ (y0 : Int) (n' : Nat), B120_2 f x1 x2 x3 m = some (.inr (.inl y0)) → rg y0 → ∀ k', k' ≤ k → PW (gZ L xs) k' 120 d 35 [some (.ref 376), some (yI x1), some (yI x2), some (yI y0)] [] m n' Q) (Hr : ∀ r, B120_2 f x1 x2 x3 m = some (.inr (.inr r)) → rg r → ∀ n', Q (.inl (some (yI r))) m n') : PW (gZ L xs) k 120 d 2 [some (.ref 376), some (yI x1), some (yI x2), some (yI x3)] [] m n Q := by
  have hX : B120_2 f x1 x2 x3 m = B120_2 f x1 x2 x3 m := rfl
  refine p_iload 3 c120_2 rfl rfl ?_
  refine p_aload 4 c120_3 rfl rfl ?_
  refine p_getR 7 c120_4 rfl kf376_22 ?_
  refine p_iload 8 c120_7 rfl rfl ?_
  refine p_iaX 9 (m 385 x1.toNat) c120_8 rfl ka385 gx1 rfl (fun hx4963 => ?_)
  refine p_icmp 35 12 c120_9 rfl rfl ((yc_ge gx3 (hR.rg _ _)).trans Int.not_lt.symm) (fun hb4964 k4965 hk4965 => ?_) (fun hb4964 k4966 hk4966 => ?_)
  · have hX4967 := hX.trans (if_neg hb4964)
    exact He _ _ hX4967 gx3 _ (by omega)
  · have hX4968 := hX.trans (if_pos (Classical.not_not.mp hb4964))
    refine p_aload 13 c120_12 rfl rfl ?_
    refine p_getR 16 c120_13 rfl kf376_31 ?_
    refine p_iconst 18 c120_16 rfl ?_
    refine p_iload 19 c120_18 rfl rfl ?_
    refine p_imul 20 c120_19 rfl ?_
    refine p_iload 21 c120_20 rfl rfl ?_
    refine p_iadd 22 c120_21 rfl ?_
    refine p_iaX 23 (m 394 (wr ((wr (8 * x1)) + x3)).toNat) c120_22 rfl ka394 (rg_wr _) rfl (fun hx4969 => ?_)
    refine p_iload 24 c120_23 rfl rfl ?_
    refine p_icmp 29 27 c120_24 rfl rfl (yc_ne (hR.rg _ _) gx2) (fun hb4970 k4971 hk4971 => ?_) (fun hb4970 k4972 hk4972 => ?_)
    · have hX4973 := hX4968.trans (if_neg hb4970)
      refine p_iinc 32 c120_29 rfl rfl rfl ?_
      refine p_gotoD 2 c120_32 rfl (fun k4974 hk4974 => ?_)
      exact Hn _ _ hX4973 (rg_wr _) _ (by omega)
    · have hX4975 := hX4968.trans (if_pos (Classical.not_not.mp hb4970))
      refine p_iload 28 c120_27 rfl rfl ?_
      exact p_ireturn c120_28 (Hr _ hX4975 gx3 _)
def F120 (f : Nat) (x1 : Int) (x2 : Int) (m : yM) : Option Int := (bQ (ploop (fun (l : Int) => B120_2 f x1 x2 l m) f 0) (fun l4976 => (some ((-1)))) (fun r => some r))
set_option maxRecDepth 100000 in
theorem d120 {L : Nat} {xs : Nat → Int32} {k d n : Nat} {c : yS3} {f : Nat} {x1 : Int} {x2 : Int} {m : yM} (hk : k ≤ f) (gx1 : rg x1) (gx2 : rg x2) (hR : RM c m) : PC (gZ L xs) k d 120 [.ref 376, yI x1, yI x2] m n (qO m (F120 f x1 x2 m)) := by
  have hX : F120 f x1 x2 m = F120 f x1 x2 m := rfl
  have Hr : ∀ r, F120 f x1 x2 m = some r → rg r → ∀ n' : Nat, (qO m (F120 f x1 x2 m)) (.inl (some (yI r))) m n' := fun r e h n' => ⟨r, rfl, h, rfl, e⟩
  refine PC.mk [some (.ref 376), some (yI x1), some (yI x2), none] kn120 rfl ?_
  refine p_iconst 1 c120_0 rfl ?_
  refine p_istore 2 c120_1 rfl rfl ?_
  refine PW.ploop (K := k) (pce := 35) (fun (l : Int) => B120_2 f x1 x2 l m) (fun (l : Int) j => [some (.ref 376), some (yI x1), some (yI x2), some (yI l)]) (fun (l : Int) => rg l) (fun r' => rg r' → ∀ n' : Nat, (qO m (F120 f x1 x2 m)) (.inl (some (yI r'))) m n') (fun k' hk' l j n' hl Hn' He' Hr' => tB120_2 (f := f) (by omega) gx1 gx2 hl hR (fun y0 n2 e h0 => Hn' y0 (fun q => ([none, none, none, none] : List (Option Value)).getD q none) n2 e h0) (fun y0 n2 e h0 => He' y0 (fun q => ([none, none, none, none] : List (Option Value)).getD q none) n2 e h0) Hr') f k (by omega) (Nat.le_refl _) 0 (fun q => ([some (.ref 376), some (yI x1), some (yI x2), some (yI 0)] : xL).getD q none) _ (rgD rfl) (fun l4976 j4979 n4981 e4978 hl4977 k4980 hk4980 => ?_) (fun r' e' => ?_)
  · have hX4982 := hX.trans (bQ_l e4978)
    refine p_iconst 36 c120_35 rfl ?_
    exact p_ireturn c120_36 (Hr _ hX4982 (rgD rfl) _)
  · exact Hr r' (hX.trans (bQ_r e'))
def J122_128 (f : Nat) (x1 : Int) (x2 : Int) (x3 : Int) (m : yM) : Option yM := (bI (F118 f 59 (yup m 393 (wr ((wr ((wr (48 * x1)) + (wr (8 * x2)))) + x3)).toNat 1)) (fun r4895 m4897 => (if r4895 = 0 then (some m4897) else (some m4897))))
set_option maxRecDepth 100000 in
theorem tJ122_128 {L : Nat} {xs : Nat → Int32} {Q : xO → yM → Nat → Prop} {k d n : Nat} {c : yS3} {f : Nat} {x1 : Int} {x2 : Int} {x3 : Int} {m : yM} {j4 j5 : Option Value} (hk : k ≤ f) (gx1 : rg x1) (gx2 : rg x2) (gx3 : rg x3) (hR : RM c m) (Hr : ∀ m', J122_128 f x1 x2 x3 m = some m' → RM c m' → ∀ n', Q (.inl none) m' n') : PW (gZ L xs) k 122 d 128 [some (.ref 376), some (yI x1), some (yI x2), some (yI x3), j4, j5] [] m n Q := by
  have hX : J122_128 f x1 x2 x3 m = J122_128 f x1 x2 x3 m := rfl
  refine p_aload 129 c122_128 rfl rfl ?_
  refine p_getR 132 c122_129 rfl kf376_30 ?_
  refine p_iconst 134 c122_132 rfl ?_
  refine p_iload 135 c122_134 rfl rfl ?_
  refine p_imul 136 c122_135 rfl ?_
  refine p_iconst 138 c122_136 rfl ?_
  refine p_iload 139 c122_138 rfl rfl ?_
  refine p_imul 140 c122_139 rfl ?_
  refine p_iadd 141 c122_140 rfl ?_
  refine p_iload 142 c122_141 rfl rfl ?_
  refine p_iadd 143 c122_142 rfl ?_
  refine p_iconst 144 c122_143 rfl ?_
  refine p_iaS 145 c122_144 rfl ka393 (rg_wr _) 1 rfl (fun hx4889 => ?_)
  have hR4890 := hR.up 393 (wr ((wr ((wr (48 * x1)) + (wr (8 * x2)))) + x3)).toNat (v := 1) (nselA (by decide)) (rgD rfl)
  refine p_aload 146 c122_145 rfl rfl ?_
  refine p_iconst 148 c122_146 rfl ?_
  refine p_cS 151 [.ref 376, yI 59] [] c122_148 rfl rfl rfl (fun k' hk' d' => d118 (f := f) (by omega) (rgD rfl) hR4890) (fun r4895 m4897 hF4893 hg4894 hR4898 n4892 k4891 hk4891 => ?_)
  have hX4896 := hX.trans (bI_s hF4893)
  refine p_if 155 154 c122_151 rfl rfl (yz_ne hg4894) (fun hb4899 k4900 hk4900 => ?_) (fun hb4899 k4901 hk4901 => ?_)
  · have hX4902 := hX4896.trans (if_neg hb4899)
    exact p_return c122_155 (Hr _ hX4902 hR4898 _)
  · have hX4903 := hX4896.trans (if_pos (Classical.not_not.mp hb4899))
    exact p_return c122_154 (Hr _ hX4903 hR4898 _)
def J122_76 (f : Nat) (x1 : Int) (x2 : Int) (x3 : Int) (xs0 : Int) (m : yM) : Option yM := (bI (F105 f xs0 m) (fun r4877 m4879 => (if r4877 = 0 then (some m4879) else (if x3 < 0 then (J122_128 f x1 x2 (m4879 385 x1.toNat) (yup (yup m4879 394 (wr ((wr (8 * x1)) + (m4879 385 x1.toNat))).toNat (m 376 4)) 385 x1.toNat (wr ((m4879 385 x1.toNat) + 1)))) else (J122_128 f x1 x2 x3 m4879)))))
set_option maxRecDepth 100000 in
theorem tJ122_76 {L : Nat} {xs : Nat → Int32} {Q : xO → yM → Nat → Prop} {k d n : Nat} {c : yS3} {f : Nat} {x1 : Int} {x2 : Int} {x3 : Int} {xs0 : Int} {m : yM} {j4 j5 : Option Value} (hk : k ≤ f) (gx1 : rg x1) (gx2 : rg x2) (gx3 : rg x3) (gxs0 : rg xs0) (hR : RM c m) (Hr : ∀ m', J122_76 f x1 x2 x3 xs0 m = some m' → RM c m' → ∀ n', Q (.inl none) m' n') : PW (gZ L xs) k 122 d 76 [some (.ref 376), some (yI x1), some (yI x2), some (yI x3), j4, j5] [yI xs0] m n Q := by
  have hX : J122_76 f x1 x2 x3 xs0 m = J122_76 f x1 x2 x3 xs0 m := rfl
  refine p_istore 78 c122_76 rfl rfl ?_
  refine p_aload 79 c122_78 rfl rfl ?_
  refine p_getX 82 (m 376 4) c122_79 rfl kf376_4 rfl ?_
  refine p_istore 84 c122_82 rfl rfl ?_
  refine p_aload 85 c122_84 rfl rfl ?_
  refine p_iload 87 c122_85 rfl rfl ?_
  refine p_cS 90 [.ref 376, yI xs0] [] c122_87 rfl rfl rfl (fun k' hk' d' => d105 (f := f) (by omega) gxs0 hR) (fun r4877 m4879 hF4875 hg4876 hR4880 n4874 k4873 hk4873 => ?_)
  have hX4878 := hX.trans (bI_s hF4875)
  refine p_if 94 93 c122_90 rfl rfl (yz_ne hg4876) (fun hb4881 k4882 hk4882 => ?_) (fun hb4881 k4883 hk4883 => ?_)
  · have hX4884 := hX4878.trans (if_neg hb4881)
    refine p_iload 95 c122_94 rfl rfl ?_
    refine p_if 128 98 c122_95 rfl rfl ((yz_ge gx3).trans Int.not_lt.symm) (fun hb4885 k4886 hk4886 => ?_) (fun hb4885 k4887 hk4887 => ?_)
    · have hX4888 := hX4884.trans (if_neg hb4885)
      exact tJ122_128 (f := f) (by omega) gx1 gx2 gx3 hR4880 (fun m' e' => Hr m' (hX4888.trans e'))
    · have hX4904 := hX4884.trans (if_pos (Classical.not_not.mp hb4885))
      refine p_aload 99 c122_98 rfl rfl ?_
      refine p_getR 102 c122_99 rfl kf376_22 ?_
      refine p_iload 103 c122_102 rfl rfl ?_
      refine p_iaX 104 (m4879 385 x1.toNat) c122_103 rfl ka385 gx1 rfl (fun hx4905 => ?_)
      refine p_istore 105 c122_104 rfl rfl ?_
      refine p_aload 106 c122_105 rfl rfl ?_
      refine p_getR 109 c122_106 rfl kf376_31 ?_
      refine p_iconst 111 c122_109 rfl ?_
      refine p_iload 112 c122_111 rfl rfl ?_
      refine p_imul 113 c122_112 rfl ?_
      refine p_iload 114 c122_113 rfl rfl ?_
      refine p_iadd 115 c122_114 rfl ?_
      refine p_iload 117 c122_115 rfl rfl ?_
      refine p_iaS 118 c122_117 rfl ka394 (rg_wr _) (m 376 4) (nar0 (hR.rg _ _)) (fun hx4906 => ?_)
      have hR4907 := hR4880.up 394 (wr ((wr (8 * x1)) + (m4879 385 x1.toNat))).toNat (v := m 376 4) (nselA (by decide)) (hR.rg _ _)
      refine p_aload 119 c122_118 rfl rfl ?_
      refine p_getR 122 c122_119 rfl kf376_22 ?_
      refine p_iload 123 c122_122 rfl rfl ?_
      refine p_dup2 124 c122_123 rfl ⟨rfl, rfl⟩ ?_
      refine p_iaX 125 (m4879 385 x1.toNat) c122_124 rfl ka385 gx1 (yup_na (by decide)) (fun hx4908 => ?_)
      refine p_iconst 126 c122_125 rfl ?_
      refine p_iadd 127 c122_126 rfl ?_
      refine p_iaS 128 c122_127 rfl ka385 gx1 (wr ((m4879 385 x1.toNat) + 1)) (nar0 (rg_wr _)) (fun hx4909 => ?_)
      have hR4910 := hR4907.up 385 x1.toNat (v := wr ((m4879 385 x1.toNat) + 1)) (nselA (by decide)) (rg_wr _)
      exact tJ122_128 (f := f) (by omega) gx1 gx2 (hR4880.rg _ _) hR4910 (fun m' e' => Hr m' (hX4904.trans e'))
  · have hX4911 := hX4878.trans (if_pos (Classical.not_not.mp hb4881))
    exact p_return c122_93 (Hr _ hX4911 hR4880 _)
def J122_75 (f : Nat) (x1 : Int) (x2 : Int) (x3 : Int) (m : yM) : Option yM := (J122_76 f x1 x2 x3 0 m)
set_option maxRecDepth 100000 in
theorem tJ122_75 {L : Nat} {xs : Nat → Int32} {Q : xO → yM → Nat → Prop} {k d n : Nat} {c : yS3} {f : Nat} {x1 : Int} {x2 : Int} {x3 : Int} {m : yM} {j4 j5 : Option Value} (hk : k ≤ f) (gx1 : rg x1) (gx2 : rg x2) (gx3 : rg x3) (hR : RM c m) (Hr : ∀ m', J122_75 f x1 x2 x3 m = some m' → RM c m' → ∀ n', Q (.inl none) m' n') : PW (gZ L xs) k 122 d 75 [some (.ref 376), some (yI x1), some (yI x2), some (yI x3), j4, j5] [] m n Q := by
  have hX : J122_75 f x1 x2 x3 m = J122_75 f x1 x2 x3 m := rfl
  refine p_iconst 76 c122_75 rfl ?_
  exact tJ122_76 (f := f) (by omega) gx1 gx2 gx3 (rgD rfl) hR (fun m' e' => Hr m' (hX.trans e'))
def J122_71 (f : Nat) (x1 : Int) (x2 : Int) (x3 : Int) (m : yM) : Option yM := (J122_76 f x1 x2 x3 1 m)
set_option maxRecDepth 100000 in
theorem tJ122_71 {L : Nat} {xs : Nat → Int32} {Q : xO → yM → Nat → Prop} {k d n : Nat} {c : yS3} {f : Nat} {x1 : Int} {x2 : Int} {x3 : Int} {m : yM} {j4 j5 : Option Value} (hk : k ≤ f) (gx1 : rg x1) (gx2 : rg x2) (gx3 : rg x3) (hR : RM c m) (Hr : ∀ m', J122_71 f x1 x2 x3 m = some m' → RM c m' → ∀ n', Q (.inl none) m' n') : PW (gZ L xs) k 122 d 71 [some (.ref 376), some (yI x1), some (yI x2), some (yI x3), j4, j5] [] m n Q := by
  have hX : J122_71 f x1 x2 x3 m = J122_71 f x1 x2 x3 m := rfl
  refine p_iconst 72 c122_71 rfl ?_
  refine p_goto 76 c122_72 rfl ?_
  exact tJ122_76 (f := f) (by omega) gx1 gx2 gx3 (rgD rfl) hR (fun m' e' => Hr m' (hX.trans e'))
def J122_38 (f : Nat) (x1 : Int) (x2 : Int) (xs0 : Int) (m : yM) : Option yM := (if F115 m = 0 then (J122_75 f x1 x2 xs0 m) else (bP (F121 f x1 x2 xs0 m) (fun r4942 => (if r4942 = 0 then (if xs0 < 0 then (if m 385 x1.toNat < 8 then (J122_71 f x1 x2 xs0 m) else (J122_75 f x1 x2 xs0 m)) else (J122_71 f x1 x2 xs0 m)) else (J122_75 f x1 x2 xs0 m)))))
set_option maxRecDepth 100000 in
theorem tJ122_38 {L : Nat} {xs : Nat → Int32} {Q : xO → yM → Nat → Prop} {k d n : Nat} {c : yS3} {f : Nat} {x1 : Int} {x2 : Int} {xs0 : Int} {m : yM} {j3 j4 j5 : Option Value} (hk : k ≤ f) (gx1 : rg x1) (gx2 : rg x2) (gxs0 : rg xs0) (hR : RM c m) (Hr : ∀ m', J122_38 f x1 x2 xs0 m = some m' → RM c m' → ∀ n', Q (.inl none) m' n') : PW (gZ L xs) k 122 d 38 [some (.ref 376), some (yI x1), some (yI x2), j3, j4, j5] [yI xs0] m n Q := by
  have hX : J122_38 f x1 x2 xs0 m = J122_38 f x1 x2 xs0 m := rfl
  refine p_istore 39 c122_38 rfl rfl ?_
  refine p_aload 40 c122_39 rfl rfl ?_
  refine p_cX 43 [.ref 376] [] c122_40 rfl rfl rfl (fun k' hk' d' => d115 hR) (fun hg4868 n4867 k4866 hk4866 => ?_)
  refine p_if 75 46 c122_43 rfl rfl (yz_eq hg4868) (fun hb4869 k4870 hk4870 => ?_) (fun hb4869 k4871 hk4871 => ?_)
  · have hX4872 := hX.trans (if_pos hb4869)
    exact tJ122_75 (f := f) (by omega) gx1 gx2 gxs0 hR (fun m' e' => Hr m' (hX4872.trans e'))
  · have hX4912 := hX.trans (if_neg hb4869)
    refine p_aload 47 c122_46 rfl rfl ?_
    refine p_iload 48 c122_47 rfl rfl ?_
    refine p_iload 49 c122_48 rfl rfl ?_
    refine p_iload 50 c122_49 rfl rfl ?_
    refine p_cO 53 [.ref 376, yI x1, yI x2, yI xs0] [] c122_50 rfl rfl rfl (fun k' hk' d' => d121 (f := f) (by omega) gx1 gx2 gxs0 hR) (fun r4942 hF4940 hg4941 n4914 k4913 hk4913 => ?_)
    have hX4943 := hX4912.trans (bP_s hF4940)
    refine p_if 75 56 c122_53 rfl rfl (yz_ne hg4941) (fun hb4944 k4945 hk4945 => ?_) (fun hb4944 k4946 hk4946 => ?_)
    · have hX4947 := hX4943.trans (if_neg hb4944)
      exact tJ122_75 (f := f) (by omega) gx1 gx2 gxs0 hR (fun m' e' => Hr m' (hX4947.trans e'))
    · have hX4948 := hX4943.trans (if_pos (Classical.not_not.mp hb4944))
      refine p_iload 57 c122_56 rfl rfl ?_
      refine p_if 71 60 c122_57 rfl rfl ((yz_ge gxs0).trans Int.not_lt.symm) (fun hb4949 k4950 hk4950 => ?_) (fun hb4949 k4951 hk4951 => ?_)
      · have hX4952 := hX4948.trans (if_neg hb4949)
        exact tJ122_71 (f := f) (by omega) gx1 gx2 gxs0 hR (fun m' e' => Hr m' (hX4952.trans e'))
      · have hX4953 := hX4948.trans (if_pos (Classical.not_not.mp hb4949))
        refine p_aload 61 c122_60 rfl rfl ?_
        refine p_getR 64 c122_61 rfl kf376_22 ?_
        refine p_iload 65 c122_64 rfl rfl ?_
        refine p_iaX 66 (m 385 x1.toNat) c122_65 rfl ka385 gx1 rfl (fun hx4954 => ?_)
        refine p_iconst 68 c122_66 rfl ?_
        refine p_icmp 75 71 c122_68 rfl rfl ((yc_ge (hR.rg _ _) (rgD rfl)).trans Int.not_lt.symm) (fun hb4955 k4956 hk4956 => ?_) (fun hb4955 k4957 hk4957 => ?_)
        · have hX4958 := hX4953.trans (if_neg hb4955)
          exact tJ122_75 (f := f) (by omega) gx1 gx2 gxs0 hR (fun m' e' => Hr m' (hX4958.trans e'))
        · have hX4959 := hX4953.trans (if_pos (Classical.not_not.mp hb4955))
          exact tJ122_71 (f := f) (by omega) gx1 gx2 gxs0 hR (fun m' e' => Hr m' (hX4959.trans e'))
def F122 (f : Nat) (m : yM) : Option yM := (bU (F99 f m) (fun m4857 => (if F115 m4857 = 0 then (J122_38 f (F96 m) (wr ((m 383 (F96 m).toNat) - 1)) ((-1)) m4857) else (bP (F120 f (F96 m) (m4857 376 4) m4857) (fun r4985 => (J122_38 f (F96 m) (wr ((m 383 (F96 m).toNat) - 1)) r4985 m4857))))))
set_option maxRecDepth 100000 in
theorem d122 {L : Nat} {xs : Nat → Int32} {k d n : Nat} {c : yS3} {f : Nat} {m : yM} (hk : k ≤ f) (hR : RM c m) : PC (gZ L xs) k d 122 [.ref 376] m n (qV c (F122 f m)) := by
  have hX : F122 f m = F122 f m := rfl
  have Hr : ∀ m', F122 f m = some m' → RM c m' → ∀ n' : Nat, (qV c (F122 f m)) (.inl none) m' n' := fun m' e h n' => ⟨rfl, h, e⟩
  refine PC.mk [some (.ref 376), none, none, none, none, none] kn122 rfl ?_
  refine p_aload 1 c122_0 rfl rfl ?_
  refine p_cX 4 [.ref 376] [] c122_1 rfl rfl rfl (fun k' hk' d' => d96 hR) (fun hg4849 n4848 k4847 hk4847 => ?_)
  refine p_istore 5 c122_4 rfl rfl ?_
  refine p_aload 6 c122_5 rfl rfl ?_
  refine p_getR 9 c122_6 rfl kf376_20 ?_
  refine p_iload 10 c122_9 rfl rfl ?_
  refine p_iaX 11 (m 383 (F96 m).toNat) c122_10 rfl ka383 hg4849 rfl (fun hx4850 => ?_)
  refine p_iconst 12 c122_11 rfl ?_
  refine p_isub 13 c122_12 rfl ?_
  refine p_istore 14 c122_13 rfl rfl ?_
  refine p_aload 15 c122_14 rfl rfl ?_
  refine p_cV 18 [.ref 376] [] c122_15 rfl rfl rfl (fun k' hk' d' => d99 (f := f) (by omega) hR) (fun m4857 hF4853 hR4858 n4852 k4851 hk4851 => ?_)
  have hX4856 := hX.trans (bU_s hF4853)
  refine p_aload 19 c122_18 rfl rfl ?_
  refine p_cX 22 [.ref 376] [] c122_19 rfl rfl rfl (fun k' hk' d' => d115 hR4858) (fun hg4861 n4860 k4859 hk4859 => ?_)
  refine p_if 37 25 c122_22 rfl rfl (yz_eq hg4861) (fun hb4862 k4863 hk4863 => ?_) (fun hb4862 k4864 hk4864 => ?_)
  · have hX4865 := hX4856.trans (if_pos hb4862)
    refine p_iconst 38 c122_37 rfl ?_
    exact tJ122_38 (f := f) (by omega) hg4849 (rg_wr _) (rgD rfl) hR4858 (fun m' e' => Hr m' (hX4865.trans e'))
  · have hX4960 := hX4856.trans (if_neg hb4862)
    refine p_aload 26 c122_25 rfl rfl ?_
    refine p_iload 27 c122_26 rfl rfl ?_
    refine p_aload 28 c122_27 rfl rfl ?_
    refine p_getX 31 (m4857 376 4) c122_28 rfl kf376_4 rfl ?_
    refine p_cO 34 [.ref 376, yI (F96 m), yI (m4857 376 4)] [] c122_31 rfl rfl rfl (fun k' hk' d' => d120 (f := f) (by omega) hg4849 (hR4858.rg _ _) hR4858) (fun r4985 hF4983 hg4984 n4962 k4961 hk4961 => ?_)
    have hX4986 := hX4960.trans (bP_s hF4983)
    refine p_goto 38 c122_34 rfl ?_
    exact tJ122_38 (f := f) (by omega) hg4849 (rg_wr _) hg4984 hR4858 (fun m' e' => Hr m' (hX4986.trans e'))
def B140_4 (f : Nat) (m : yM) : Option ((Unit × yM) ⊕ ((Unit × yM) ⊕ (Unit × yM))) := (if m 376 8 < 0 then (if F117 125 m = 0 then (if F106 m = 0 then (if F107 m = 0 then (bU (F104 f m) (fun m3494 => (some (.inl ((), m3494))))) else (bU (F126 f m) (fun m3802 => (if m3802 376 8 < 0 then (bU (F139 f m3802) (fun m4841 => (some (.inl ((), m4841))))) else (some (.inl ((), m3802))))))) else (bU (F122 f m) (fun m4991 => (some (.inl ((), m4991)))))) else (some (.inr (.inl ((), m))))) else (some (.inr (.inl ((), m)))))
set_option maxRecDepth 100000 in
theorem tB140_4 {L : Nat} {xs : Nat → Int32} {Q : xO → yM → Nat → Prop} {k d n : Nat} {c : yS3} {f : Nat} {m : yM} (hk : k ≤ f) (hR : RM c m) (Hn : ∀ (m' : yM) (n' : Nat), B140_4 f m = some (.inl ((), m')) → RM c m' → ∀ k', k' < k → PW (gZ L xs) k' 140 d 4 [some (.ref 376)] [] m' n' Q) (He : ∀ (m' : yM) (n' : Nat), B140_4 f m = some (.inr (.inl ((), m'))) → RM c m' → ∀ k', k' ≤ k → PW (gZ L xs) k' 140 d 66 [some (.ref 376)] [] m' n' Q) (Hr : ∀ m', B140_4 f m = some (.inr (.inr ((), m'))) → RM c m' → ∀ n', Q (.inl none) m' n') : PW (gZ L xs) k 140 d 4 [some (.ref 376)] [] m n Q := by
  have hX : B140_4 f m = B140_4 f m := rfl
  refine p_aload 5 c140_4 rfl rfl ?_
  refine p_getX 8 (m 376 8) c140_5 rfl kf376_8 rfl ?_
  refine p_if 66 11 c140_8 rfl rfl ((yz_ge (hR.rg _ _)).trans Int.not_lt.symm) (fun hb3461 k3462 hk3462 => ?_) (fun hb3461 k3463 hk3463 => ?_)
  · have hX3464 := hX.trans (if_neg hb3461)
    exact He _ _ hX3464 hR _ (by omega)
  · have hX3465 := hX.trans (if_pos (Classical.not_not.mp hb3461))
    refine p_aload 12 c140_11 rfl rfl ?_
    refine p_iconst 14 c140_12 rfl ?_
    refine p_cX 17 [.ref 376, yI 125] [] c140_14 rfl rfl rfl (fun k' hk' d' => d117 (rgD rfl) hR) (fun hg3468 n3467 k3466 hk3466 => ?_)
    refine p_if 66 20 c140_17 rfl rfl (yz_ne hg3468) (fun hb3469 k3470 hk3470 => ?_) (fun hb3469 k3471 hk3471 => ?_)
    · have hX3472 := hX3465.trans (if_neg hb3469)
      exact He _ _ hX3472 hR _ (by omega)
    · have hX3473 := hX3465.trans (if_pos (Classical.not_not.mp hb3469))
      refine p_aload 21 c140_20 rfl rfl ?_
      refine p_cX 24 [.ref 376] [] c140_21 rfl rfl rfl (fun k' hk' d' => d106 hR) (fun hg3476 n3475 k3474 hk3474 => ?_)
      refine p_if 34 27 c140_24 rfl rfl (yz_eq hg3476) (fun hb3477 k3478 hk3478 => ?_) (fun hb3477 k3479 hk3479 => ?_)
      · have hX3480 := hX3473.trans (if_pos hb3477)
        refine p_aload 35 c140_34 rfl rfl ?_
        refine p_cX 38 [.ref 376] [] c140_35 rfl rfl rfl (fun k' hk' d' => d107 hR) (fun hg3483 n3482 k3481 hk3481 => ?_)
        refine p_if 59 41 c140_38 rfl rfl (yz_eq hg3483) (fun hb3484 k3485 hk3485 => ?_) (fun hb3484 k3486 hk3486 => ?_)
        · have hX3487 := hX3480.trans (if_pos hb3484)
          refine p_aload 60 c140_59 rfl rfl ?_
          refine p_cV 63 [.ref 376] [] c140_60 rfl rfl rfl (fun k' hk' d' => d104 (f := f) (by omega) hR) (fun m3494 hF3490 hR3495 n3489 k3488 hk3488 => ?_)
          have hX3493 := hX3487.trans (bU_s hF3490)
          refine p_gotoD 4 c140_63 rfl (fun k3496 hk3496 => ?_)
          exact Hn _ _ hX3493 hR3495 _ (by omega)
        · have hX3497 := hX3480.trans (if_neg hb3484)
          refine p_aload 42 c140_41 rfl rfl ?_
          refine p_cV 45 [.ref 376] [] c140_42 rfl rfl rfl (fun k' hk' d' => d126 (f := f) (by omega) hR) (fun m3802 hF3798 hR3803 n3499 k3498 hk3498 => ?_)
          have hX3801 := hX3497.trans (bU_s hF3798)
          refine p_aload 46 c140_45 rfl rfl ?_
          refine p_getX 49 (m3802 376 8) c140_46 rfl kf376_8 rfl ?_
          refine p_if 4 52 c140_49 rfl rfl ((yz_ge (hR3803.rg _ _)).trans Int.not_lt.symm) (fun hb3804 k3805 hk3805 => ?_) (fun hb3804 k3806 hk3806 => ?_)
          · have hX3807 := hX3801.trans (if_neg hb3804)
            exact Hn _ _ hX3807 hR3803 _ (by omega)
          · have hX3808 := hX3801.trans (if_pos (Classical.not_not.mp hb3804))
            refine p_aload 53 c140_52 rfl rfl ?_
            refine p_cV 56 [.ref 376] [] c140_53 rfl rfl rfl (fun k' hk' d' => d139 (f := f) (by omega) hR3803) (fun m4841 hF4837 hR4842 n3810 k3809 hk3809 => ?_)
            have hX4840 := hX3808.trans (bU_s hF4837)
            refine p_gotoD 4 c140_56 rfl (fun k4843 hk4843 => ?_)
            exact Hn _ _ hX4840 hR4842 _ (by omega)
      · have hX4844 := hX3473.trans (if_neg hb3477)
        refine p_aload 28 c140_27 rfl rfl ?_
        refine p_cV 31 [.ref 376] [] c140_28 rfl rfl rfl (fun k' hk' d' => d122 (f := f) (by omega) hR) (fun m4991 hF4987 hR4992 n4846 k4845 hk4845 => ?_)
        have hX4990 := hX4844.trans (bU_s hF4987)
        refine p_gotoD 4 c140_31 rfl (fun k4993 hk4993 => ?_)
        exact Hn _ _ hX4990 hR4992 _ (by omega)
def J140_66 (f : Nat) (m : yM) : Option yM := (if m 376 8 < 0 then (bU (F99 f m) (fun m5014 => (some m5014))) else (some m))
set_option maxRecDepth 100000 in
theorem tJ140_66 {L : Nat} {xs : Nat → Int32} {Q : xO → yM → Nat → Prop} {k d n : Nat} {c : yS3} {f : Nat} {m : yM} (hk : k ≤ f) (hR : RM c m) (Hr : ∀ m', J140_66 f m = some m' → RM c m' → ∀ n', Q (.inl none) m' n') : PW (gZ L xs) k 140 d 66 [some (.ref 376)] [] m n Q := by
  have hX : J140_66 f m = J140_66 f m := rfl
  refine p_aload 67 c140_66 rfl rfl ?_
  refine p_getX 70 (m 376 8) c140_67 rfl kf376_8 rfl ?_
  refine p_if 77 73 c140_70 rfl rfl ((yz_ge (hR.rg _ _)).trans Int.not_lt.symm) (fun hb5003 k5004 hk5004 => ?_) (fun hb5003 k5005 hk5005 => ?_)
  · have hX5006 := hX.trans (if_neg hb5003)
    exact p_return c140_77 (Hr _ hX5006 hR _)
  · have hX5007 := hX.trans (if_pos (Classical.not_not.mp hb5003))
    refine p_aload 74 c140_73 rfl rfl ?_
    refine p_cV 77 [.ref 376] [] c140_74 rfl rfl rfl (fun k' hk' d' => d99 (f := f) (by omega) hR) (fun m5014 hF5010 hR5015 n5009 k5008 hk5008 => ?_)
    have hX5013 := hX5007.trans (bU_s hF5010)
    exact p_return c140_77 (Hr _ hX5013 hR5015 _)
def F140 (f : Nat) (m : yM) : Option yM := (bU (F119 f m) (fun m3459 => (bL (yloop (fun (l : Unit) ml => B140_4 f ml) f () m3459) (fun _ m5000 => (J140_66 f m5000)) (fun _ mr => some mr))))
set_option maxRecDepth 100000 in
theorem d140 {L : Nat} {xs : Nat → Int32} {k d n : Nat} {c : yS3} {f : Nat} {m : yM} (hk : k ≤ f) (hR : RM c m) : PC (gZ L xs) k d 140 [.ref 376] m n (qV c (F140 f m)) := by
  have hX : F140 f m = F140 f m := rfl
  have Hr : ∀ m', F140 f m = some m' → RM c m' → ∀ n' : Nat, (qV c (F140 f m)) (.inl none) m' n' := fun m' e h n' => ⟨rfl, h, e⟩
  refine PC.mk [some (.ref 376)] kn140 rfl ?_
  refine p_aload 1 c140_0 rfl rfl ?_
  refine p_cV 4 [.ref 376] [] c140_1 rfl rfl rfl (fun k' hk' d' => d119 (f := f) (by omega) hR) (fun m3459 hF3455 hR3460 n3053 k3052 hk3052 => ?_)
  have hX3458 := hX.trans (bU_s hF3455)
  refine PW.loop (K := k3052) (pce := 66) (fun (l : Unit) ml => B140_4 f ml) (fun (l : Unit) j => [some (.ref 376)]) (fun (l : Unit) => True) (RM c) (fun (r' : Unit) m' => RM c m' → ∀ n' : Nat, (qV c (F140 f m)) (.inl none) m' n') (fun k' hk' l j m' n' hl hI Hn' He' Hr' => tB140_4 (f := f) (by omega) hI (fun  m2 n2 e  hR2 => Hn' () (fun q => ([none] : List (Option Value)).getD q none) m2 n2 e trivial hR2) (fun  m2 n2 e  hR2 => He' () (fun q => ([none] : List (Option Value)).getD q none) m2 n2 e trivial hR2) (fun m2 e => Hr' () m2 e)) f k3052 (by omega) (Nat.le_refl _) () (fun q => ([some (.ref 376)] : xL).getD q none) _ _ trivial hR3460 (fun l4994 j4997 m5000 n4999 e4996 hl4995 hR5001 k4998 hk4998 => ?_) (fun r' m' e' => ?_)
  · have hX5002 := hX3458.trans (bL_l e4996)
    exact tJ140_66 (f := f) (by omega) hR5001 (fun m' e' => Hr m' (hX5002.trans e'))
  · exact Hr m' (hX3458.trans (bL_r e'))
def F142 (f : Nat) (x1 : Int) (x2 : Int) (x3 : Int) (x4 : Int) (m : yM) : Option Int := (bP (F123 f x1 x2 x3 0 m) (fun r5174 => (if r5174 < 0 then (some ((-1))) else (if m 397 (wr ((wr (10 * x1)) + r5174)).toNat = x4 then (some r5174) else (some ((-1)))))))
set_option maxRecDepth 100000 in
theorem d142 {L : Nat} {xs : Nat → Int32} {k d n : Nat} {c : yS3} {f : Nat} {x1 : Int} {x2 : Int} {x3 : Int} {x4 : Int} {m : yM} (hk : k ≤ f) (gx1 : rg x1) (gx2 : rg x2) (gx3 : rg x3) (gx4 : rg x4) (hR : RM c m) : PC (gZ L xs) k d 142 [.ref 376, yI x1, yI x2, yI x3, yI x4] m n (qO m (F142 f x1 x2 x3 x4 m)) := by
  have hX : F142 f x1 x2 x3 x4 m = F142 f x1 x2 x3 x4 m := rfl
  have Hr : ∀ r, F142 f x1 x2 x3 x4 m = some r → rg r → ∀ n' : Nat, (qO m (F142 f x1 x2 x3 x4 m)) (.inl (some (yI r))) m n' := fun r e h n' => ⟨r, rfl, h, rfl, e⟩
  refine PC.mk [some (.ref 376), some (yI x1), some (yI x2), some (yI x3), some (yI x4), none] kn142 rfl ?_
  refine p_aload 1 c142_0 rfl rfl ?_
  refine p_iload 2 c142_1 rfl rfl ?_
  refine p_iload 3 c142_2 rfl rfl ?_
  refine p_iload 4 c142_3 rfl rfl ?_
  refine p_iconst 5 c142_4 rfl ?_
  refine p_cO 8 [.ref 376, yI x1, yI x2, yI x3, yI 0] [] c142_5 rfl rfl rfl (fun k' hk' d' => d123 (f := f) (by omega) gx1 gx2 gx3 (rgD rfl) hR) (fun r5174 hF5172 hg5173 n5171 k5170 hk5170 => ?_)
  have hX5175 := hX.trans (bP_s hF5172)
  refine p_istore 10 c142_8 rfl rfl ?_
  refine p_iload 12 c142_10 rfl rfl ?_
  refine p_if 37 15 c142_12 rfl rfl (yz_lt hg5173) (fun hb5176 k5177 hk5177 => ?_) (fun hb5176 k5178 hk5178 => ?_)
  · have hX5179 := hX5175.trans (if_pos hb5176)
    refine p_iconst 38 c142_37 rfl ?_
    exact p_ireturn c142_38 (Hr _ hX5179 (rgD rfl) _)
  · have hX5180 := hX5175.trans (if_neg hb5176)
    refine p_aload 16 c142_15 rfl rfl ?_
    refine p_getR 19 c142_16 rfl kf376_34 ?_
    refine p_iconst 21 c142_19 rfl ?_
    refine p_iload 22 c142_21 rfl rfl ?_
    refine p_imul 23 c142_22 rfl ?_
    refine p_iload 25 c142_23 rfl rfl ?_
    refine p_iadd 26 c142_25 rfl ?_
    refine p_iaX 27 (m 397 (wr ((wr (10 * x1)) + r5174)).toNat) c142_26 rfl ka397 (rg_wr _) rfl (fun hx5181 => ?_)
    refine p_iload 29 c142_27 rfl rfl ?_
    refine p_icmp 37 32 c142_29 rfl rfl (yc_ne (hR.rg _ _) gx4) (fun hb5182 k5183 hk5183 => ?_) (fun hb5182 k5184 hk5184 => ?_)
    · have hX5185 := hX5180.trans (if_neg hb5182)
      refine p_iconst 38 c142_37 rfl ?_
      exact p_ireturn c142_38 (Hr _ hX5185 (rgD rfl) _)
    · have hX5186 := hX5180.trans (if_pos (Classical.not_not.mp hb5182))
      refine p_iload 34 c142_32 rfl rfl ?_
      refine p_goto 38 c142_34 rfl ?_
      exact p_ireturn c142_38 (Hr _ hX5186 hg5173 _)
def F143 (f : Nat) (m : yM) : Option Int := (bP (F142 f (m 376 18) 0 (F101 103 111 0 0 0 0) 0 m) (fun r5189 => (some r5189)))
set_option maxRecDepth 100000 in
theorem d143 {L : Nat} {xs : Nat → Int32} {k d n : Nat} {c : yS3} {f : Nat} {m : yM} (hk : k ≤ f) (hR : RM c m) : PC (gZ L xs) k d 143 [.ref 376] m n (qO m (F143 f m)) := by
  have hX : F143 f m = F143 f m := rfl
  have Hr : ∀ r, F143 f m = some r → rg r → ∀ n' : Nat, (qO m (F143 f m)) (.inl (some (yI r))) m n' := fun r e h n' => ⟨r, rfl, h, rfl, e⟩
  refine PC.mk [some (.ref 376)] kn143 rfl ?_
  refine p_aload 1 c143_0 rfl rfl ?_
  refine p_aload 2 c143_1 rfl rfl ?_
  refine p_getX 5 (m 376 18) c143_2 rfl kf376_18 rfl ?_
  refine p_iconst 6 c143_5 rfl ?_
  refine p_iconst 8 c143_6 rfl ?_
  refine p_iconst 10 c143_8 rfl ?_
  refine p_iconst 11 c143_10 rfl ?_
  refine p_iconst 12 c143_11 rfl ?_
  refine p_iconst 13 c143_12 rfl ?_
  refine p_iconst 14 c143_13 rfl ?_
  refine p_cX 17 [yI 103, yI 111, yI 0, yI 0, yI 0, yI 0] [yI 0, yI (m 376 18), .ref 376] c143_14 rfl rfl rfl (fun k' hk' d' => d101 (rgD rfl) (rgD rfl) (rgD rfl) (rgD rfl) (rgD rfl) (rgD rfl) hR) (fun hg5167 n5166 k5165 hk5165 => ?_)
  refine p_iconst 18 c143_17 rfl ?_
  refine p_cO 21 [.ref 376, yI (m 376 18), yI 0, yI (F101 103 111 0 0 0 0), yI 0] [] c143_18 rfl rfl rfl (fun k' hk' d' => d142 (f := f) (by omega) (hR.rg _ _) (rgD rfl) hg5167 (rgD rfl) hR) (fun r5189 hF5187 hg5188 n5169 k5168 hk5168 => ?_)
  have hX5190 := hX.trans (bP_s hF5187)
  exact p_ireturn c143_21 (Hr _ hX5190 hg5188 _)
def F144 (x1 : Int) (m : yM) : Int := (if x1 < 0 then 0 else (if x1 < m 376 45 then 1 else 0))
set_option maxRecDepth 100000 in
theorem d144 {L : Nat} {xs : Nat → Int32} {k d n : Nat} {c : yS3} {x1 : Int} {m : yM} (gx1 : rg x1) (hR : RM c m) : PC (gZ L xs) k d 144 [.ref 376, yI x1] m n (qX m (F144 x1 m)) := by
  have hX : F144 x1 m = F144 x1 m := rfl
  have Hr : ∀ r, F144 x1 m = r → rg r → ∀ n' : Nat, (qX m (F144 x1 m)) (.inl (some (yI r))) m n' := fun r e h n' => by subst e; exact ⟨rfl, h, rfl⟩
  refine PC.mk [some (.ref 376), some (yI x1)] kn144 rfl ?_
  refine p_iload 1 c144_0 rfl rfl ?_
  refine p_if 16 4 c144_1 rfl rfl (yz_lt gx1) (fun hb5222 k5223 hk5223 => ?_) (fun hb5222 k5224 hk5224 => ?_)
  · have hX5225 := hX.trans (if_pos hb5222)
    refine p_iconst 17 c144_16 rfl ?_
    exact p_ireturn c144_17 (Hr _ hX5225 (rgD rfl) _)
  · have hX5226 := hX.trans (if_neg hb5222)
    refine p_iload 5 c144_4 rfl rfl ?_
    refine p_aload 6 c144_5 rfl rfl ?_
    refine p_getX 9 (m 376 45) c144_6 rfl kf376_45 rfl ?_
    refine p_icmp 16 12 c144_9 rfl rfl ((yc_ge gx1 (hR.rg _ _)).trans Int.not_lt.symm) (fun hb5227 k5228 hk5228 => ?_) (fun hb5227 k5229 hk5229 => ?_)
    · have hX5230 := hX5226.trans (if_neg hb5227)
      refine p_iconst 17 c144_16 rfl ?_
      exact p_ireturn c144_17 (Hr _ hX5230 (rgD rfl) _)
    · have hX5231 := hX5226.trans (if_pos (Classical.not_not.mp hb5227))
      refine p_iconst 13 c144_12 rfl ?_
      refine p_goto 17 c144_13 rfl ?_
      exact p_ireturn c144_17 (Hr _ hX5231 (rgD rfl) _)
def F145 (f : Nat) (x1 : Int) (x2 : Int) (m : yM) : Option yM := (if m 404 (wr ((wr (12 * x1)) + x2)).toNat < 0 then (some (yup (yup m 404 (wr ((wr (12 * x1)) + x2)).toNat (m 376 45)) 376 46 1)) else (some m))
set_option maxRecDepth 100000 in
theorem d145 {L : Nat} {xs : Nat → Int32} {k d n : Nat} {c : yS3} {f : Nat} {x1 : Int} {x2 : Int} {m : yM} (hk : k ≤ f) (gx1 : rg x1) (gx2 : rg x2) (hR : RM c m) : PC (gZ L xs) k d 145 [.ref 376, yI x1, yI x2] m n (qV c (F145 f x1 x2 m)) := by
  have hX : F145 f x1 x2 m = F145 f x1 x2 m := rfl
  have Hr : ∀ m', F145 f x1 x2 m = some m' → RM c m' → ∀ n' : Nat, (qV c (F145 f x1 x2 m)) (.inl none) m' n' := fun m' e h n' => ⟨rfl, h, e⟩
  refine PC.mk [some (.ref 376), some (yI x1), some (yI x2)] kn145 rfl ?_
  refine p_aload 1 c145_0 rfl rfl ?_
  refine p_getR 4 c145_1 rfl kf376_41 ?_
  refine p_iconst 6 c145_4 rfl ?_
  refine p_iload 7 c145_6 rfl rfl ?_
  refine p_imul 8 c145_7 rfl ?_
  refine p_iload 9 c145_8 rfl rfl ?_
  refine p_iadd 10 c145_9 rfl ?_
  refine p_iaX 11 (m 404 (wr ((wr (12 * x1)) + x2)).toNat) c145_10 rfl ka404 (rg_wr _) rfl (fun hx5354 => ?_)
  refine p_if 15 14 c145_11 rfl rfl (yz_lt (hR.rg _ _)) (fun hb5355 k5356 hk5356 => ?_) (fun hb5355 k5357 hk5357 => ?_)
  · have hX5358 := hX.trans (if_pos hb5355)
    refine p_aload 16 c145_15 rfl rfl ?_
    refine p_getR 19 c145_16 rfl kf376_41 ?_
    refine p_iconst 21 c145_19 rfl ?_
    refine p_iload 22 c145_21 rfl rfl ?_
    refine p_imul 23 c145_22 rfl ?_
    refine p_iload 24 c145_23 rfl rfl ?_
    refine p_iadd 25 c145_24 rfl ?_
    refine p_aload 26 c145_25 rfl rfl ?_
    refine p_getX 29 (m 376 45) c145_26 rfl kf376_45 rfl ?_
    refine p_iaS 30 c145_29 rfl ka404 (rg_wr _) (m 376 45) (nar0 (hR.rg _ _)) (fun hx5359 => ?_)
    have hR5360 := hR.up 404 (wr ((wr (12 * x1)) + x2)).toNat (v := m 376 45) (nselA (by decide)) (hR.rg _ _)
    refine p_aload 31 c145_30 rfl rfl ?_
    refine p_iconst 32 c145_31 rfl ?_
    refine p_putI 35 c145_32 rfl kf376_46 ?_
    have hR5361 := hR5360.up 376 46 (v := 1) (nselD rfl) (rgD rfl)
    exact p_return c145_35 (Hr _ hX5358 hR5361 _)
  · have hX5362 := hX.trans (if_neg hb5355)
    exact p_return c145_14 (Hr _ hX5362 hR _)
def J147_244 (f : Nat) (x1 : Int) (x2 : Int) (x3 : Int) (x4 : Int) (x5 : Int) (m : yM) : Option ((Int × yM) ⊕ ((Int × yM) ⊕ (Unit × yM))) := (some (.inl ((wr (x5 + 1)), m)))
set_option maxRecDepth 100000 in
theorem tJ147_244 {L : Nat} {xs : Nat → Int32} {Q : xO → yM → Nat → Prop} {k d n : Nat} {c : yS3} {f : Nat} {x1 : Int} {x2 : Int} {x3 : Int} {x4 : Int} {x5 : Int} {m : yM} {j6 j7 : Option Value} (hk : k ≤ f) (gx1 : rg x1) (gx2 : rg x2) (gx3 : rg x3) (gx4 : rg x4) (gx5 : rg x5) (hR : RM c m) (Hn : ∀ (y0 : Int) (z0 z1 : Option Value) (m' : yM) (n' : Nat), J147_244 f x1 x2 x3 x4 x5 m = some (.inl (y0, m')) → rg y0 → RM c m' → ∀ k', k' < k → PW (gZ L xs) k' 147 d 53 [some (.ref 376), some (yI x1), some (yI x2), some (yI x3), some (yI x4), some (yI y0), z0, z1] [] m' n' Q) (He : ∀ (y0 : Int) (z0 z1 : Option Value) (m' : yM) (n' : Nat), J147_244 f x1 x2 x3 x4 x5 m = some (.inr (.inl (y0, m'))) → rg y0 → RM c m' → ∀ k', k' ≤ k → PW (gZ L xs) k' 147 d 250 [some (.ref 376), some (yI x1), some (yI x2), some (yI x3), some (yI x4), some (yI y0), z0, z1] [] m' n' Q) (Hr : ∀ m', J147_244 f x1 x2 x3 x4 x5 m = some (.inr (.inr ((), m'))) → RM c m' → ∀ n', Q (.inl none) m' n') : PW (gZ L xs) k 147 d 244 [some (.ref 376), some (yI x1), some (yI x2), some (yI x3), some (yI x4), some (yI x5), j6, j7] [] m n Q := by
  have hX : J147_244 f x1 x2 x3 x4 x5 m = J147_244 f x1 x2 x3 x4 x5 m := rfl
  refine p_iinc 247 c147_244 rfl rfl rfl ?_
  refine p_gotoD 53 c147_247 rfl (fun k5292 hk5292 => ?_)
  exact Hn _ _ _ _ _ hX (rg_wr _) hR _ (by omega)
def J147_238 (f : Nat) (x1 : Int) (x2 : Int) (x3 : Int) (x4 : Int) (x5 : Int) (x6 : Int) (m : yM) : Option ((Int × yM) ⊕ ((Int × yM) ⊕ (Unit × yM))) := (some (.inl ((wr (x6 + 1)), m)))
set_option maxRecDepth 100000 in
theorem tJ147_238 {L : Nat} {xs : Nat → Int32} {Q : xO → yM → Nat → Prop} {k d n : Nat} {c : yS3} {f : Nat} {x1 : Int} {x2 : Int} {x3 : Int} {x4 : Int} {x5 : Int} {x6 : Int} {m : yM} {j7 : Option Value} (hk : k ≤ f) (gx1 : rg x1) (gx2 : rg x2) (gx3 : rg x3) (gx4 : rg x4) (gx5 : rg x5) (gx6 : rg x6) (hR : RM c m) (Hn : ∀ (y0 : Int) (z0 : Option Value) (m' : yM) (n' : Nat), J147_238 f x1 x2 x3 x4 x5 x6 m = some (.inl (y0, m')) → rg y0 → RM c m' → ∀ k', k' < k → PW (gZ L xs) k' 147 d 94 [some (.ref 376), some (yI x1), some (yI x2), some (yI x3), some (yI x4), some (yI x5), some (yI y0), z0] [] m' n' Q) (He : ∀ (y0 : Int) (z0 : Option Value) (m' : yM) (n' : Nat), J147_238 f x1 x2 x3 x4 x5 x6 m = some (.inr (.inl (y0, m'))) → rg y0 → RM c m' → ∀ k', k' ≤ k → PW (gZ L xs) k' 147 d 244 [some (.ref 376), some (yI x1), some (yI x2), some (yI x3), some (yI x4), some (yI x5), some (yI y0), z0] [] m' n' Q) (Hr : ∀ m', J147_238 f x1 x2 x3 x4 x5 x6 m = some (.inr (.inr ((), m'))) → RM c m' → ∀ n', Q (.inl none) m' n') : PW (gZ L xs) k 147 d 238 [some (.ref 376), some (yI x1), some (yI x2), some (yI x3), some (yI x4), some (yI x5), some (yI x6), j7] [] m n Q := by
  have hX : J147_238 f x1 x2 x3 x4 x5 x6 m = J147_238 f x1 x2 x3 x4 x5 x6 m := rfl
  refine p_iinc 241 c147_238 rfl rfl rfl ?_
  refine p_gotoD 94 c147_241 rfl (fun k5308 hk5308 => ?_)
  exact Hn _ _ _ _ hX (rg_wr _) hR _ (by omega)
def J147_155 (f : Nat) (x1 : Int) (x2 : Int) (x3 : Int) (x4 : Int) (x5 : Int) (x6 : Int) (x7 : Int) (m : yM) : Option ((Int × yM) ⊕ ((Int × yM) ⊕ (Unit × yM))) := (if x2 = 0 then (if F144 (m 404 (wr ((wr (12 * (m 403 (wr (x1 + 3)).toNat))) + x6)).toNat) m = 0 then (J147_238 f x1 x2 x3 x4 x5 x6 m) else (if m 405 x7.toNat < 0 then (bP (F121 f (m 376 18) (m 400 (wr ((wr (12 * (m 376 18))) + x5)).toNat) x3 m) (fun r5331 => (if r5331 = 0 then (J147_238 f x1 x2 x3 x4 x5 x6 m) else (J147_238 f x1 x2 x3 x4 x5 x6 (yup (yup m 405 x7.toNat (m 376 45)) 376 46 1))))) else (J147_238 f x1 x2 x3 x4 x5 x6 m))) else (J147_238 f x1 x2 x3 x4 x5 x6 m))
set_option maxRecDepth 100000 in
theorem tJ147_155 {L : Nat} {xs : Nat → Int32} {Q : xO → yM → Nat → Prop} {k d n : Nat} {c : yS3} {f : Nat} {x1 : Int} {x2 : Int} {x3 : Int} {x4 : Int} {x5 : Int} {x6 : Int} {x7 : Int} {m : yM} (hk : k ≤ f) (gx1 : rg x1) (gx2 : rg x2) (gx3 : rg x3) (gx4 : rg x4) (gx5 : rg x5) (gx6 : rg x6) (gx7 : rg x7) (hR : RM c m) (Hn : ∀ (y0 : Int) (z0 : Option Value) (m' : yM) (n' : Nat), J147_155 f x1 x2 x3 x4 x5 x6 x7 m = some (.inl (y0, m')) → rg y0 → RM c m' → ∀ k', k' < k → PW (gZ L xs) k' 147 d 94 [some (.ref 376), some (yI x1), some (yI x2), some (yI x3), some (yI x4), some (yI x5), some (yI y0), z0] [] m' n' Q) (He : ∀ (y0 : Int) (z0 : Option Value) (m' : yM) (n' : Nat), J147_155 f x1 x2 x3 x4 x5 x6 x7 m = some (.inr (.inl (y0, m'))) → rg y0 → RM c m' → ∀ k', k' ≤ k → PW (gZ L xs) k' 147 d 244 [some (.ref 376), some (yI x1), some (yI x2), some (yI x3), some (yI x4), some (yI x5), some (yI y0), z0] [] m' n' Q) (Hr : ∀ m', J147_155 f x1 x2 x3 x4 x5 x6 x7 m = some (.inr (.inr ((), m'))) → RM c m' → ∀ n', Q (.inl none) m' n') : PW (gZ L xs) k 147 d 155 [some (.ref 376), some (yI x1), some (yI x2), some (yI x3), some (yI x4), some (yI x5), some (yI x6), some (yI x7)] [] m n Q := by
  have hX : J147_155 f x1 x2 x3 x4 x5 x6 x7 m = J147_155 f x1 x2 x3 x4 x5 x6 x7 m := rfl
  refine p_iload 156 c147_155 rfl rfl ?_
  refine p_if 238 159 c147_156 rfl rfl (yz_ne gx2) (fun hb5304 k5305 hk5305 => ?_) (fun hb5304 k5306 hk5306 => ?_)
  · have hX5307 := hX.trans (if_neg hb5304)
    exact tJ147_238 (f := f) (by omega) gx1 gx2 gx3 gx4 gx5 gx6 hR (fun y0 y1 m' n' e' h0 hR' k' hk' => Hn y0 y1 m' n' (hX5307.trans e') h0 hR' k' (by omega)) (fun y0 y1 m' n' e' h0 hR' k' hk' => He y0 y1 m' n' (hX5307.trans e') h0 hR' k' (by omega)) (fun m' e' => Hr m' (hX5307.trans e'))
  · have hX5309 := hX.trans (if_pos (Classical.not_not.mp hb5304))
    refine p_aload 160 c147_159 rfl rfl ?_
    refine p_aload 161 c147_160 rfl rfl ?_
    refine p_getR 164 c147_161 rfl kf376_41 ?_
    refine p_iconst 166 c147_164 rfl ?_
    refine p_aload 167 c147_166 rfl rfl ?_
    refine p_getR 170 c147_167 rfl kf376_40 ?_
    refine p_iload 171 c147_170 rfl rfl ?_
    refine p_iconst 172 c147_171 rfl ?_
    refine p_iadd 173 c147_172 rfl ?_
    refine p_iaX 174 (m 403 (wr (x1 + 3)).toNat) c147_173 rfl ka403 (rg_wr _) rfl (fun hx5310 => ?_)
    refine p_imul 175 c147_174 rfl ?_
    refine p_iload 177 c147_175 rfl rfl ?_
    refine p_iadd 178 c147_177 rfl ?_
    refine p_iaX 179 (m 404 (wr ((wr (12 * (m 403 (wr (x1 + 3)).toNat))) + x6)).toNat) c147_178 rfl ka404 (rg_wr _) rfl (fun hx5311 => ?_)
    refine p_cX 182 [.ref 376, yI (m 404 (wr ((wr (12 * (m 403 (wr (x1 + 3)).toNat))) + x6)).toNat)] [] c147_179 rfl rfl rfl (fun k' hk' d' => d144 (hR.rg _ _) hR) (fun hg5314 n5313 k5312 hk5312 => ?_)
    refine p_if 238 185 c147_182 rfl rfl (yz_eq hg5314) (fun hb5315 k5316 hk5316 => ?_) (fun hb5315 k5317 hk5317 => ?_)
    · have hX5318 := hX5309.trans (if_pos hb5315)
      exact tJ147_238 (f := f) (by omega) gx1 gx2 gx3 gx4 gx5 gx6 hR (fun y0 y1 m' n' e' h0 hR' k' hk' => Hn y0 y1 m' n' (hX5318.trans e') h0 hR' k' (by omega)) (fun y0 y1 m' n' e' h0 hR' k' hk' => He y0 y1 m' n' (hX5318.trans e') h0 hR' k' (by omega)) (fun m' e' => Hr m' (hX5318.trans e'))
    · have hX5319 := hX5309.trans (if_neg hb5315)
      refine p_aload 186 c147_185 rfl rfl ?_
      refine p_getR 189 c147_186 rfl kf376_42 ?_
      refine p_iload 191 c147_189 rfl rfl ?_
      refine p_iaX 192 (m 405 x7.toNat) c147_191 rfl ka405 gx7 rfl (fun hx5320 => ?_)
      refine p_if 238 195 c147_192 rfl rfl ((yz_ge (hR.rg _ _)).trans Int.not_lt.symm) (fun hb5321 k5322 hk5322 => ?_) (fun hb5321 k5323 hk5323 => ?_)
      · have hX5324 := hX5319.trans (if_neg hb5321)
        exact tJ147_238 (f := f) (by omega) gx1 gx2 gx3 gx4 gx5 gx6 hR (fun y0 y1 m' n' e' h0 hR' k' hk' => Hn y0 y1 m' n' (hX5324.trans e') h0 hR' k' (by omega)) (fun y0 y1 m' n' e' h0 hR' k' hk' => He y0 y1 m' n' (hX5324.trans e') h0 hR' k' (by omega)) (fun m' e' => Hr m' (hX5324.trans e'))
      · have hX5325 := hX5319.trans (if_pos (Classical.not_not.mp hb5321))
        refine p_aload 196 c147_195 rfl rfl ?_
        refine p_aload 197 c147_196 rfl rfl ?_
        refine p_getX 200 (m 376 18) c147_197 rfl kf376_18 rfl ?_
        refine p_aload 201 c147_200 rfl rfl ?_
        refine p_getR 204 c147_201 rfl kf376_37 ?_
        refine p_iconst 206 c147_204 rfl ?_
        refine p_aload 207 c147_206 rfl rfl ?_
        refine p_getX 210 (m 376 18) c147_207 rfl kf376_18 rfl ?_
        refine p_imul 211 c147_210 rfl ?_
        refine p_iload 213 c147_211 rfl rfl ?_
        refine p_iadd 214 c147_213 rfl ?_
        refine p_iaX 215 (m 400 (wr ((wr (12 * (m 376 18))) + x5)).toNat) c147_214 rfl ka400 (rg_wr _) rfl (fun hx5326 => ?_)
        refine p_iload 216 c147_215 rfl rfl ?_
        refine p_cO 219 [.ref 376, yI (m 376 18), yI (m 400 (wr ((wr (12 * (m 376 18))) + x5)).toNat), yI x3] [] c147_216 rfl rfl rfl (fun k' hk' d' => d121 (f := f) (by omega) (hR.rg _ _) (hR.rg _ _) gx3 hR) (fun r5331 hF5329 hg5330 n5328 k5327 hk5327 => ?_)
        have hX5332 := hX5325.trans (bP_s hF5329)
        refine p_if 238 222 c147_219 rfl rfl (yz_eq hg5330) (fun hb5333 k5334 hk5334 => ?_) (fun hb5333 k5335 hk5335 => ?_)
        · have hX5336 := hX5332.trans (if_pos hb5333)
          exact tJ147_238 (f := f) (by omega) gx1 gx2 gx3 gx4 gx5 gx6 hR (fun y0 y1 m' n' e' h0 hR' k' hk' => Hn y0 y1 m' n' (hX5336.trans e') h0 hR' k' (by omega)) (fun y0 y1 m' n' e' h0 hR' k' hk' => He y0 y1 m' n' (hX5336.trans e') h0 hR' k' (by omega)) (fun m' e' => Hr m' (hX5336.trans e'))
        · have hX5337 := hX5332.trans (if_neg hb5333)
          refine p_aload 223 c147_222 rfl rfl ?_
          refine p_getR 226 c147_223 rfl kf376_42 ?_
          refine p_iload 228 c147_226 rfl rfl ?_
          refine p_aload 229 c147_228 rfl rfl ?_
          refine p_getX 232 (m 376 45) c147_229 rfl kf376_45 rfl ?_
          refine p_iaS 233 c147_232 rfl ka405 gx7 (m 376 45) (nar0 (hR.rg _ _)) (fun hx5338 => ?_)
          have hR5339 := hR.up 405 x7.toNat (v := m 376 45) (nselA (by decide)) (hR.rg _ _)
          refine p_aload 234 c147_233 rfl rfl ?_
          refine p_iconst 235 c147_234 rfl ?_
          refine p_putI 238 c147_235 rfl kf376_46 ?_
          have hR5340 := hR5339.up 376 46 (v := 1) (nselD rfl) (rgD rfl)
          exact tJ147_238 (f := f) (by omega) gx1 gx2 gx3 gx4 gx5 gx6 hR5340 (fun y0 y1 m' n' e' h0 hR' k' hk' => Hn y0 y1 m' n' (hX5337.trans e') h0 hR' k' (by omega)) (fun y0 y1 m' n' e' h0 hR' k' hk' => He y0 y1 m' n' (hX5337.trans e') h0 hR' k' (by omega)) (fun m' e' => Hr m' (hX5337.trans e'))
def B147_94 (f : Nat) (x1 : Int) (x2 : Int) (x3 : Int) (x4 : Int) (x5 : Int) (x6 : Int) (m : yM) : Option ((Int × yM) ⊕ ((Int × yM) ⊕ (Unit × yM))) := (if x6 < m 388 (m 376 18).toNat then (if x2 = 0 then (J147_155 f x1 x2 x3 x4 x5 x6 (wr ((wr ((wr (96 * x5)) + (wr (12 * x3)))) + x6)) m) else (if F144 (m 405 (wr ((wr ((wr (96 * x5)) + (wr (12 * x3)))) + x6)).toNat) m = 0 then (J147_155 f x1 x2 x3 x4 x5 x6 (wr ((wr ((wr (96 * x5)) + (wr (12 * x3)))) + x6)) m) else (bU (F145 f (m 403 (wr (x1 + 2)).toNat) x6 m) (fun m5367 => (J147_155 f x1 x2 x3 x4 x5 x6 (wr ((wr ((wr (96 * x5)) + (wr (12 * x3)))) + x6)) m5367))))) else (some (.inr (.inl (x6, m)))))
set_option maxRecDepth 100000 in
theorem tB147_94 {L : Nat} {xs : Nat → Int32} {Q : xO → yM → Nat → Prop} {k d n : Nat} {c : yS3} {f : Nat} {x1 : Int} {x2 : Int} {x3 : Int} {x4 : Int} {x5 : Int} {x6 : Int} {m : yM} {j7 : Option Value} (hk : k ≤ f) (gx1 : rg x1) (gx2 : rg x2) (gx3 : rg x3) (gx4 : rg x4) (gx5 : rg x5) (gx6 : rg x6) (hR : RM c m) (Hn : ∀ (y0 : Int) (z0 : Option Value) (m' : yM) (n' : Nat), B147_94 f x1 x2 x3 x4 x5 x6 m = some (.inl (y0, m')) → rg y0 → RM c m' → ∀ k', k' < k → PW (gZ L xs) k' 147 d 94 [some (.ref 376), some (yI x1), some (yI x2), some (yI x3), some (yI x4), some (yI x5), some (yI y0), z0] [] m' n' Q) (He : ∀ (y0 : Int) (z0 : Option Value) (m' : yM) (n' : Nat), B147_94 f x1 x2 x3 x4 x5 x6 m = some (.inr (.inl (y0, m'))) → rg y0 → RM c m' → ∀ k', k' ≤ k → PW (gZ L xs) k' 147 d 244 [some (.ref 376), some (yI x1), some (yI x2), some (yI x3), some (yI x4), some (yI x5), some (yI y0), z0] [] m' n' Q) (Hr : ∀ m', B147_94 f x1 x2 x3 x4 x5 x6 m = some (.inr (.inr ((), m'))) → RM c m' → ∀ n', Q (.inl none) m' n') : PW (gZ L xs) k 147 d 94 [some (.ref 376), some (yI x1), some (yI x2), some (yI x3), some (yI x4), some (yI x5), some (yI x6), j7] [] m n Q := by
  have hX : B147_94 f x1 x2 x3 x4 x5 x6 m = B147_94 f x1 x2 x3 x4 x5 x6 m := rfl
  refine p_iload 96 c147_94 rfl rfl ?_
  refine p_aload 97 c147_96 rfl rfl ?_
  refine p_getR 100 c147_97 rfl kf376_25 ?_
  refine p_aload 101 c147_100 rfl rfl ?_
  refine p_getX 104 (m 376 18) c147_101 rfl kf376_18 rfl ?_
  refine p_iaX 105 (m 388 (m 376 18).toNat) c147_104 rfl ka388 (hR.rg _ _) rfl (fun hx5294 => ?_)
  refine p_icmp 244 108 c147_105 rfl rfl ((yc_ge gx6 (hR.rg _ _)).trans Int.not_lt.symm) (fun hb5295 k5296 hk5296 => ?_) (fun hb5295 k5297 hk5297 => ?_)
  · have hX5298 := hX.trans (if_neg hb5295)
    exact He _ _ _ _ hX5298 gx6 hR _ (by omega)
  · have hX5299 := hX.trans (if_pos (Classical.not_not.mp hb5295))
    refine p_iconst 110 c147_108 rfl ?_
    refine p_iload 112 c147_110 rfl rfl ?_
    refine p_imul 113 c147_112 rfl ?_
    refine p_iconst 115 c147_113 rfl ?_
    refine p_iload 116 c147_115 rfl rfl ?_
    refine p_imul 117 c147_116 rfl ?_
    refine p_iadd 118 c147_117 rfl ?_
    refine p_iload 120 c147_118 rfl rfl ?_
    refine p_iadd 121 c147_120 rfl ?_
    refine p_istore 123 c147_121 rfl rfl ?_
    refine p_iload 124 c147_123 rfl rfl ?_
    refine p_if 155 127 c147_124 rfl rfl (yz_eq gx2) (fun hb5300 k5301 hk5301 => ?_) (fun hb5300 k5302 hk5302 => ?_)
    · have hX5303 := hX5299.trans (if_pos hb5300)
      exact tJ147_155 (f := f) (by omega) gx1 gx2 gx3 gx4 gx5 gx6 (rg_wr _) hR (fun y0 y1 m' n' e' h0 hR' k' hk' => Hn y0 y1 m' n' (hX5303.trans e') h0 hR' k' (by omega)) (fun y0 y1 m' n' e' h0 hR' k' hk' => He y0 y1 m' n' (hX5303.trans e') h0 hR' k' (by omega)) (fun m' e' => Hr m' (hX5303.trans e'))
    · have hX5341 := hX5299.trans (if_neg hb5300)
      refine p_aload 128 c147_127 rfl rfl ?_
      refine p_aload 129 c147_128 rfl rfl ?_
      refine p_getR 132 c147_129 rfl kf376_42 ?_
      refine p_iload 134 c147_132 rfl rfl ?_
      refine p_iaX 135 (m 405 (wr ((wr ((wr (96 * x5)) + (wr (12 * x3)))) + x6)).toNat) c147_134 rfl ka405 (rg_wr _) rfl (fun hx5342 => ?_)
      refine p_cX 138 [.ref 376, yI (m 405 (wr ((wr ((wr (96 * x5)) + (wr (12 * x3)))) + x6)).toNat)] [] c147_135 rfl rfl rfl (fun k' hk' d' => d144 (hR.rg _ _) hR) (fun hg5345 n5344 k5343 hk5343 => ?_)
      refine p_if 155 141 c147_138 rfl rfl (yz_eq hg5345) (fun hb5346 k5347 hk5347 => ?_) (fun hb5346 k5348 hk5348 => ?_)
      · have hX5349 := hX5341.trans (if_pos hb5346)
        exact tJ147_155 (f := f) (by omega) gx1 gx2 gx3 gx4 gx5 gx6 (rg_wr _) hR (fun y0 y1 m' n' e' h0 hR' k' hk' => Hn y0 y1 m' n' (hX5349.trans e') h0 hR' k' (by omega)) (fun y0 y1 m' n' e' h0 hR' k' hk' => He y0 y1 m' n' (hX5349.trans e') h0 hR' k' (by omega)) (fun m' e' => Hr m' (hX5349.trans e'))
      · have hX5350 := hX5341.trans (if_neg hb5346)
        refine p_aload 142 c147_141 rfl rfl ?_
        refine p_aload 143 c147_142 rfl rfl ?_
        refine p_getR 146 c147_143 rfl kf376_40 ?_
        refine p_iload 147 c147_146 rfl rfl ?_
        refine p_iconst 148 c147_147 rfl ?_
        refine p_iadd 149 c147_148 rfl ?_
        refine p_iaX 150 (m 403 (wr (x1 + 2)).toNat) c147_149 rfl ka403 (rg_wr _) rfl (fun hx5351 => ?_)
        refine p_iload 152 c147_150 rfl rfl ?_
        refine p_cV 155 [.ref 376, yI (m 403 (wr (x1 + 2)).toNat), yI x6] [] c147_152 rfl rfl rfl (fun k' hk' d' => d145 (f := f) (by omega) (hR.rg _ _) gx6 hR) (fun m5367 hF5363 hR5368 n5353 k5352 hk5352 => ?_)
        have hX5366 := hX5350.trans (bU_s hF5363)
        exact tJ147_155 (f := f) (by omega) gx1 gx2 gx3 gx4 gx5 gx6 (rg_wr _) hR5368 (fun y0 y1 m' n' e' h0 hR' k' hk' => Hn y0 y1 m' n' (hX5366.trans e') h0 hR' k' (by omega)) (fun y0 y1 m' n' e' h0 hR' k' hk' => He y0 y1 m' n' (hX5366.trans e') h0 hR' k' (by omega)) (fun m' e' => Hr m' (hX5366.trans e'))
def B147_53 (f : Nat) (x1 : Int) (x2 : Int) (x3 : Int) (x4 : Int) (x5 : Int) (m : yM) : Option ((Int × yM) ⊕ ((Int × yM) ⊕ (Unit × yM))) := (if x5 < m 388 (m 376 18).toNat then (if x3 < 0 then (some (.inr (.inl (x5, m)))) else (if F144 (m 404 (wr ((wr (12 * x4)) + x5)).toNat) m = 0 then (J147_244 f x1 x2 x3 x4 x5 m) else (bL (yloop (fun (l : Int) ml => B147_94 f x1 x2 x3 x4 x5 l ml) f 0 m) (fun l5369 m5375 => (J147_244 f x1 x2 x3 x4 x5 m5375)) (fun _ mr => some (.inr (.inr ((), mr))))))) else (some (.inr (.inl (x5, m)))))
set_option maxRecDepth 100000 in
theorem tB147_53 {L : Nat} {xs : Nat → Int32} {Q : xO → yM → Nat → Prop} {k d n : Nat} {c : yS3} {f : Nat} {x1 : Int} {x2 : Int} {x3 : Int} {x4 : Int} {x5 : Int} {m : yM} {j6 j7 : Option Value} (hk : k ≤ f) (gx1 : rg x1) (gx2 : rg x2) (gx3 : rg x3) (gx4 : rg x4) (gx5 : rg x5) (hR : RM c m) (Hn : ∀ (y0 : Int) (z0 z1 : Option Value) (m' : yM) (n' : Nat), B147_53 f x1 x2 x3 x4 x5 m = some (.inl (y0, m')) → rg y0 → RM c m' → ∀ k', k' < k → PW (gZ L xs) k' 147 d 53 [some (.ref 376), some (yI x1), some (yI x2), some (yI x3), some (yI x4), some (yI y0), z0, z1] [] m' n' Q) (He : ∀ (y0 : Int) (z0 z1 : Option Value) (m' : yM) (n' : Nat), B147_53 f x1 x2 x3 x4 x5 m = some (.inr (.inl (y0, m'))) → rg y0 → RM c m' → ∀ k', k' ≤ k → PW (gZ L xs) k' 147 d 250 [some (.ref 376), some (yI x1), some (yI x2), some (yI x3), some (yI x4), some (yI y0), z0, z1] [] m' n' Q) (Hr : ∀ m', B147_53 f x1 x2 x3 x4 x5 m = some (.inr (.inr ((), m'))) → RM c m' → ∀ n', Q (.inl none) m' n') : PW (gZ L xs) k 147 d 53 [some (.ref 376), some (yI x1), some (yI x2), some (yI x3), some (yI x4), some (yI x5), j6, j7] [] m n Q := by
  have hX : B147_53 f x1 x2 x3 x4 x5 m = B147_53 f x1 x2 x3 x4 x5 m := rfl
  refine p_iload 55 c147_53 rfl rfl ?_
  refine p_aload 56 c147_55 rfl rfl ?_
  refine p_getR 59 c147_56 rfl kf376_25 ?_
  refine p_aload 60 c147_59 rfl rfl ?_
  refine p_getX 63 (m 376 18) c147_60 rfl kf376_18 rfl ?_
  refine p_iaX 64 (m 388 (m 376 18).toNat) c147_63 rfl ka388 (hR.rg _ _) rfl (fun hx5273 => ?_)
  refine p_icmp 250 67 c147_64 rfl rfl ((yc_ge gx5 (hR.rg _ _)).trans Int.not_lt.symm) (fun hb5274 k5275 hk5275 => ?_) (fun hb5274 k5276 hk5276 => ?_)
  · have hX5277 := hX.trans (if_neg hb5274)
    exact He _ _ _ _ _ hX5277 gx5 hR _ (by omega)
  · have hX5278 := hX.trans (if_pos (Classical.not_not.mp hb5274))
    refine p_iload 68 c147_67 rfl rfl ?_
    refine p_if 250 71 c147_68 rfl rfl (yz_lt gx3) (fun hb5279 k5280 hk5280 => ?_) (fun hb5279 k5281 hk5281 => ?_)
    · have hX5282 := hX5278.trans (if_pos hb5279)
      exact He _ _ _ _ _ hX5282 gx5 hR _ (by omega)
    · have hX5283 := hX5278.trans (if_neg hb5279)
      refine p_aload 72 c147_71 rfl rfl ?_
      refine p_aload 73 c147_72 rfl rfl ?_
      refine p_getR 76 c147_73 rfl kf376_41 ?_
      refine p_iconst 78 c147_76 rfl ?_
      refine p_iload 80 c147_78 rfl rfl ?_
      refine p_imul 81 c147_80 rfl ?_
      refine p_iload 83 c147_81 rfl rfl ?_
      refine p_iadd 84 c147_83 rfl ?_
      refine p_iaX 85 (m 404 (wr ((wr (12 * x4)) + x5)).toNat) c147_84 rfl ka404 (rg_wr _) rfl (fun hx5284 => ?_)
      refine p_cX 88 [.ref 376, yI (m 404 (wr ((wr (12 * x4)) + x5)).toNat)] [] c147_85 rfl rfl rfl (fun k' hk' d' => d144 (hR.rg _ _) hR) (fun hg5287 n5286 k5285 hk5285 => ?_)
      refine p_if 244 91 c147_88 rfl rfl (yz_eq hg5287) (fun hb5288 k5289 hk5289 => ?_) (fun hb5288 k5290 hk5290 => ?_)
      · have hX5291 := hX5283.trans (if_pos hb5288)
        exact tJ147_244 (f := f) (by omega) gx1 gx2 gx3 gx4 gx5 hR (fun y0 y1 y2 m' n' e' h0 hR' k' hk' => Hn y0 y1 y2 m' n' (hX5291.trans e') h0 hR' k' (by omega)) (fun y0 y1 y2 m' n' e' h0 hR' k' hk' => He y0 y1 y2 m' n' (hX5291.trans e') h0 hR' k' (by omega)) (fun m' e' => Hr m' (hX5291.trans e'))
      · have hX5293 := hX5283.trans (if_neg hb5288)
        refine p_iconst 92 c147_91 rfl ?_
        refine p_istore 94 c147_92 rfl rfl ?_
        refine PW.loop (K := k5290) (pce := 244) (fun (l : Int) ml => B147_94 f x1 x2 x3 x4 x5 l ml) (fun (l : Int) j => [some (.ref 376), some (yI x1), some (yI x2), some (yI x3), some (yI x4), some (yI x5), some (yI l), j 7]) (fun (l : Int) => rg l) (RM c) (fun (r' : Unit) m' => RM c m' → ∀ n' : Nat, Q (.inl none) m' n') (fun k' hk' l j m' n' hl hI Hn' He' Hr' => tB147_94 (f := f) (by omega) gx1 gx2 gx3 gx4 gx5 hl hI (fun y0 y1 m2 n2 e h0 hR2 => Hn' y0 (fun q => ([none, none, none, none, none, none, none, y1] : List (Option Value)).getD q none) m2 n2 e h0 hR2) (fun y0 y1 m2 n2 e h0 hR2 => He' y0 (fun q => ([none, none, none, none, none, none, none, y1] : List (Option Value)).getD q none) m2 n2 e h0 hR2) (fun m2 e => Hr' () m2 e)) f k5290 (by omega) (Nat.le_refl _) 0 (fun q => ([some (.ref 376), some (yI x1), some (yI x2), some (yI x3), some (yI x4), some (yI x5), some (yI 0), j7] : xL).getD q none) _ _ (rgD rfl) hR (fun l5369 j5372 m5375 n5374 e5371 hl5370 hR5376 k5373 hk5373 => ?_) (fun r' m' e' => ?_)
        · have hX5377 := hX5293.trans (bL_l e5371)
          exact tJ147_244 (f := f) (by omega) gx1 gx2 gx3 gx4 gx5 hR5376 (fun y0 y1 y2 m' n' e' h0 hR' k' hk' => Hn y0 y1 y2 m' n' (hX5377.trans e') h0 hR' k' (by omega)) (fun y0 y1 y2 m' n' e' h0 hR' k' hk' => He y0 y1 y2 m' n' (hX5377.trans e') h0 hR' k' (by omega)) (fun m' e' => Hr m' (hX5377.trans e'))
        · exact Hr m' (hX5293.trans (bL_r e'))
def J147_48 (f : Nat) (x1 : Int) (x2 : Int) (x3 : Int) (xs0 : Int) (m : yM) : Option yM := (bL (yloop (fun (l : Int) ml => B147_53 f x1 x2 x3 xs0 l ml) f 0 m) (fun l5378 m5384 => (some m5384)) (fun _ mr => some mr))
set_option maxRecDepth 100000 in
theorem tJ147_48 {L : Nat} {xs : Nat → Int32} {Q : xO → yM → Nat → Prop} {k d n : Nat} {c : yS3} {f : Nat} {x1 : Int} {x2 : Int} {x3 : Int} {xs0 : Int} {m : yM} {j4 j5 j6 j7 : Option Value} (hk : k ≤ f) (gx1 : rg x1) (gx2 : rg x2) (gx3 : rg x3) (gxs0 : rg xs0) (hR : RM c m) (Hr : ∀ m', J147_48 f x1 x2 x3 xs0 m = some m' → RM c m' → ∀ n', Q (.inl none) m' n') : PW (gZ L xs) k 147 d 48 [some (.ref 376), some (yI x1), some (yI x2), some (yI x3), j4, j5, j6, j7] [yI xs0] m n Q := by
  have hX : J147_48 f x1 x2 x3 xs0 m = J147_48 f x1 x2 x3 xs0 m := rfl
  refine p_istore 50 c147_48 rfl rfl ?_
  refine p_iconst 51 c147_50 rfl ?_
  refine p_istore 53 c147_51 rfl rfl ?_
  refine PW.loop (K := k) (pce := 250) (fun (l : Int) ml => B147_53 f x1 x2 x3 xs0 l ml) (fun (l : Int) j => [some (.ref 376), some (yI x1), some (yI x2), some (yI x3), some (yI xs0), some (yI l), j 6, j 7]) (fun (l : Int) => rg l) (RM c) (fun (r' : Unit) m' => RM c m' → ∀ n' : Nat, Q (.inl none) m' n') (fun k' hk' l j m' n' hl hI Hn' He' Hr' => tB147_53 (f := f) (by omega) gx1 gx2 gx3 gxs0 hl hI (fun y0 y1 y2 m2 n2 e h0 hR2 => Hn' y0 (fun q => ([none, none, none, none, none, none, y1, y2] : List (Option Value)).getD q none) m2 n2 e h0 hR2) (fun y0 y1 y2 m2 n2 e h0 hR2 => He' y0 (fun q => ([none, none, none, none, none, none, y1, y2] : List (Option Value)).getD q none) m2 n2 e h0 hR2) (fun m2 e => Hr' () m2 e)) f k (by omega) (Nat.le_refl _) 0 (fun q => ([some (.ref 376), some (yI x1), some (yI x2), some (yI x3), some (yI xs0), some (yI 0), j6, j7] : xL).getD q none) _ _ (rgD rfl) hR (fun l5378 j5381 m5384 n5383 e5380 hl5379 hR5385 k5382 hk5382 => ?_) (fun r' m' e' => ?_)
  · have hX5386 := hX.trans (bL_l e5380)
    exact p_return c147_250 (Hr _ hX5386 hR5385 _)
  · exact Hr m' (hX.trans (bL_r e'))
def J147_15 (f : Nat) (x1 : Int) (xs0 : Int) (m : yM) : Option yM := (if xs0 = 0 then (J147_48 f x1 xs0 (m 403 (wr (x1 + 4)).toNat) (m 403 (wr (x1 + 2)).toNat) m) else (J147_48 f x1 xs0 (m 403 (wr (x1 + 4)).toNat) (m 403 (wr (x1 + 3)).toNat) m))
set_option maxRecDepth 100000 in
theorem tJ147_15 {L : Nat} {xs : Nat → Int32} {Q : xO → yM → Nat → Prop} {k d n : Nat} {c : yS3} {f : Nat} {x1 : Int} {xs0 : Int} {m : yM} {j2 j3 j4 j5 j6 j7 : Option Value} (hk : k ≤ f) (gx1 : rg x1) (gxs0 : rg xs0) (hR : RM c m) (Hr : ∀ m', J147_15 f x1 xs0 m = some m' → RM c m' → ∀ n', Q (.inl none) m' n') : PW (gZ L xs) k 147 d 15 [some (.ref 376), some (yI x1), j2, j3, j4, j5, j6, j7] [yI xs0] m n Q := by
  have hX : J147_15 f x1 xs0 m = J147_15 f x1 xs0 m := rfl
  refine p_istore 16 c147_15 rfl rfl ?_
  refine p_aload 17 c147_16 rfl rfl ?_
  refine p_getR 20 c147_17 rfl kf376_40 ?_
  refine p_iload 21 c147_20 rfl rfl ?_
  refine p_iconst 22 c147_21 rfl ?_
  refine p_iadd 23 c147_22 rfl ?_
  refine p_iaX 24 (m 403 (wr (x1 + 4)).toNat) c147_23 rfl ka403 (rg_wr _) rfl (fun hx5267 => ?_)
  refine p_istore 25 c147_24 rfl rfl ?_
  refine p_iload 26 c147_25 rfl rfl ?_
  refine p_if 40 29 c147_26 rfl rfl (yz_eq gxs0) (fun hb5268 k5269 hk5269 => ?_) (fun hb5268 k5270 hk5270 => ?_)
  · have hX5271 := hX.trans (if_pos hb5268)
    refine p_aload 41 c147_40 rfl rfl ?_
    refine p_getR 44 c147_41 rfl kf376_40 ?_
    refine p_iload 45 c147_44 rfl rfl ?_
    refine p_iconst 46 c147_45 rfl ?_
    refine p_iadd 47 c147_46 rfl ?_
    refine p_iaX 48 (m 403 (wr (x1 + 2)).toNat) c147_47 rfl ka403 (rg_wr _) rfl (fun hx5272 => ?_)
    exact tJ147_48 (f := f) (by omega) gx1 gxs0 (hR.rg _ _) (hR.rg _ _) hR (fun m' e' => Hr m' (hX5271.trans e'))
  · have hX5387 := hX.trans (if_neg hb5268)
    refine p_aload 30 c147_29 rfl rfl ?_
    refine p_getR 33 c147_30 rfl kf376_40 ?_
    refine p_iload 34 c147_33 rfl rfl ?_
    refine p_iconst 35 c147_34 rfl ?_
    refine p_iadd 36 c147_35 rfl ?_
    refine p_iaX 37 (m 403 (wr (x1 + 3)).toNat) c147_36 rfl ka403 (rg_wr _) rfl (fun hx5388 => ?_)
    refine p_goto 48 c147_37 rfl ?_
    exact tJ147_48 (f := f) (by omega) gx1 gxs0 (hR.rg _ _) (hR.rg _ _) hR (fun m' e' => Hr m' (hX5387.trans e'))
def F147 (f : Nat) (x1 : Int) (m : yM) : Option yM := (if m 403 x1.toNat = 4 then (J147_15 f x1 1 m) else (J147_15 f x1 0 m))
set_option maxRecDepth 100000 in
theorem d147 {L : Nat} {xs : Nat → Int32} {k d n : Nat} {c : yS3} {f : Nat} {x1 : Int} {m : yM} (hk : k ≤ f) (gx1 : rg x1) (hR : RM c m) : PC (gZ L xs) k d 147 [.ref 376, yI x1] m n (qV c (F147 f x1 m)) := by
  have hX : F147 f x1 m = F147 f x1 m := rfl
  have Hr : ∀ m', F147 f x1 m = some m' → RM c m' → ∀ n' : Nat, (qV c (F147 f x1 m)) (.inl none) m' n' := fun m' e h n' => ⟨rfl, h, e⟩
  refine PC.mk [some (.ref 376), some (yI x1), none, none, none, none, none, none] kn147 rfl ?_
  refine p_aload 1 c147_0 rfl rfl ?_
  refine p_getR 4 c147_1 rfl kf376_40 ?_
  refine p_iload 5 c147_4 rfl rfl ?_
  refine p_iaX 6 (m 403 x1.toNat) c147_5 rfl ka403 gx1 rfl (fun hx5262 => ?_)
  refine p_iconst 7 c147_6 rfl ?_
  refine p_icmp 14 10 c147_7 rfl rfl (yc_ne (hR.rg _ _) (rgD rfl)) (fun hb5263 k5264 hk5264 => ?_) (fun hb5263 k5265 hk5265 => ?_)
  · have hX5266 := hX.trans (if_neg hb5263)
    refine p_iconst 15 c147_14 rfl ?_
    exact tJ147_15 (f := f) (by omega) gx1 (rgD rfl) hR (fun m' e' => Hr m' (hX5266.trans e'))
  · have hX5389 := hX.trans (if_pos (Classical.not_not.mp hb5263))
    refine p_iconst 11 c147_10 rfl ?_
    refine p_goto 15 c147_11 rfl ?_
    exact tJ147_15 (f := f) (by omega) gx1 (rgD rfl) hR (fun m' e' => Hr m' (hX5389.trans e'))
def B149_3 (f : Nat) (x1 : Int) (x3 : Int) (x4 : Int) (m : yM) : Option (Int ⊕ (Int ⊕ Int)) := (if x4 < 0 then (some (.inr (.inl x4))) else (if x4 = x3 then (some (.inr (.inl x4))) else (some (.inl (m 392 (wr ((wr (6 * x1)) + x4)).toNat)))))
set_option maxRecDepth 100000 in
theorem tB149_3 {L : Nat} {xs : Nat → Int32} {Q : xO → yM → Nat → Prop} {k d n : Nat} {c : yS3} {f : Nat} {x1 : Int} {x3 : Int} {x4 : Int} {m : yM} {j2 : Option Value} (hk : k ≤ f) (gx1 : rg x1) (gx3 : rg x3) (gx4 : rg x4) (hR : RM c m) (Hn : ∀ (y0 : Int) (z0 : Option Value) (n' : Nat), B149_3 f x1 x3 x4 m = some (.inl y0) → rg y0 → ∀ k', k' < k → PW (gZ L xs) k' 149 d 3 [some (.ref 376), some (yI x1), z0, some (yI x3), some (yI y0)] [] m n' Q) (He : ∀ (y0 : Int) (z0 : Option Value) (n' : Nat), B149_3 f x1 x3 x4 m = some (.inr (.inl y0)) → rg y0 → ∀ k', k' ≤ k → PW (gZ L xs) k' 149 d 31 [some (.ref 376), some (yI x1), z0, some (yI x3), some (yI y0)] [] m n' Q) (Hr : ∀ r, B149_3 f x1 x3 x4 m = some (.inr (.inr r)) → rg r → ∀ n', Q (.inl (some (yI r))) m n') : PW (gZ L xs) k 149 d 3 [some (.ref 376), some (yI x1), j2, some (yI x3), some (yI x4)] [] m n Q := by
  have hX : B149_3 f x1 x3 x4 m = B149_3 f x1 x3 x4 m := rfl
  refine p_iload 5 c149_3 rfl rfl ?_
  refine p_if 31 8 c149_5 rfl rfl (yz_lt gx4) (fun hb5431 k5432 hk5432 => ?_) (fun hb5431 k5433 hk5433 => ?_)
  · have hX5434 := hX.trans (if_pos hb5431)
    exact He _ _ _ hX5434 gx4 _ (by omega)
  · have hX5435 := hX.trans (if_neg hb5431)
    refine p_iload 10 c149_8 rfl rfl ?_
    refine p_iload 11 c149_10 rfl rfl ?_
    refine p_icmp 31 14 c149_11 rfl rfl (yc_eq gx4 gx3) (fun hb5436 k5437 hk5437 => ?_) (fun hb5436 k5438 hk5438 => ?_)
    · have hX5439 := hX5435.trans (if_pos hb5436)
      exact He _ _ _ hX5439 gx4 _ (by omega)
    · have hX5440 := hX5435.trans (if_neg hb5436)
      refine p_aload 15 c149_14 rfl rfl ?_
      refine p_getR 18 c149_15 rfl kf376_29 ?_
      refine p_iconst 20 c149_18 rfl ?_
      refine p_iload 21 c149_20 rfl rfl ?_
      refine p_imul 22 c149_21 rfl ?_
      refine p_iload 24 c149_22 rfl rfl ?_
      refine p_iadd 25 c149_24 rfl ?_
      refine p_iaX 26 (m 392 (wr ((wr (6 * x1)) + x4)).toNat) c149_25 rfl ka392 (rg_wr _) rfl (fun hx5441 => ?_)
      refine p_istore 28 c149_26 rfl rfl ?_
      refine p_gotoD 3 c149_28 rfl (fun k5442 hk5442 => ?_)
      exact Hn _ _ _ hX5440 (hR.rg _ _) _ (by omega)
def J149_31 (f : Nat) (x3 : Int) (x4 : Int) : Option Int := (if x4 = x3 then (some 1) else (some 0))
set_option maxRecDepth 100000 in
theorem tJ149_31 {L : Nat} {xs : Nat → Int32} {Q : xO → yM → Nat → Prop} {k d n : Nat} {c : yS3} {f : Nat} {x3 : Int} {x4 : Int} {m : yM} {j0 j1 j2 : Option Value} (hk : k ≤ f) (gx3 : rg x3) (gx4 : rg x4) (hR : RM c m) (Hr : ∀ r, J149_31 f x3 x4 = some r → rg r → ∀ n', Q (.inl (some (yI r))) m n') : PW (gZ L xs) k 149 d 31 [j0, j1, j2, some (yI x3), some (yI x4)] [] m n Q := by
  have hX : J149_31 f x3 x4 = J149_31 f x3 x4 := rfl
  refine p_iload 33 c149_31 rfl rfl ?_
  refine p_iload 34 c149_33 rfl rfl ?_
  refine p_icmp 41 37 c149_34 rfl rfl (yc_ne gx4 gx3) (fun hb5450 k5451 hk5451 => ?_) (fun hb5450 k5452 hk5452 => ?_)
  · have hX5453 := hX.trans (if_neg hb5450)
    refine p_iconst 42 c149_41 rfl ?_
    exact p_ireturn c149_42 (Hr _ hX5453 (rgD rfl) _)
  · have hX5454 := hX.trans (if_pos (Classical.not_not.mp hb5450))
    refine p_iconst 38 c149_37 rfl ?_
    refine p_goto 42 c149_38 rfl ?_
    exact p_ireturn c149_42 (Hr _ hX5454 (rgD rfl) _)
def F149 (f : Nat) (x1 : Int) (x2 : Int) (x3 : Int) (m : yM) : Option Int := (bQ (ploop (fun (l : Int) => B149_3 f x1 x3 l m) f x2) (fun l5443 => (J149_31 f x3 l5443)) (fun r => some r))
set_option maxRecDepth 100000 in
theorem d149 {L : Nat} {xs : Nat → Int32} {k d n : Nat} {c : yS3} {f : Nat} {x1 : Int} {x2 : Int} {x3 : Int} {m : yM} (hk : k ≤ f) (gx1 : rg x1) (gx2 : rg x2) (gx3 : rg x3) (hR : RM c m) : PC (gZ L xs) k d 149 [.ref 376, yI x1, yI x2, yI x3] m n (qO m (F149 f x1 x2 x3 m)) := by
  have hX : F149 f x1 x2 x3 m = F149 f x1 x2 x3 m := rfl
  have Hr : ∀ r, F149 f x1 x2 x3 m = some r → rg r → ∀ n' : Nat, (qO m (F149 f x1 x2 x3 m)) (.inl (some (yI r))) m n' := fun r e h n' => ⟨r, rfl, h, rfl, e⟩
  refine PC.mk [some (.ref 376), some (yI x1), some (yI x2), some (yI x3), none] kn149 rfl ?_
  refine p_iload 1 c149_0 rfl rfl ?_
  refine p_istore 3 c149_1 rfl rfl ?_
  refine PW.ploop (K := k) (pce := 31) (fun (l : Int) => B149_3 f x1 x3 l m) (fun (l : Int) j => [some (.ref 376), some (yI x1), j 2, some (yI x3), some (yI l)]) (fun (l : Int) => rg l) (fun r' => rg r' → ∀ n' : Nat, (qO m (F149 f x1 x2 x3 m)) (.inl (some (yI r'))) m n') (fun k' hk' l j n' hl Hn' He' Hr' => tB149_3 (f := f) (by omega) gx1 gx3 hl hR (fun y0 y1 n2 e h0 => Hn' y0 (fun q => ([none, none, y1, none, none] : List (Option Value)).getD q none) n2 e h0) (fun y0 y1 n2 e h0 => He' y0 (fun q => ([none, none, y1, none, none] : List (Option Value)).getD q none) n2 e h0) Hr') f k (by omega) (Nat.le_refl _) x2 (fun q => ([some (.ref 376), some (yI x1), some (yI x2), some (yI x3), some (yI x2)] : xL).getD q none) _ gx2 (fun l5443 j5446 n5448 e5445 hl5444 k5447 hk5447 => ?_) (fun r' e' => ?_)
  · have hX5449 := hX.trans (bQ_l e5445)
    exact tJ149_31 (f := f) (by omega) gx3 hl5444 hR (fun r' e' => Hr r' (hX5449.trans e'))
  · exact Hr r' (hX.trans (bQ_r e'))
def J146_39 (f : Nat) (x1 : Int) (x2 : Int) (x3 : Int) (m : yM) : Option ((Int × yM) ⊕ ((Int × yM) ⊕ (Unit × yM))) := (some (.inl ((wr (x3 + 1)), m)))
set_option maxRecDepth 100000 in
theorem tJ146_39 {L : Nat} {xs : Nat → Int32} {Q : xO → yM → Nat → Prop} {k d n : Nat} {c : yS3} {f : Nat} {x1 : Int} {x2 : Int} {x3 : Int} {m : yM} (hk : k ≤ f) (gx1 : rg x1) (gx2 : rg x2) (gx3 : rg x3) (hR : RM c m) (Hn : ∀ (y0 : Int) (m' : yM) (n' : Nat), J146_39 f x1 x2 x3 m = some (.inl (y0, m')) → rg y0 → RM c m' → ∀ k', k' < k → PW (gZ L xs) k' 146 d 2 [some (.ref 376), some (yI x1), some (yI x2), some (yI y0)] [] m' n' Q) (He : ∀ (y0 : Int) (m' : yM) (n' : Nat), J146_39 f x1 x2 x3 m = some (.inr (.inl (y0, m'))) → rg y0 → RM c m' → ∀ k', k' ≤ k → PW (gZ L xs) k' 146 d 45 [some (.ref 376), some (yI x1), some (yI x2), some (yI y0)] [] m' n' Q) (Hr : ∀ m', J146_39 f x1 x2 x3 m = some (.inr (.inr ((), m'))) → RM c m' → ∀ n', Q (.inl none) m' n') : PW (gZ L xs) k 146 d 39 [some (.ref 376), some (yI x1), some (yI x2), some (yI x3)] [] m n Q := by
  have hX : J146_39 f x1 x2 x3 m = J146_39 f x1 x2 x3 m := rfl
  refine p_iinc 42 c146_39 rfl rfl rfl ?_
  refine p_gotoD 2 c146_42 rfl (fun k5591 hk5591 => ?_)
  exact Hn _ _ _ hX (rg_wr _) hR _ (by omega)
def B146_2 (f : Nat) (x1 : Int) (x2 : Int) (x3 : Int) (m : yM) : Option ((Int × yM) ⊕ ((Int × yM) ⊕ (Unit × yM))) := (if x3 < m 388 (m 376 18).toNat then (if F144 (m 404 (wr ((wr (12 * x2)) + x3)).toNat) m = 0 then (J146_39 f x1 x2 x3 m) else (bU (F145 f x1 x3 m) (fun m5599 => (J146_39 f x1 x2 x3 m5599)))) else (some (.inr (.inl (x3, m)))))
set_option maxRecDepth 100000 in
theorem tB146_2 {L : Nat} {xs : Nat → Int32} {Q : xO → yM → Nat → Prop} {k d n : Nat} {c : yS3} {f : Nat} {x1 : Int} {x2 : Int} {x3 : Int} {m : yM} (hk : k ≤ f) (gx1 : rg x1) (gx2 : rg x2) (gx3 : rg x3) (hR : RM c m) (Hn : ∀ (y0 : Int) (m' : yM) (n' : Nat), B146_2 f x1 x2 x3 m = some (.inl (y0, m')) → rg y0 → RM c m' → ∀ k', k' < k → PW (gZ L xs) k' 146 d 2 [some (.ref 376), some (yI x1), some (yI x2), some (yI y0)] [] m' n' Q) (He : ∀ (y0 : Int) (m' : yM) (n' : Nat), B146_2 f x1 x2 x3 m = some (.inr (.inl (y0, m'))) → rg y0 → RM c m' → ∀ k', k' ≤ k → PW (gZ L xs) k' 146 d 45 [some (.ref 376), some (yI x1), some (yI x2), some (yI y0)] [] m' n' Q) (Hr : ∀ m', B146_2 f x1 x2 x3 m = some (.inr (.inr ((), m'))) → RM c m' → ∀ n', Q (.inl none) m' n') : PW (gZ L xs) k 146 d 2 [some (.ref 376), some (yI x1), some (yI x2), some (yI x3)] [] m n Q := by
  have hX : B146_2 f x1 x2 x3 m = B146_2 f x1 x2 x3 m := rfl
  refine p_iload 3 c146_2 rfl rfl ?_
  refine p_aload 4 c146_3 rfl rfl ?_
  refine p_getR 7 c146_4 rfl kf376_25 ?_
  refine p_aload 8 c146_7 rfl rfl ?_
  refine p_getX 11 (m 376 18) c146_8 rfl kf376_18 rfl ?_
  refine p_iaX 12 (m 388 (m 376 18).toNat) c146_11 rfl ka388 (hR.rg _ _) rfl (fun hx5577 => ?_)
  refine p_icmp 45 15 c146_12 rfl rfl ((yc_ge gx3 (hR.rg _ _)).trans Int.not_lt.symm) (fun hb5578 k5579 hk5579 => ?_) (fun hb5578 k5580 hk5580 => ?_)
  · have hX5581 := hX.trans (if_neg hb5578)
    exact He _ _ _ hX5581 gx3 hR _ (by omega)
  · have hX5582 := hX.trans (if_pos (Classical.not_not.mp hb5578))
    refine p_aload 16 c146_15 rfl rfl ?_
    refine p_aload 17 c146_16 rfl rfl ?_
    refine p_getR 20 c146_17 rfl kf376_41 ?_
    refine p_iconst 22 c146_20 rfl ?_
    refine p_iload 23 c146_22 rfl rfl ?_
    refine p_imul 24 c146_23 rfl ?_
    refine p_iload 25 c146_24 rfl rfl ?_
    refine p_iadd 26 c146_25 rfl ?_
    refine p_iaX 27 (m 404 (wr ((wr (12 * x2)) + x3)).toNat) c146_26 rfl ka404 (rg_wr _) rfl (fun hx5583 => ?_)
    refine p_cX 30 [.ref 376, yI (m 404 (wr ((wr (12 * x2)) + x3)).toNat)] [] c146_27 rfl rfl rfl (fun k' hk' d' => d144 (hR.rg _ _) hR) (fun hg5586 n5585 k5584 hk5584 => ?_)
    refine p_if 39 33 c146_30 rfl rfl (yz_eq hg5586) (fun hb5587 k5588 hk5588 => ?_) (fun hb5587 k5589 hk5589 => ?_)
    · have hX5590 := hX5582.trans (if_pos hb5587)
      exact tJ146_39 (f := f) (by omega) gx1 gx2 gx3 hR (fun y0 m' n' e' h0 hR' k' hk' => Hn y0 m' n' (hX5590.trans e') h0 hR' k' (by omega)) (fun y0 m' n' e' h0 hR' k' hk' => He y0 m' n' (hX5590.trans e') h0 hR' k' (by omega)) (fun m' e' => Hr m' (hX5590.trans e'))
    · have hX5592 := hX5582.trans (if_neg hb5587)
      refine p_aload 34 c146_33 rfl rfl ?_
      refine p_iload 35 c146_34 rfl rfl ?_
      refine p_iload 36 c146_35 rfl rfl ?_
      refine p_cV 39 [.ref 376, yI x1, yI x3] [] c146_36 rfl rfl rfl (fun k' hk' d' => d145 (f := f) (by omega) gx1 gx3 hR) (fun m5599 hF5595 hR5600 n5594 k5593 hk5593 => ?_)
      have hX5598 := hX5592.trans (bU_s hF5595)
      exact tJ146_39 (f := f) (by omega) gx1 gx2 gx3 hR5600 (fun y0 m' n' e' h0 hR' k' hk' => Hn y0 m' n' (hX5598.trans e') h0 hR' k' (by omega)) (fun y0 m' n' e' h0 hR' k' hk' => He y0 m' n' (hX5598.trans e') h0 hR' k' (by omega)) (fun m' e' => Hr m' (hX5598.trans e'))
def F146 (f : Nat) (x1 : Int) (x2 : Int) (m : yM) : Option yM := (bL (yloop (fun (l : Int) ml => B146_2 f x1 x2 l ml) f 0 m) (fun l5601 m5607 => (some m5607)) (fun _ mr => some mr))
set_option maxRecDepth 100000 in
theorem d146 {L : Nat} {xs : Nat → Int32} {k d n : Nat} {c : yS3} {f : Nat} {x1 : Int} {x2 : Int} {m : yM} (hk : k ≤ f) (gx1 : rg x1) (gx2 : rg x2) (hR : RM c m) : PC (gZ L xs) k d 146 [.ref 376, yI x1, yI x2] m n (qV c (F146 f x1 x2 m)) := by
  have hX : F146 f x1 x2 m = F146 f x1 x2 m := rfl
  have Hr : ∀ m', F146 f x1 x2 m = some m' → RM c m' → ∀ n' : Nat, (qV c (F146 f x1 x2 m)) (.inl none) m' n' := fun m' e h n' => ⟨rfl, h, e⟩
  refine PC.mk [some (.ref 376), some (yI x1), some (yI x2), none] kn146 rfl ?_
  refine p_iconst 1 c146_0 rfl ?_
  refine p_istore 2 c146_1 rfl rfl ?_
  refine PW.loop (K := k) (pce := 45) (fun (l : Int) ml => B146_2 f x1 x2 l ml) (fun (l : Int) j => [some (.ref 376), some (yI x1), some (yI x2), some (yI l)]) (fun (l : Int) => rg l) (RM c) (fun (r' : Unit) m' => RM c m' → ∀ n' : Nat, (qV c (F146 f x1 x2 m)) (.inl none) m' n') (fun k' hk' l j m' n' hl hI Hn' He' Hr' => tB146_2 (f := f) (by omega) gx1 gx2 hl hI (fun y0 m2 n2 e h0 hR2 => Hn' y0 (fun q => ([none, none, none, none] : List (Option Value)).getD q none) m2 n2 e h0 hR2) (fun y0 m2 n2 e h0 hR2 => He' y0 (fun q => ([none, none, none, none] : List (Option Value)).getD q none) m2 n2 e h0 hR2) (fun m2 e => Hr' () m2 e)) f k (by omega) (Nat.le_refl _) 0 (fun q => ([some (.ref 376), some (yI x1), some (yI x2), some (yI 0)] : xL).getD q none) _ _ (rgD rfl) hR (fun l5601 j5604 m5607 n5606 e5603 hl5602 hR5608 k5605 hk5605 => ?_) (fun r' m' e' => ?_)
  · have hX5609 := hX.trans (bL_l e5603)
    exact p_return c146_45 (Hr _ hX5609 hR5608 _)
  · exact Hr m' (hX.trans (bL_r e'))
def J148_199 (f : Nat) (x1 : Int) (x2 : Int) (x3 : Int) (x4 : Int) (x5 : Int) (m : yM) : Option ((Int × yM) ⊕ ((Int × yM) ⊕ (Unit × yM))) := (some (.inl ((wr (x5 + 1)), m)))
set_option maxRecDepth 100000 in
theorem tJ148_199 {L : Nat} {xs : Nat → Int32} {Q : xO → yM → Nat → Prop} {k d n : Nat} {c : yS3} {f : Nat} {x1 : Int} {x2 : Int} {x3 : Int} {x4 : Int} {x5 : Int} {m : yM} {j6 j7 : Option Value} (hk : k ≤ f) (gx1 : rg x1) (gx2 : rg x2) (gx3 : rg x3) (gx4 : rg x4) (gx5 : rg x5) (hR : RM c m) (Hn : ∀ (y0 : Int) (z0 z1 : Option Value) (m' : yM) (n' : Nat), J148_199 f x1 x2 x3 x4 x5 m = some (.inl (y0, m')) → rg y0 → RM c m' → ∀ k', k' < k → PW (gZ L xs) k' 148 d 37 [some (.ref 376), some (yI x1), some (yI x2), some (yI x3), some (yI x4), some (yI y0), z0, z1] [] m' n' Q) (He : ∀ (y0 : Int) (z0 z1 : Option Value) (m' : yM) (n' : Nat), J148_199 f x1 x2 x3 x4 x5 m = some (.inr (.inl (y0, m'))) → rg y0 → RM c m' → ∀ k', k' ≤ k → PW (gZ L xs) k' 148 d 205 [some (.ref 376), some (yI x1), some (yI x2), some (yI x3), some (yI x4), some (yI y0), z0, z1] [] m' n' Q) (Hr : ∀ m', J148_199 f x1 x2 x3 x4 x5 m = some (.inr (.inr ((), m'))) → RM c m' → ∀ n', Q (.inl none) m' n') : PW (gZ L xs) k 148 d 199 [some (.ref 376), some (yI x1), some (yI x2), some (yI x3), some (yI x4), some (yI x5), j6, j7] [] m n Q := by
  have hX : J148_199 f x1 x2 x3 x4 x5 m = J148_199 f x1 x2 x3 x4 x5 m := rfl
  refine p_iinc 202 c148_199 rfl rfl rfl ?_
  refine p_gotoD 37 c148_202 rfl (fun k5505 hk5505 => ?_)
  exact Hn _ _ _ _ _ hX (rg_wr _) hR _ (by omega)
def J148_176 (f : Nat) (x1 : Int) (x2 : Int) (x3 : Int) (x4 : Int) (x5 : Int) (x6 : Int) (m : yM) : Option ((Int × yM) ⊕ ((Int × yM) ⊕ (Unit × yM))) := (bU (F145 f (wr ((m 398 (wr ((wr (10 * (m 376 18))) + x6)).toNat) + 1)) x5 m) (fun m5524 => (J148_199 f x1 x2 x3 x4 x5 m5524)))
set_option maxRecDepth 100000 in
theorem tJ148_176 {L : Nat} {xs : Nat → Int32} {Q : xO → yM → Nat → Prop} {k d n : Nat} {c : yS3} {f : Nat} {x1 : Int} {x2 : Int} {x3 : Int} {x4 : Int} {x5 : Int} {x6 : Int} {m : yM} {j7 : Option Value} (hk : k ≤ f) (gx1 : rg x1) (gx2 : rg x2) (gx3 : rg x3) (gx4 : rg x4) (gx5 : rg x5) (gx6 : rg x6) (hR : RM c m) (Hn : ∀ (y0 : Int) (z0 z1 : Option Value) (m' : yM) (n' : Nat), J148_176 f x1 x2 x3 x4 x5 x6 m = some (.inl (y0, m')) → rg y0 → RM c m' → ∀ k', k' < k → PW (gZ L xs) k' 148 d 37 [some (.ref 376), some (yI x1), some (yI x2), some (yI x3), some (yI x4), some (yI y0), z0, z1] [] m' n' Q) (He : ∀ (y0 : Int) (z0 z1 : Option Value) (m' : yM) (n' : Nat), J148_176 f x1 x2 x3 x4 x5 x6 m = some (.inr (.inl (y0, m'))) → rg y0 → RM c m' → ∀ k', k' ≤ k → PW (gZ L xs) k' 148 d 205 [some (.ref 376), some (yI x1), some (yI x2), some (yI x3), some (yI x4), some (yI y0), z0, z1] [] m' n' Q) (Hr : ∀ m', J148_176 f x1 x2 x3 x4 x5 x6 m = some (.inr (.inr ((), m'))) → RM c m' → ∀ n', Q (.inl none) m' n') : PW (gZ L xs) k 148 d 176 [some (.ref 376), some (yI x1), some (yI x2), some (yI x3), some (yI x4), some (yI x5), some (yI x6), j7] [] m n Q := by
  have hX : J148_176 f x1 x2 x3 x4 x5 x6 m = J148_176 f x1 x2 x3 x4 x5 x6 m := rfl
  refine p_aload 177 c148_176 rfl rfl ?_
  refine p_aload 178 c148_177 rfl rfl ?_
  refine p_getR 181 c148_178 rfl kf376_35 ?_
  refine p_iconst 183 c148_181 rfl ?_
  refine p_aload 184 c148_183 rfl rfl ?_
  refine p_getX 187 (m 376 18) c148_184 rfl kf376_18 rfl ?_
  refine p_imul 188 c148_187 rfl ?_
  refine p_iload 190 c148_188 rfl rfl ?_
  refine p_iadd 191 c148_190 rfl ?_
  refine p_iaX 192 (m 398 (wr ((wr (10 * (m 376 18))) + x6)).toNat) c148_191 rfl ka398 (rg_wr _) rfl (fun hx5517 => ?_)
  refine p_iconst 193 c148_192 rfl ?_
  refine p_iadd 194 c148_193 rfl ?_
  refine p_iload 196 c148_194 rfl rfl ?_
  refine p_cV 199 [.ref 376, yI (wr ((m 398 (wr ((wr (10 * (m 376 18))) + x6)).toNat) + 1)), yI x5] [] c148_196 rfl rfl rfl (fun k' hk' d' => d145 (f := f) (by omega) (rg_wr _) gx5 hR) (fun m5524 hF5520 hR5525 n5519 k5518 hk5518 => ?_)
  have hX5523 := hX.trans (bU_s hF5520)
  exact tJ148_199 (f := f) (by omega) gx1 gx2 gx3 gx4 gx5 hR5525 (fun y0 y1 y2 m' n' e' h0 hR' k' hk' => Hn y0 y1 y2 m' n' (hX5523.trans e') h0 hR' k' (by omega)) (fun y0 y1 y2 m' n' e' h0 hR' k' hk' => He y0 y1 y2 m' n' (hX5523.trans e') h0 hR' k' (by omega)) (fun m' e' => Hr m' (hX5523.trans e'))
def J148_150 (f : Nat) (x1 : Int) (x2 : Int) (x3 : Int) (x4 : Int) (x5 : Int) (x6 : Int) (m : yM) : Option ((Int × yM) ⊕ ((Int × yM) ⊕ (Unit × yM))) := (if m 407 x6.toNat < 0 then (J148_176 f x1 x2 x3 x4 x5 x6 (yup (yup m 407 x6.toNat (m 376 45)) 376 46 1)) else (J148_176 f x1 x2 x3 x4 x5 x6 m))
set_option maxRecDepth 100000 in
theorem tJ148_150 {L : Nat} {xs : Nat → Int32} {Q : xO → yM → Nat → Prop} {k d n : Nat} {c : yS3} {f : Nat} {x1 : Int} {x2 : Int} {x3 : Int} {x4 : Int} {x5 : Int} {x6 : Int} {m : yM} {j7 : Option Value} (hk : k ≤ f) (gx1 : rg x1) (gx2 : rg x2) (gx3 : rg x3) (gx4 : rg x4) (gx5 : rg x5) (gx6 : rg x6) (hR : RM c m) (Hn : ∀ (y0 : Int) (z0 z1 : Option Value) (m' : yM) (n' : Nat), J148_150 f x1 x2 x3 x4 x5 x6 m = some (.inl (y0, m')) → rg y0 → RM c m' → ∀ k', k' < k → PW (gZ L xs) k' 148 d 37 [some (.ref 376), some (yI x1), some (yI x2), some (yI x3), some (yI x4), some (yI y0), z0, z1] [] m' n' Q) (He : ∀ (y0 : Int) (z0 z1 : Option Value) (m' : yM) (n' : Nat), J148_150 f x1 x2 x3 x4 x5 x6 m = some (.inr (.inl (y0, m'))) → rg y0 → RM c m' → ∀ k', k' ≤ k → PW (gZ L xs) k' 148 d 205 [some (.ref 376), some (yI x1), some (yI x2), some (yI x3), some (yI x4), some (yI y0), z0, z1] [] m' n' Q) (Hr : ∀ m', J148_150 f x1 x2 x3 x4 x5 x6 m = some (.inr (.inr ((), m'))) → RM c m' → ∀ n', Q (.inl none) m' n') : PW (gZ L xs) k 148 d 150 [some (.ref 376), some (yI x1), some (yI x2), some (yI x3), some (yI x4), some (yI x5), some (yI x6), j7] [] m n Q := by
  have hX : J148_150 f x1 x2 x3 x4 x5 x6 m = J148_150 f x1 x2 x3 x4 x5 x6 m := rfl
  refine p_aload 151 c148_150 rfl rfl ?_
  refine p_getR 154 c148_151 rfl kf376_44 ?_
  refine p_iload 156 c148_154 rfl rfl ?_
  refine p_iaX 157 (m 407 x6.toNat) c148_156 rfl ka407 gx6 rfl (fun hx5512 => ?_)
  refine p_if 176 160 c148_157 rfl rfl ((yz_ge (hR.rg _ _)).trans Int.not_lt.symm) (fun hb5513 k5514 hk5514 => ?_) (fun hb5513 k5515 hk5515 => ?_)
  · have hX5516 := hX.trans (if_neg hb5513)
    exact tJ148_176 (f := f) (by omega) gx1 gx2 gx3 gx4 gx5 gx6 hR (fun y0 y1 y2 m' n' e' h0 hR' k' hk' => Hn y0 y1 y2 m' n' (hX5516.trans e') h0 hR' k' (by omega)) (fun y0 y1 y2 m' n' e' h0 hR' k' hk' => He y0 y1 y2 m' n' (hX5516.trans e') h0 hR' k' (by omega)) (fun m' e' => Hr m' (hX5516.trans e'))
  · have hX5526 := hX.trans (if_pos (Classical.not_not.mp hb5513))
    refine p_aload 161 c148_160 rfl rfl ?_
    refine p_getR 164 c148_161 rfl kf376_44 ?_
    refine p_iload 166 c148_164 rfl rfl ?_
    refine p_aload 167 c148_166 rfl rfl ?_
    refine p_getX 170 (m 376 45) c148_167 rfl kf376_45 rfl ?_
    refine p_iaS 171 c148_170 rfl ka407 gx6 (m 376 45) (nar0 (hR.rg _ _)) (fun hx5527 => ?_)
    have hR5528 := hR.up 407 x6.toNat (v := m 376 45) (nselA (by decide)) (hR.rg _ _)
    refine p_aload 172 c148_171 rfl rfl ?_
    refine p_iconst 173 c148_172 rfl ?_
    refine p_putI 176 c148_173 rfl kf376_46 ?_
    have hR5529 := hR5528.up 376 46 (v := 1) (nselD rfl) (rgD rfl)
    exact tJ148_176 (f := f) (by omega) gx1 gx2 gx3 gx4 gx5 gx6 hR5529 (fun y0 y1 y2 m' n' e' h0 hR' k' hk' => Hn y0 y1 y2 m' n' (hX5526.trans e') h0 hR' k' (by omega)) (fun y0 y1 y2 m' n' e' h0 hR' k' hk' => He y0 y1 y2 m' n' (hX5526.trans e') h0 hR' k' (by omega)) (fun m' e' => Hr m' (hX5526.trans e'))
def J148_107 (f : Nat) (x1 : Int) (x2 : Int) (x3 : Int) (x4 : Int) (x5 : Int) (xs0 : Int) (m : yM) : Option ((Int × yM) ⊕ ((Int × yM) ⊕ (Unit × yM))) := (if xs0 < 0 then (J148_199 f x1 x2 x3 x4 x5 m) else (if m 406 (wr ((wr (10 * x3)) + xs0)).toNat < 0 then (J148_150 f x1 x2 x3 x4 x5 xs0 (yup (yup m 406 (wr ((wr (10 * x3)) + xs0)).toNat (m 376 45)) 376 46 1)) else (J148_150 f x1 x2 x3 x4 x5 xs0 m)))
set_option maxRecDepth 100000 in
theorem tJ148_107 {L : Nat} {xs : Nat → Int32} {Q : xO → yM → Nat → Prop} {k d n : Nat} {c : yS3} {f : Nat} {x1 : Int} {x2 : Int} {x3 : Int} {x4 : Int} {x5 : Int} {xs0 : Int} {m : yM} {j6 j7 : Option Value} (hk : k ≤ f) (gx1 : rg x1) (gx2 : rg x2) (gx3 : rg x3) (gx4 : rg x4) (gx5 : rg x5) (gxs0 : rg xs0) (hR : RM c m) (Hn : ∀ (y0 : Int) (z0 z1 : Option Value) (m' : yM) (n' : Nat), J148_107 f x1 x2 x3 x4 x5 xs0 m = some (.inl (y0, m')) → rg y0 → RM c m' → ∀ k', k' < k → PW (gZ L xs) k' 148 d 37 [some (.ref 376), some (yI x1), some (yI x2), some (yI x3), some (yI x4), some (yI y0), z0, z1] [] m' n' Q) (He : ∀ (y0 : Int) (z0 z1 : Option Value) (m' : yM) (n' : Nat), J148_107 f x1 x2 x3 x4 x5 xs0 m = some (.inr (.inl (y0, m'))) → rg y0 → RM c m' → ∀ k', k' ≤ k → PW (gZ L xs) k' 148 d 205 [some (.ref 376), some (yI x1), some (yI x2), some (yI x3), some (yI x4), some (yI y0), z0, z1] [] m' n' Q) (Hr : ∀ m', J148_107 f x1 x2 x3 x4 x5 xs0 m = some (.inr (.inr ((), m'))) → RM c m' → ∀ n', Q (.inl none) m' n') : PW (gZ L xs) k 148 d 107 [some (.ref 376), some (yI x1), some (yI x2), some (yI x3), some (yI x4), some (yI x5), j6, j7] [yI xs0] m n Q := by
  have hX : J148_107 f x1 x2 x3 x4 x5 xs0 m = J148_107 f x1 x2 x3 x4 x5 xs0 m := rfl
  refine p_istore 109 c148_107 rfl rfl ?_
  refine p_iload 111 c148_109 rfl rfl ?_
  refine p_if 199 114 c148_111 rfl rfl (yz_lt gxs0) (fun hb5501 k5502 hk5502 => ?_) (fun hb5501 k5503 hk5503 => ?_)
  · have hX5504 := hX.trans (if_pos hb5501)
    exact tJ148_199 (f := f) (by omega) gx1 gx2 gx3 gx4 gx5 hR (fun y0 y1 y2 m' n' e' h0 hR' k' hk' => Hn y0 y1 y2 m' n' (hX5504.trans e') h0 hR' k' (by omega)) (fun y0 y1 y2 m' n' e' h0 hR' k' hk' => He y0 y1 y2 m' n' (hX5504.trans e') h0 hR' k' (by omega)) (fun m' e' => Hr m' (hX5504.trans e'))
  · have hX5506 := hX.trans (if_neg hb5501)
    refine p_aload 115 c148_114 rfl rfl ?_
    refine p_getR 118 c148_115 rfl kf376_43 ?_
    refine p_iconst 120 c148_118 rfl ?_
    refine p_iload 121 c148_120 rfl rfl ?_
    refine p_imul 122 c148_121 rfl ?_
    refine p_iload 124 c148_122 rfl rfl ?_
    refine p_iadd 125 c148_124 rfl ?_
    refine p_iaX 126 (m 406 (wr ((wr (10 * x3)) + xs0)).toNat) c148_125 rfl ka406 (rg_wr _) rfl (fun hx5507 => ?_)
    refine p_if 150 129 c148_126 rfl rfl ((yz_ge (hR.rg _ _)).trans Int.not_lt.symm) (fun hb5508 k5509 hk5509 => ?_) (fun hb5508 k5510 hk5510 => ?_)
    · have hX5511 := hX5506.trans (if_neg hb5508)
      exact tJ148_150 (f := f) (by omega) gx1 gx2 gx3 gx4 gx5 gxs0 hR (fun y0 y1 y2 m' n' e' h0 hR' k' hk' => Hn y0 y1 y2 m' n' (hX5511.trans e') h0 hR' k' (by omega)) (fun y0 y1 y2 m' n' e' h0 hR' k' hk' => He y0 y1 y2 m' n' (hX5511.trans e') h0 hR' k' (by omega)) (fun m' e' => Hr m' (hX5511.trans e'))
    · have hX5530 := hX5506.trans (if_pos (Classical.not_not.mp hb5508))
      refine p_aload 130 c148_129 rfl rfl ?_
      refine p_getR 133 c148_130 rfl kf376_43 ?_
      refine p_iconst 135 c148_133 rfl ?_
      refine p_iload 136 c148_135 rfl rfl ?_
      refine p_imul 137 c148_136 rfl ?_
      refine p_iload 139 c148_137 rfl rfl ?_
      refine p_iadd 140 c148_139 rfl ?_
      refine p_aload 141 c148_140 rfl rfl ?_
      refine p_getX 144 (m 376 45) c148_141 rfl kf376_45 rfl ?_
      refine p_iaS 145 c148_144 rfl ka406 (rg_wr _) (m 376 45) (nar0 (hR.rg _ _)) (fun hx5531 => ?_)
      have hR5532 := hR.up 406 (wr ((wr (10 * x3)) + xs0)).toNat (v := m 376 45) (nselA (by decide)) (hR.rg _ _)
      refine p_aload 146 c148_145 rfl rfl ?_
      refine p_iconst 147 c148_146 rfl ?_
      refine p_putI 150 c148_147 rfl kf376_46 ?_
      have hR5533 := hR5532.up 376 46 (v := 1) (nselD rfl) (rgD rfl)
      exact tJ148_150 (f := f) (by omega) gx1 gx2 gx3 gx4 gx5 gxs0 hR5533 (fun y0 y1 y2 m' n' e' h0 hR' k' hk' => Hn y0 y1 y2 m' n' (hX5530.trans e') h0 hR' k' (by omega)) (fun y0 y1 y2 m' n' e' h0 hR' k' hk' => He y0 y1 y2 m' n' (hX5530.trans e') h0 hR' k' (by omega)) (fun m' e' => Hr m' (hX5530.trans e'))
def B148_37 (f : Nat) (x1 : Int) (x2 : Int) (x3 : Int) (x4 : Int) (x5 : Int) (m : yM) : Option ((Int × yM) ⊕ ((Int × yM) ⊕ (Unit × yM))) := (if x5 < m 388 (m 376 18).toNat then (if F144 (m 404 (wr ((wr (12 * x2)) + x5)).toNat) m = 0 then (J148_107 f x1 x2 x3 x4 x5 ((-1)) m) else (bP (F142 f (m 376 18) (m 400 (wr ((wr (12 * (m 376 18))) + x5)).toNat) (m 403 (wr (x1 + 4)).toNat) x4 m) (fun r5541 => (J148_107 f x1 x2 x3 x4 x5 r5541 m)))) else (some (.inr (.inl (x5, m)))))
set_option maxRecDepth 100000 in
theorem tB148_37 {L : Nat} {xs : Nat → Int32} {Q : xO → yM → Nat → Prop} {k d n : Nat} {c : yS3} {f : Nat} {x1 : Int} {x2 : Int} {x3 : Int} {x4 : Int} {x5 : Int} {m : yM} {j6 j7 : Option Value} (hk : k ≤ f) (gx1 : rg x1) (gx2 : rg x2) (gx3 : rg x3) (gx4 : rg x4) (gx5 : rg x5) (hR : RM c m) (Hn : ∀ (y0 : Int) (z0 z1 : Option Value) (m' : yM) (n' : Nat), B148_37 f x1 x2 x3 x4 x5 m = some (.inl (y0, m')) → rg y0 → RM c m' → ∀ k', k' < k → PW (gZ L xs) k' 148 d 37 [some (.ref 376), some (yI x1), some (yI x2), some (yI x3), some (yI x4), some (yI y0), z0, z1] [] m' n' Q) (He : ∀ (y0 : Int) (z0 z1 : Option Value) (m' : yM) (n' : Nat), B148_37 f x1 x2 x3 x4 x5 m = some (.inr (.inl (y0, m'))) → rg y0 → RM c m' → ∀ k', k' ≤ k → PW (gZ L xs) k' 148 d 205 [some (.ref 376), some (yI x1), some (yI x2), some (yI x3), some (yI x4), some (yI y0), z0, z1] [] m' n' Q) (Hr : ∀ m', B148_37 f x1 x2 x3 x4 x5 m = some (.inr (.inr ((), m'))) → RM c m' → ∀ n', Q (.inl none) m' n') : PW (gZ L xs) k 148 d 37 [some (.ref 376), some (yI x1), some (yI x2), some (yI x3), some (yI x4), some (yI x5), j6, j7] [] m n Q := by
  have hX : B148_37 f x1 x2 x3 x4 x5 m = B148_37 f x1 x2 x3 x4 x5 m := rfl
  refine p_iload 39 c148_37 rfl rfl ?_
  refine p_aload 40 c148_39 rfl rfl ?_
  refine p_getR 43 c148_40 rfl kf376_25 ?_
  refine p_aload 44 c148_43 rfl rfl ?_
  refine p_getX 47 (m 376 18) c148_44 rfl kf376_18 rfl ?_
  refine p_iaX 48 (m 388 (m 376 18).toNat) c148_47 rfl ka388 (hR.rg _ _) rfl (fun hx5487 => ?_)
  refine p_icmp 205 51 c148_48 rfl rfl ((yc_ge gx5 (hR.rg _ _)).trans Int.not_lt.symm) (fun hb5488 k5489 hk5489 => ?_) (fun hb5488 k5490 hk5490 => ?_)
  · have hX5491 := hX.trans (if_neg hb5488)
    exact He _ _ _ _ _ hX5491 gx5 hR _ (by omega)
  · have hX5492 := hX.trans (if_pos (Classical.not_not.mp hb5488))
    refine p_aload 52 c148_51 rfl rfl ?_
    refine p_aload 53 c148_52 rfl rfl ?_
    refine p_getR 56 c148_53 rfl kf376_41 ?_
    refine p_iconst 58 c148_56 rfl ?_
    refine p_iload 59 c148_58 rfl rfl ?_
    refine p_imul 60 c148_59 rfl ?_
    refine p_iload 62 c148_60 rfl rfl ?_
    refine p_iadd 63 c148_62 rfl ?_
    refine p_iaX 64 (m 404 (wr ((wr (12 * x2)) + x5)).toNat) c148_63 rfl ka404 (rg_wr _) rfl (fun hx5493 => ?_)
    refine p_cX 67 [.ref 376, yI (m 404 (wr ((wr (12 * x2)) + x5)).toNat)] [] c148_64 rfl rfl rfl (fun k' hk' d' => d144 (hR.rg _ _) hR) (fun hg5496 n5495 k5494 hk5494 => ?_)
    refine p_if 106 70 c148_67 rfl rfl (yz_eq hg5496) (fun hb5497 k5498 hk5498 => ?_) (fun hb5497 k5499 hk5499 => ?_)
    · have hX5500 := hX5492.trans (if_pos hb5497)
      refine p_iconst 107 c148_106 rfl ?_
      exact tJ148_107 (f := f) (by omega) gx1 gx2 gx3 gx4 gx5 (rgD rfl) hR (fun y0 y1 y2 m' n' e' h0 hR' k' hk' => Hn y0 y1 y2 m' n' (hX5500.trans e') h0 hR' k' (by omega)) (fun y0 y1 y2 m' n' e' h0 hR' k' hk' => He y0 y1 y2 m' n' (hX5500.trans e') h0 hR' k' (by omega)) (fun m' e' => Hr m' (hX5500.trans e'))
    · have hX5534 := hX5492.trans (if_neg hb5497)
      refine p_aload 71 c148_70 rfl rfl ?_
      refine p_aload 72 c148_71 rfl rfl ?_
      refine p_getX 75 (m 376 18) c148_72 rfl kf376_18 rfl ?_
      refine p_aload 76 c148_75 rfl rfl ?_
      refine p_getR 79 c148_76 rfl kf376_37 ?_
      refine p_iconst 81 c148_79 rfl ?_
      refine p_aload 82 c148_81 rfl rfl ?_
      refine p_getX 85 (m 376 18) c148_82 rfl kf376_18 rfl ?_
      refine p_imul 86 c148_85 rfl ?_
      refine p_iload 88 c148_86 rfl rfl ?_
      refine p_iadd 89 c148_88 rfl ?_
      refine p_iaX 90 (m 400 (wr ((wr (12 * (m 376 18))) + x5)).toNat) c148_89 rfl ka400 (rg_wr _) rfl (fun hx5535 => ?_)
      refine p_aload 91 c148_90 rfl rfl ?_
      refine p_getR 94 c148_91 rfl kf376_40 ?_
      refine p_iload 95 c148_94 rfl rfl ?_
      refine p_iconst 96 c148_95 rfl ?_
      refine p_iadd 97 c148_96 rfl ?_
      refine p_iaX 98 (m 403 (wr (x1 + 4)).toNat) c148_97 rfl ka403 (rg_wr _) rfl (fun hx5536 => ?_)
      refine p_iload 100 c148_98 rfl rfl ?_
      refine p_cO 103 [.ref 376, yI (m 376 18), yI (m 400 (wr ((wr (12 * (m 376 18))) + x5)).toNat), yI (m 403 (wr (x1 + 4)).toNat), yI x4] [] c148_100 rfl rfl rfl (fun k' hk' d' => d142 (f := f) (by omega) (hR.rg _ _) (hR.rg _ _) (hR.rg _ _) gx4 hR) (fun r5541 hF5539 hg5540 n5538 k5537 hk5537 => ?_)
      have hX5542 := hX5534.trans (bP_s hF5539)
      refine p_goto 107 c148_103 rfl ?_
      exact tJ148_107 (f := f) (by omega) gx1 gx2 gx3 gx4 gx5 hg5540 hR (fun y0 y1 y2 m' n' e' h0 hR' k' hk' => Hn y0 y1 y2 m' n' (hX5542.trans e') h0 hR' k' (by omega)) (fun y0 y1 y2 m' n' e' h0 hR' k' hk' => He y0 y1 y2 m' n' (hX5542.trans e') h0 hR' k' (by omega)) (fun m' e' => Hr m' (hX5542.trans e'))
def J148_322 (f : Nat) (x1 : Int) (x3 : Int) (x4 : Int) (x5 : Int) (m : yM) : Option ((Int × yM) ⊕ ((Int × yM) ⊕ (Unit × yM))) := (some (.inl ((wr (x5 + 1)), m)))
set_option maxRecDepth 100000 in
theorem tJ148_322 {L : Nat} {xs : Nat → Int32} {Q : xO → yM → Nat → Prop} {k d n : Nat} {c : yS3} {f : Nat} {x1 : Int} {x3 : Int} {x4 : Int} {x5 : Int} {m : yM} {j2 j6 j7 : Option Value} (hk : k ≤ f) (gx1 : rg x1) (gx3 : rg x3) (gx4 : rg x4) (gx5 : rg x5) (hR : RM c m) (Hn : ∀ (y0 : Int) (z0 z1 z2 : Option Value) (m' : yM) (n' : Nat), J148_322 f x1 x3 x4 x5 m = some (.inl (y0, m')) → rg y0 → RM c m' → ∀ k', k' < k → PW (gZ L xs) k' 148 d 208 [some (.ref 376), some (yI x1), z0, some (yI x3), some (yI x4), some (yI y0), z1, z2] [] m' n' Q) (He : ∀ (y0 : Int) (z0 z1 z2 : Option Value) (m' : yM) (n' : Nat), J148_322 f x1 x3 x4 x5 m = some (.inr (.inl (y0, m'))) → rg y0 → RM c m' → ∀ k', k' ≤ k → PW (gZ L xs) k' 148 d 328 [some (.ref 376), some (yI x1), z0, some (yI x3), some (yI x4), some (yI y0), z1, z2] [] m' n' Q) (Hr : ∀ m', J148_322 f x1 x3 x4 x5 m = some (.inr (.inr ((), m'))) → RM c m' → ∀ n', Q (.inl none) m' n') : PW (gZ L xs) k 148 d 322 [some (.ref 376), some (yI x1), j2, some (yI x3), some (yI x4), some (yI x5), j6, j7] [] m n Q := by
  have hX : J148_322 f x1 x3 x4 x5 m = J148_322 f x1 x3 x4 x5 m := rfl
  refine p_iinc 325 c148_322 rfl rfl rfl ?_
  refine p_gotoD 208 c148_325 rfl (fun k5566 hk5566 => ?_)
  exact Hn _ _ _ _ _ _ hX (rg_wr _) hR _ (by omega)
def B148_261 (f : Nat) (x1 : Int) (x3 : Int) (x4 : Int) (x5 : Int) (x6 : Int) (x7 : Int) (m : yM) : Option ((Int × yM) ⊕ ((Int × yM) ⊕ (Unit × yM))) := (if x7 < x4 then (bU (F146 f (wr ((wr (x6 + 2)) + x7)) (m 403 (wr ((wr (x1 + 6)) + x7)).toNat) m) (fun m5614 => (some (.inl ((wr (x7 + 1)), m5614))))) else (some (.inr (.inl (x7, m)))))
set_option maxRecDepth 100000 in
theorem tB148_261 {L : Nat} {xs : Nat → Int32} {Q : xO → yM → Nat → Prop} {k d n : Nat} {c : yS3} {f : Nat} {x1 : Int} {x3 : Int} {x4 : Int} {x5 : Int} {x6 : Int} {x7 : Int} {m : yM} {j2 : Option Value} (hk : k ≤ f) (gx1 : rg x1) (gx3 : rg x3) (gx4 : rg x4) (gx5 : rg x5) (gx6 : rg x6) (gx7 : rg x7) (hR : RM c m) (Hn : ∀ (y0 : Int) (z0 : Option Value) (m' : yM) (n' : Nat), B148_261 f x1 x3 x4 x5 x6 x7 m = some (.inl (y0, m')) → rg y0 → RM c m' → ∀ k', k' < k → PW (gZ L xs) k' 148 d 261 [some (.ref 376), some (yI x1), z0, some (yI x3), some (yI x4), some (yI x5), some (yI x6), some (yI y0)] [] m' n' Q) (He : ∀ (y0 : Int) (z0 : Option Value) (m' : yM) (n' : Nat), B148_261 f x1 x3 x4 x5 x6 x7 m = some (.inr (.inl (y0, m'))) → rg y0 → RM c m' → ∀ k', k' ≤ k → PW (gZ L xs) k' 148 d 297 [some (.ref 376), some (yI x1), z0, some (yI x3), some (yI x4), some (yI x5), some (yI x6), some (yI y0)] [] m' n' Q) (Hr : ∀ m', B148_261 f x1 x3 x4 x5 x6 x7 m = some (.inr (.inr ((), m'))) → RM c m' → ∀ n', Q (.inl none) m' n') : PW (gZ L xs) k 148 d 261 [some (.ref 376), some (yI x1), j2, some (yI x3), some (yI x4), some (yI x5), some (yI x6), some (yI x7)] [] m n Q := by
  have hX : B148_261 f x1 x3 x4 x5 x6 x7 m = B148_261 f x1 x3 x4 x5 x6 x7 m := rfl
  refine p_iload 263 c148_261 rfl rfl ?_
  refine p_iload 265 c148_263 rfl rfl ?_
  refine p_icmp 297 268 c148_265 rfl rfl ((yc_ge gx7 gx4).trans Int.not_lt.symm) (fun hb5569 k5570 hk5570 => ?_) (fun hb5569 k5571 hk5571 => ?_)
  · have hX5572 := hX.trans (if_neg hb5569)
    exact He _ _ _ _ hX5572 gx7 hR _ (by omega)
  · have hX5573 := hX.trans (if_pos (Classical.not_not.mp hb5569))
    refine p_aload 269 c148_268 rfl rfl ?_
    refine p_iload 271 c148_269 rfl rfl ?_
    refine p_iconst 272 c148_271 rfl ?_
    refine p_iadd 273 c148_272 rfl ?_
    refine p_iload 275 c148_273 rfl rfl ?_
    refine p_iadd 276 c148_275 rfl ?_
    refine p_aload 277 c148_276 rfl rfl ?_
    refine p_getR 280 c148_277 rfl kf376_40 ?_
    refine p_iload 281 c148_280 rfl rfl ?_
    refine p_iconst 283 c148_281 rfl ?_
    refine p_iadd 284 c148_283 rfl ?_
    refine p_iload 286 c148_284 rfl rfl ?_
    refine p_iadd 287 c148_286 rfl ?_
    refine p_iaX 288 (m 403 (wr ((wr (x1 + 6)) + x7)).toNat) c148_287 rfl ka403 (rg_wr _) rfl (fun hx5574 => ?_)
    refine p_cV 291 [.ref 376, yI (wr ((wr (x6 + 2)) + x7)), yI (m 403 (wr ((wr (x1 + 6)) + x7)).toNat)] [] c148_288 rfl rfl rfl (fun k' hk' d' => d146 (f := f) (by omega) (rg_wr _) (hR.rg _ _) hR) (fun m5614 hF5610 hR5615 n5576 k5575 hk5575 => ?_)
    have hX5613 := hX5573.trans (bU_s hF5610)
    refine p_iinc 294 c148_291 rfl rfl rfl ?_
    refine p_gotoD 261 c148_294 rfl (fun k5616 hk5616 => ?_)
    exact Hn _ _ _ _ hX5613 (rg_wr _) hR5615 _ (by omega)
def B148_208 (f : Nat) (x1 : Int) (x3 : Int) (x4 : Int) (x5 : Int) (m : yM) : Option ((Int × yM) ⊕ ((Int × yM) ⊕ (Unit × yM))) := (if x5 < m 384 (m 376 18).toNat then (if F144 (m 406 (wr ((wr (10 * x3)) + x5)).toNat) m = 0 then (J148_322 f x1 x3 x4 x5 m) else (bL (yloop (fun (l : Int) ml => B148_261 f x1 x3 x4 x5 (m 398 (wr ((wr (10 * (m 376 18))) + x5)).toNat) l ml) f 0 m) (fun l5617 m5623 => (if m5623 403 (wr (x1 + 2)).toNat < 0 then (J148_322 f x1 x3 x4 x5 m5623) else (bU (F146 f (m5623 403 (wr (x1 + 2)).toNat) (m 398 (wr ((wr (10 * (m 376 18))) + x5)).toNat) m5623) (fun m5639 => (J148_322 f x1 x3 x4 x5 m5639))))) (fun _ mr => some (.inr (.inr ((), mr)))))) else (some (.inr (.inl (x5, m)))))
set_option maxRecDepth 100000 in
theorem tB148_208 {L : Nat} {xs : Nat → Int32} {Q : xO → yM → Nat → Prop} {k d n : Nat} {c : yS3} {f : Nat} {x1 : Int} {x3 : Int} {x4 : Int} {x5 : Int} {m : yM} {j2 j6 j7 : Option Value} (hk : k ≤ f) (gx1 : rg x1) (gx3 : rg x3) (gx4 : rg x4) (gx5 : rg x5) (hR : RM c m) (Hn : ∀ (y0 : Int) (z0 z1 z2 : Option Value) (m' : yM) (n' : Nat), B148_208 f x1 x3 x4 x5 m = some (.inl (y0, m')) → rg y0 → RM c m' → ∀ k', k' < k → PW (gZ L xs) k' 148 d 208 [some (.ref 376), some (yI x1), z0, some (yI x3), some (yI x4), some (yI y0), z1, z2] [] m' n' Q) (He : ∀ (y0 : Int) (z0 z1 z2 : Option Value) (m' : yM) (n' : Nat), B148_208 f x1 x3 x4 x5 m = some (.inr (.inl (y0, m'))) → rg y0 → RM c m' → ∀ k', k' ≤ k → PW (gZ L xs) k' 148 d 328 [some (.ref 376), some (yI x1), z0, some (yI x3), some (yI x4), some (yI y0), z1, z2] [] m' n' Q) (Hr : ∀ m', B148_208 f x1 x3 x4 x5 m = some (.inr (.inr ((), m'))) → RM c m' → ∀ n', Q (.inl none) m' n') : PW (gZ L xs) k 148 d 208 [some (.ref 376), some (yI x1), j2, some (yI x3), some (yI x4), some (yI x5), j6, j7] [] m n Q := by
  have hX : B148_208 f x1 x3 x4 x5 m = B148_208 f x1 x3 x4 x5 m := rfl
  refine p_iload 210 c148_208 rfl rfl ?_
  refine p_aload 211 c148_210 rfl rfl ?_
  refine p_getR 214 c148_211 rfl kf376_21 ?_
  refine p_aload 215 c148_214 rfl rfl ?_
  refine p_getX 218 (m 376 18) c148_215 rfl kf376_18 rfl ?_
  refine p_iaX 219 (m 384 (m 376 18).toNat) c148_218 rfl ka384 (hR.rg _ _) rfl (fun hx5552 => ?_)
  refine p_icmp 328 222 c148_219 rfl rfl ((yc_ge gx5 (hR.rg _ _)).trans Int.not_lt.symm) (fun hb5553 k5554 hk5554 => ?_) (fun hb5553 k5555 hk5555 => ?_)
  · have hX5556 := hX.trans (if_neg hb5553)
    exact He _ _ _ _ _ _ hX5556 gx5 hR _ (by omega)
  · have hX5557 := hX.trans (if_pos (Classical.not_not.mp hb5553))
    refine p_aload 223 c148_222 rfl rfl ?_
    refine p_aload 224 c148_223 rfl rfl ?_
    refine p_getR 227 c148_224 rfl kf376_43 ?_
    refine p_iconst 229 c148_227 rfl ?_
    refine p_iload 230 c148_229 rfl rfl ?_
    refine p_imul 231 c148_230 rfl ?_
    refine p_iload 233 c148_231 rfl rfl ?_
    refine p_iadd 234 c148_233 rfl ?_
    refine p_iaX 235 (m 406 (wr ((wr (10 * x3)) + x5)).toNat) c148_234 rfl ka406 (rg_wr _) rfl (fun hx5558 => ?_)
    refine p_cX 238 [.ref 376, yI (m 406 (wr ((wr (10 * x3)) + x5)).toNat)] [] c148_235 rfl rfl rfl (fun k' hk' d' => d144 (hR.rg _ _) hR) (fun hg5561 n5560 k5559 hk5559 => ?_)
    refine p_if 322 241 c148_238 rfl rfl (yz_eq hg5561) (fun hb5562 k5563 hk5563 => ?_) (fun hb5562 k5564 hk5564 => ?_)
    · have hX5565 := hX5557.trans (if_pos hb5562)
      exact tJ148_322 (f := f) (by omega) gx1 gx3 gx4 gx5 hR (fun y0 y1 y2 y3 m' n' e' h0 hR' k' hk' => Hn y0 y1 y2 y3 m' n' (hX5565.trans e') h0 hR' k' (by omega)) (fun y0 y1 y2 y3 m' n' e' h0 hR' k' hk' => He y0 y1 y2 y3 m' n' (hX5565.trans e') h0 hR' k' (by omega)) (fun m' e' => Hr m' (hX5565.trans e'))
    · have hX5567 := hX5557.trans (if_neg hb5562)
      refine p_aload 242 c148_241 rfl rfl ?_
      refine p_getR 245 c148_242 rfl kf376_35 ?_
      refine p_iconst 247 c148_245 rfl ?_
      refine p_aload 248 c148_247 rfl rfl ?_
      refine p_getX 251 (m 376 18) c148_248 rfl kf376_18 rfl ?_
      refine p_imul 252 c148_251 rfl ?_
      refine p_iload 254 c148_252 rfl rfl ?_
      refine p_iadd 255 c148_254 rfl ?_
      refine p_iaX 256 (m 398 (wr ((wr (10 * (m 376 18))) + x5)).toNat) c148_255 rfl ka398 (rg_wr _) rfl (fun hx5568 => ?_)
      refine p_istore 258 c148_256 rfl rfl ?_
      refine p_iconst 259 c148_258 rfl ?_
      refine p_istore 261 c148_259 rfl rfl ?_
      refine PW.loop (K := k5564) (pce := 297) (fun (l : Int) ml => B148_261 f x1 x3 x4 x5 (m 398 (wr ((wr (10 * (m 376 18))) + x5)).toNat) l ml) (fun (l : Int) j => [some (.ref 376), some (yI x1), j 2, some (yI x3), some (yI x4), some (yI x5), some (yI (m 398 (wr ((wr (10 * (m 376 18))) + x5)).toNat)), some (yI l)]) (fun (l : Int) => rg l) (RM c) (fun (r' : Unit) m' => RM c m' → ∀ n' : Nat, Q (.inl none) m' n') (fun k' hk' l j m' n' hl hI Hn' He' Hr' => tB148_261 (f := f) (by omega) gx1 gx3 gx4 gx5 (hR.rg _ _) hl hI (fun y0 y1 m2 n2 e h0 hR2 => Hn' y0 (fun q => ([none, none, y1, none, none, none, none, none] : List (Option Value)).getD q none) m2 n2 e h0 hR2) (fun y0 y1 m2 n2 e h0 hR2 => He' y0 (fun q => ([none, none, y1, none, none, none, none, none] : List (Option Value)).getD q none) m2 n2 e h0 hR2) (fun m2 e => Hr' () m2 e)) f k5564 (by omega) (Nat.le_refl _) 0 (fun q => ([some (.ref 376), some (yI x1), j2, some (yI x3), some (yI x4), some (yI x5), some (yI (m 398 (wr ((wr (10 * (m 376 18))) + x5)).toNat)), some (yI 0)] : xL).getD q none) _ _ (rgD rfl) hR (fun l5617 j5620 m5623 n5622 e5619 hl5618 hR5624 k5621 hk5621 => ?_) (fun r' m' e' => ?_)
      · have hX5625 := hX5567.trans (bL_l e5619)
        refine p_aload 298 c148_297 rfl rfl ?_
        refine p_getR 301 c148_298 rfl kf376_40 ?_
        refine p_iload 302 c148_301 rfl rfl ?_
        refine p_iconst 303 c148_302 rfl ?_
        refine p_iadd 304 c148_303 rfl ?_
        refine p_iaX 305 (m5623 403 (wr (x1 + 2)).toNat) c148_304 rfl ka403 (rg_wr _) rfl (fun hx5626 => ?_)
        refine p_if 322 308 c148_305 rfl rfl (yz_lt (hR5624.rg _ _)) (fun hb5627 k5628 hk5628 => ?_) (fun hb5627 k5629 hk5629 => ?_)
        · have hX5630 := hX5625.trans (if_pos hb5627)
          exact tJ148_322 (f := f) (by omega) gx1 gx3 gx4 gx5 hR5624 (fun y0 y1 y2 y3 m' n' e' h0 hR' k' hk' => Hn y0 y1 y2 y3 m' n' (hX5630.trans e') h0 hR' k' (by omega)) (fun y0 y1 y2 y3 m' n' e' h0 hR' k' hk' => He y0 y1 y2 y3 m' n' (hX5630.trans e') h0 hR' k' (by omega)) (fun m' e' => Hr m' (hX5630.trans e'))
        · have hX5631 := hX5625.trans (if_neg hb5627)
          refine p_aload 309 c148_308 rfl rfl ?_
          refine p_aload 310 c148_309 rfl rfl ?_
          refine p_getR 313 c148_310 rfl kf376_40 ?_
          refine p_iload 314 c148_313 rfl rfl ?_
          refine p_iconst 315 c148_314 rfl ?_
          refine p_iadd 316 c148_315 rfl ?_
          refine p_iaX 317 (m5623 403 (wr (x1 + 2)).toNat) c148_316 rfl ka403 (rg_wr _) rfl (fun hx5632 => ?_)
          refine p_iload 319 c148_317 rfl rfl ?_
          refine p_cV 322 [.ref 376, yI (m5623 403 (wr (x1 + 2)).toNat), yI (m 398 (wr ((wr (10 * (m 376 18))) + x5)).toNat)] [] c148_319 rfl rfl rfl (fun k' hk' d' => d146 (f := f) (by omega) (hR5624.rg _ _) (hR.rg _ _) hR5624) (fun m5639 hF5635 hR5640 n5634 k5633 hk5633 => ?_)
          have hX5638 := hX5631.trans (bU_s hF5635)
          exact tJ148_322 (f := f) (by omega) gx1 gx3 gx4 gx5 hR5640 (fun y0 y1 y2 y3 m' n' e' h0 hR' k' hk' => Hn y0 y1 y2 y3 m' n' (hX5638.trans e') h0 hR' k' (by omega)) (fun y0 y1 y2 y3 m' n' e' h0 hR' k' hk' => He y0 y1 y2 y3 m' n' (hX5638.trans e') h0 hR' k' (by omega)) (fun m' e' => Hr m' (hX5638.trans e'))
      · exact Hr m' (hX5567.trans (bL_r e'))
def F148 (f : Nat) (x1 : Int) (m : yM) : Option yM := (bL (yloop (fun (l : Int) ml => B148_37 f x1 (m 403 (wr (x1 + 3)).toNat) (iDiv (m 403 (wr (x1 + 5)).toNat) 16) (iRem (m 403 (wr (x1 + 5)).toNat) 16) l ml) f 0 m) (fun l5543 m5549 => (bL (yloop (fun (l : Int) ml => B148_208 f x1 (iDiv (m 403 (wr (x1 + 5)).toNat) 16) (iRem (m 403 (wr (x1 + 5)).toNat) 16) l ml) f 0 m5549) (fun l5641 m5647 => (some m5647)) (fun _ mr => some mr))) (fun _ mr => some mr))
set_option maxRecDepth 100000 in
theorem d148 {L : Nat} {xs : Nat → Int32} {k d n : Nat} {c : yS3} {f : Nat} {x1 : Int} {m : yM} (hk : k ≤ f) (gx1 : rg x1) (hR : RM c m) : PC (gZ L xs) k d 148 [.ref 376, yI x1] m n (qV c (F148 f x1 m)) := by
  have hX : F148 f x1 m = F148 f x1 m := rfl
  have Hr : ∀ m', F148 f x1 m = some m' → RM c m' → ∀ n' : Nat, (qV c (F148 f x1 m)) (.inl none) m' n' := fun m' e h n' => ⟨rfl, h, e⟩
  refine PC.mk [some (.ref 376), some (yI x1), none, none, none, none, none, none] kn148 rfl ?_
  refine p_aload 1 c148_0 rfl rfl ?_
  refine p_getR 4 c148_1 rfl kf376_40 ?_
  refine p_iload 5 c148_4 rfl rfl ?_
  refine p_iconst 6 c148_5 rfl ?_
  refine p_iadd 7 c148_6 rfl ?_
  refine p_iaX 8 (m 403 (wr (x1 + 3)).toNat) c148_7 rfl ka403 (rg_wr _) rfl (fun hx5484 => ?_)
  refine p_istore 9 c148_8 rfl rfl ?_
  refine p_aload 10 c148_9 rfl rfl ?_
  refine p_getR 13 c148_10 rfl kf376_40 ?_
  refine p_iload 14 c148_13 rfl rfl ?_
  refine p_iconst 15 c148_14 rfl ?_
  refine p_iadd 16 c148_15 rfl ?_
  refine p_iaX 17 (m 403 (wr (x1 + 5)).toNat) c148_16 rfl ka403 (rg_wr _) rfl (fun hx5485 => ?_)
  refine p_iconst 19 c148_17 rfl ?_
  refine p_idiv 20 c148_19 rfl ?_
  refine p_istore 21 c148_20 rfl rfl ?_
  refine p_aload 22 c148_21 rfl rfl ?_
  refine p_getR 25 c148_22 rfl kf376_40 ?_
  refine p_iload 26 c148_25 rfl rfl ?_
  refine p_iconst 27 c148_26 rfl ?_
  refine p_iadd 28 c148_27 rfl ?_
  refine p_iaX 29 (m 403 (wr (x1 + 5)).toNat) c148_28 rfl ka403 (rg_wr _) rfl (fun hx5486 => ?_)
  refine p_iconst 31 c148_29 rfl ?_
  refine p_irem 32 c148_31 rfl ?_
  refine p_istore 34 c148_32 rfl rfl ?_
  refine p_iconst 35 c148_34 rfl ?_
  refine p_istore 37 c148_35 rfl rfl ?_
  refine PW.loop (K := k) (pce := 205) (fun (l : Int) ml => B148_37 f x1 (m 403 (wr (x1 + 3)).toNat) (iDiv (m 403 (wr (x1 + 5)).toNat) 16) (iRem (m 403 (wr (x1 + 5)).toNat) 16) l ml) (fun (l : Int) j => [some (.ref 376), some (yI x1), some (yI (m 403 (wr (x1 + 3)).toNat)), some (yI (iDiv (m 403 (wr (x1 + 5)).toNat) 16)), some (yI (iRem (m 403 (wr (x1 + 5)).toNat) 16)), some (yI l), j 6, j 7]) (fun (l : Int) => rg l) (RM c) (fun (r' : Unit) m' => RM c m' → ∀ n' : Nat, (qV c (F148 f x1 m)) (.inl none) m' n') (fun k' hk' l j m' n' hl hI Hn' He' Hr' => tB148_37 (f := f) (by omega) gx1 (hR.rg _ _) (rg_to _) (rg_to _) hl hI (fun y0 y1 y2 m2 n2 e h0 hR2 => Hn' y0 (fun q => ([none, none, none, none, none, none, y1, y2] : List (Option Value)).getD q none) m2 n2 e h0 hR2) (fun y0 y1 y2 m2 n2 e h0 hR2 => He' y0 (fun q => ([none, none, none, none, none, none, y1, y2] : List (Option Value)).getD q none) m2 n2 e h0 hR2) (fun m2 e => Hr' () m2 e)) f k (by omega) (Nat.le_refl _) 0 (fun q => ([some (.ref 376), some (yI x1), some (yI (m 403 (wr (x1 + 3)).toNat)), some (yI (iDiv (m 403 (wr (x1 + 5)).toNat) 16)), some (yI (iRem (m 403 (wr (x1 + 5)).toNat) 16)), some (yI 0), none, none] : xL).getD q none) _ _ (rgD rfl) hR (fun l5543 j5546 m5549 n5548 e5545 hl5544 hR5550 k5547 hk5547 => ?_) (fun r' m' e' => ?_)
  · have hX5551 := hX.trans (bL_l e5545)
    refine p_iconst 206 c148_205 rfl ?_
    refine p_istore 208 c148_206 rfl rfl ?_
    refine PW.loop (K := k5547) (pce := 328) (fun (l : Int) ml => B148_208 f x1 (iDiv (m 403 (wr (x1 + 5)).toNat) 16) (iRem (m 403 (wr (x1 + 5)).toNat) 16) l ml) (fun (l : Int) j => [some (.ref 376), some (yI x1), j 2, some (yI (iDiv (m 403 (wr (x1 + 5)).toNat) 16)), some (yI (iRem (m 403 (wr (x1 + 5)).toNat) 16)), some (yI l), j 6, j 7]) (fun (l : Int) => rg l) (RM c) (fun (r' : Unit) m' => RM c m' → ∀ n' : Nat, (qV c (F148 f x1 m)) (.inl none) m' n') (fun k' hk' l j m' n' hl hI Hn' He' Hr' => tB148_208 (f := f) (by omega) gx1 (rg_to _) (rg_to _) hl hI (fun y0 y1 y2 y3 m2 n2 e h0 hR2 => Hn' y0 (fun q => ([none, none, y1, none, none, none, y2, y3] : List (Option Value)).getD q none) m2 n2 e h0 hR2) (fun y0 y1 y2 y3 m2 n2 e h0 hR2 => He' y0 (fun q => ([none, none, y1, none, none, none, y2, y3] : List (Option Value)).getD q none) m2 n2 e h0 hR2) (fun m2 e => Hr' () m2 e)) f k5547 (by omega) (Nat.le_refl _) 0 (fun q => ([some (.ref 376), some (yI x1), some (yI (m 403 (wr (x1 + 3)).toNat)), some (yI (iDiv (m 403 (wr (x1 + 5)).toNat) 16)), some (yI (iRem (m 403 (wr (x1 + 5)).toNat) 16)), some (yI 0), j5546 6, j5546 7] : xL).getD q none) _ _ (rgD rfl) hR5550 (fun l5641 j5644 m5647 n5646 e5643 hl5642 hR5648 k5645 hk5645 => ?_) (fun r' m' e' => ?_)
    · have hX5649 := hX5551.trans (bL_l e5643)
      exact p_return c148_328 (Hr _ hX5649 hR5648 _)
    · exact Hr m' (hX5551.trans (bL_r e'))
  · exact Hr m' (hX.trans (bL_r e'))
end
section
/-! FUNCTIONS OF THE METHODS: printed by wip/fn/dc.py -/
def J150_101 (f : Nat) (x1 : Int) (m : yM) : Option yM := (bU (F147 f x1 m) (fun m5394 => (some m5394)))
set_option maxRecDepth 100000 in
theorem tJ150_101 {L : Nat} {xs : Nat → Int32} {Q : xO → yM → Nat → Prop} {k d n : Nat} {c : yS3} {f : Nat} {x1 : Int} {m : yM} {j2 j3 j4 j5 : Option Value} (hk : k ≤ f) (gx1 : rg x1) (hR : RM c m) (Hr : ∀ m', J150_101 f x1 m = some m' → RM c m' → ∀ n', Q (.inl none) m' n') : PW (gZ L xs) k 150 d 101 [some (.ref 376), some (yI x1), j2, j3, j4, j5] [] m n Q := by
  have hX : J150_101 f x1 m = J150_101 f x1 m := rfl
  refine p_aload 102 c150_101 rfl rfl ?_
  refine p_iload 103 c150_102 rfl rfl ?_
  refine p_cV 106 [.ref 376, yI x1] [] c150_103 rfl rfl rfl (fun k' hk' d' => d147 (f := f) (by omega) gx1 hR) (fun m5394 hF5390 hR5395 n5261 k5260 hk5260 => ?_)
  have hX5393 := hX.trans (bU_s hF5390)
  refine p_goto 225 c150_106 rfl ?_
  exact p_return c150_225 (Hr _ hX5393 hR5395 _)
def J150_219 (f : Nat) (x1 : Int) (x3 : Int) (x4 : Int) (x5 : Int) (m : yM) : Option ((Int × yM) ⊕ ((Int × yM) ⊕ (Unit × yM))) := (some (.inl ((wr (x5 + 1)), m)))
set_option maxRecDepth 100000 in
theorem tJ150_219 {L : Nat} {xs : Nat → Int32} {Q : xO → yM → Nat → Prop} {k d n : Nat} {c : yS3} {f : Nat} {x1 : Int} {x3 : Int} {x4 : Int} {x5 : Int} {m : yM} {j2 : Option Value} (hk : k ≤ f) (gx1 : rg x1) (gx3 : rg x3) (gx4 : rg x4) (gx5 : rg x5) (hR : RM c m) (Hn : ∀ (y0 : Int) (z0 : Option Value) (m' : yM) (n' : Nat), J150_219 f x1 x3 x4 x5 m = some (.inl (y0, m')) → rg y0 → RM c m' → ∀ k', k' < k → PW (gZ L xs) k' 150 d 131 [some (.ref 376), some (yI x1), z0, some (yI x3), some (yI x4), some (yI y0)] [] m' n' Q) (He : ∀ (y0 : Int) (z0 : Option Value) (m' : yM) (n' : Nat), J150_219 f x1 x3 x4 x5 m = some (.inr (.inl (y0, m'))) → rg y0 → RM c m' → ∀ k', k' ≤ k → PW (gZ L xs) k' 150 d 225 [some (.ref 376), some (yI x1), z0, some (yI x3), some (yI x4), some (yI y0)] [] m' n' Q) (Hr : ∀ m', J150_219 f x1 x3 x4 x5 m = some (.inr (.inr ((), m'))) → RM c m' → ∀ n', Q (.inl none) m' n') : PW (gZ L xs) k 150 d 219 [some (.ref 376), some (yI x1), j2, some (yI x3), some (yI x4), some (yI x5)] [] m n Q := by
  have hX : J150_219 f x1 x3 x4 x5 m = J150_219 f x1 x3 x4 x5 m := rfl
  refine p_iinc 222 c150_219 rfl rfl rfl ?_
  refine p_gotoD 131 c150_222 rfl (fun k5424 hk5424 => ?_)
  exact Hn _ _ _ _ hX (rg_wr _) hR _ (by omega)
def B150_131 (f : Nat) (x1 : Int) (x3 : Int) (x4 : Int) (x5 : Int) (m : yM) : Option ((Int × yM) ⊕ ((Int × yM) ⊕ (Unit × yM))) := (if x5 < m 388 (m 376 18).toNat then (if F144 (m 404 (wr ((wr (12 * x4)) + x5)).toNat) m = 0 then (J150_219 f x1 x3 x4 x5 m) else (bP (F149 f (m 376 18) (m 400 (wr ((wr (12 * (m 376 18))) + x5)).toNat) (m 402 (wr ((wr (8 * (m 376 18))) + (m 403 (wr (x1 + 4)).toNat))).toNat) m) (fun r5457 => (if r5457 = 0 then (J150_219 f x1 x3 x4 x5 m) else (bU (F145 f x3 x5 m) (fun m5470 => (J150_219 f x1 x3 x4 x5 m5470))))))) else (some (.inr (.inl (x5, m)))))
set_option maxRecDepth 100000 in
theorem tB150_131 {L : Nat} {xs : Nat → Int32} {Q : xO → yM → Nat → Prop} {k d n : Nat} {c : yS3} {f : Nat} {x1 : Int} {x3 : Int} {x4 : Int} {x5 : Int} {m : yM} {j2 : Option Value} (hk : k ≤ f) (gx1 : rg x1) (gx3 : rg x3) (gx4 : rg x4) (gx5 : rg x5) (hR : RM c m) (Hn : ∀ (y0 : Int) (z0 : Option Value) (m' : yM) (n' : Nat), B150_131 f x1 x3 x4 x5 m = some (.inl (y0, m')) → rg y0 → RM c m' → ∀ k', k' < k → PW (gZ L xs) k' 150 d 131 [some (.ref 376), some (yI x1), z0, some (yI x3), some (yI x4), some (yI y0)] [] m' n' Q) (He : ∀ (y0 : Int) (z0 : Option Value) (m' : yM) (n' : Nat), B150_131 f x1 x3 x4 x5 m = some (.inr (.inl (y0, m'))) → rg y0 → RM c m' → ∀ k', k' ≤ k → PW (gZ L xs) k' 150 d 225 [some (.ref 376), some (yI x1), z0, some (yI x3), some (yI x4), some (yI y0)] [] m' n' Q) (Hr : ∀ m', B150_131 f x1 x3 x4 x5 m = some (.inr (.inr ((), m'))) → RM c m' → ∀ n', Q (.inl none) m' n') : PW (gZ L xs) k 150 d 131 [some (.ref 376), some (yI x1), j2, some (yI x3), some (yI x4), some (yI x5)] [] m n Q := by
  have hX : B150_131 f x1 x3 x4 x5 m = B150_131 f x1 x3 x4 x5 m := rfl
  refine p_iload 133 c150_131 rfl rfl ?_
  refine p_aload 134 c150_133 rfl rfl ?_
  refine p_getR 137 c150_134 rfl kf376_25 ?_
  refine p_aload 138 c150_137 rfl rfl ?_
  refine p_getX 141 (m 376 18) c150_138 rfl kf376_18 rfl ?_
  refine p_iaX 142 (m 388 (m 376 18).toNat) c150_141 rfl ka388 (hR.rg _ _) rfl (fun hx5410 => ?_)
  refine p_icmp 225 145 c150_142 rfl rfl ((yc_ge gx5 (hR.rg _ _)).trans Int.not_lt.symm) (fun hb5411 k5412 hk5412 => ?_) (fun hb5411 k5413 hk5413 => ?_)
  · have hX5414 := hX.trans (if_neg hb5411)
    exact He _ _ _ _ hX5414 gx5 hR _ (by omega)
  · have hX5415 := hX.trans (if_pos (Classical.not_not.mp hb5411))
    refine p_aload 146 c150_145 rfl rfl ?_
    refine p_aload 147 c150_146 rfl rfl ?_
    refine p_getR 150 c150_147 rfl kf376_41 ?_
    refine p_iconst 152 c150_150 rfl ?_
    refine p_iload 154 c150_152 rfl rfl ?_
    refine p_imul 155 c150_154 rfl ?_
    refine p_iload 157 c150_155 rfl rfl ?_
    refine p_iadd 158 c150_157 rfl ?_
    refine p_iaX 159 (m 404 (wr ((wr (12 * x4)) + x5)).toNat) c150_158 rfl ka404 (rg_wr _) rfl (fun hx5416 => ?_)
    refine p_cX 162 [.ref 376, yI (m 404 (wr ((wr (12 * x4)) + x5)).toNat)] [] c150_159 rfl rfl rfl (fun k' hk' d' => d144 (hR.rg _ _) hR) (fun hg5419 n5418 k5417 hk5417 => ?_)
    refine p_if 219 165 c150_162 rfl rfl (yz_eq hg5419) (fun hb5420 k5421 hk5421 => ?_) (fun hb5420 k5422 hk5422 => ?_)
    · have hX5423 := hX5415.trans (if_pos hb5420)
      exact tJ150_219 (f := f) (by omega) gx1 gx3 gx4 gx5 hR (fun y0 y1 m' n' e' h0 hR' k' hk' => Hn y0 y1 m' n' (hX5423.trans e') h0 hR' k' (by omega)) (fun y0 y1 m' n' e' h0 hR' k' hk' => He y0 y1 m' n' (hX5423.trans e') h0 hR' k' (by omega)) (fun m' e' => Hr m' (hX5423.trans e'))
    · have hX5425 := hX5415.trans (if_neg hb5420)
      refine p_aload 166 c150_165 rfl rfl ?_
      refine p_aload 167 c150_166 rfl rfl ?_
      refine p_getX 170 (m 376 18) c150_167 rfl kf376_18 rfl ?_
      refine p_aload 171 c150_170 rfl rfl ?_
      refine p_getR 174 c150_171 rfl kf376_37 ?_
      refine p_iconst 176 c150_174 rfl ?_
      refine p_aload 177 c150_176 rfl rfl ?_
      refine p_getX 180 (m 376 18) c150_177 rfl kf376_18 rfl ?_
      refine p_imul 181 c150_180 rfl ?_
      refine p_iload 183 c150_181 rfl rfl ?_
      refine p_iadd 184 c150_183 rfl ?_
      refine p_iaX 185 (m 400 (wr ((wr (12 * (m 376 18))) + x5)).toNat) c150_184 rfl ka400 (rg_wr _) rfl (fun hx5426 => ?_)
      refine p_aload 186 c150_185 rfl rfl ?_
      refine p_getR 189 c150_186 rfl kf376_39 ?_
      refine p_iconst 191 c150_189 rfl ?_
      refine p_aload 192 c150_191 rfl rfl ?_
      refine p_getX 195 (m 376 18) c150_192 rfl kf376_18 rfl ?_
      refine p_imul 196 c150_195 rfl ?_
      refine p_aload 197 c150_196 rfl rfl ?_
      refine p_getR 200 c150_197 rfl kf376_40 ?_
      refine p_iload 201 c150_200 rfl rfl ?_
      refine p_iconst 202 c150_201 rfl ?_
      refine p_iadd 203 c150_202 rfl ?_
      refine p_iaX 204 (m 403 (wr (x1 + 4)).toNat) c150_203 rfl ka403 (rg_wr _) rfl (fun hx5427 => ?_)
      refine p_iadd 205 c150_204 rfl ?_
      refine p_iaX 206 (m 402 (wr ((wr (8 * (m 376 18))) + (m 403 (wr (x1 + 4)).toNat))).toNat) c150_205 rfl ka402 (rg_wr _) rfl (fun hx5428 => ?_)
      refine p_cO 209 [.ref 376, yI (m 376 18), yI (m 400 (wr ((wr (12 * (m 376 18))) + x5)).toNat), yI (m 402 (wr ((wr (8 * (m 376 18))) + (m 403 (wr (x1 + 4)).toNat))).toNat)] [] c150_206 rfl rfl rfl (fun k' hk' d' => d149 (f := f) (by omega) (hR.rg _ _) (hR.rg _ _) (hR.rg _ _) hR) (fun r5457 hF5455 hg5456 n5430 k5429 hk5429 => ?_)
      have hX5458 := hX5425.trans (bP_s hF5455)
      refine p_if 219 212 c150_209 rfl rfl (yz_eq hg5456) (fun hb5459 k5460 hk5460 => ?_) (fun hb5459 k5461 hk5461 => ?_)
      · have hX5462 := hX5458.trans (if_pos hb5459)
        exact tJ150_219 (f := f) (by omega) gx1 gx3 gx4 gx5 hR (fun y0 y1 m' n' e' h0 hR' k' hk' => Hn y0 y1 m' n' (hX5462.trans e') h0 hR' k' (by omega)) (fun y0 y1 m' n' e' h0 hR' k' hk' => He y0 y1 m' n' (hX5462.trans e') h0 hR' k' (by omega)) (fun m' e' => Hr m' (hX5462.trans e'))
      · have hX5463 := hX5458.trans (if_neg hb5459)
        refine p_aload 213 c150_212 rfl rfl ?_
        refine p_iload 214 c150_213 rfl rfl ?_
        refine p_iload 216 c150_214 rfl rfl ?_
        refine p_cV 219 [.ref 376, yI x3, yI x5] [] c150_216 rfl rfl rfl (fun k' hk' d' => d145 (f := f) (by omega) gx3 gx5 hR) (fun m5470 hF5466 hR5471 n5465 k5464 hk5464 => ?_)
        have hX5469 := hX5463.trans (bU_s hF5466)
        exact tJ150_219 (f := f) (by omega) gx1 gx3 gx4 gx5 hR5471 (fun y0 y1 m' n' e' h0 hR' k' hk' => Hn y0 y1 m' n' (hX5469.trans e') h0 hR' k' (by omega)) (fun y0 y1 m' n' e' h0 hR' k' hk' => He y0 y1 m' n' (hX5469.trans e') h0 hR' k' (by omega)) (fun m' e' => Hr m' (hX5469.trans e'))
def F150 (f : Nat) (x1 : Int) (m : yM) : Option yM := (if m 403 x1.toNat = 1 then (bU (F145 f (m 403 (wr (x1 + 2)).toNat) (m 403 (wr (x1 + 3)).toNat) m) (fun m5684 => (some m5684))) else (if m 403 x1.toNat = 2 then (bU (F146 f (m 403 (wr (x1 + 2)).toNat) (m 403 (wr (x1 + 3)).toNat) m) (fun m5675 => (some m5675))) else (if m 403 x1.toNat = 6 then (bU (F146 f (m 398 (wr ((wr (10 * (m 376 18))) + (m 403 (wr (x1 + 1)).toNat))).toNat) (m 403 (wr (x1 + 2)).toNat) m) (fun m5666 => (some m5666))) else (if m 403 x1.toNat = 4 then (J150_101 f x1 m) else (if m 403 x1.toNat = 5 then (J150_101 f x1 m) else (if m 403 x1.toNat = 7 then (bU (F148 f x1 m) (fun m5654 => (some m5654))) else (if m 403 x1.toNat = 3 then (bL (yloop (fun (l : Int) ml => B150_131 f x1 (m 403 (wr (x1 + 2)).toNat) (m 403 (wr (x1 + 3)).toNat) l ml) f 0 m) (fun l5472 m5478 => (some m5478)) (fun _ mr => some mr)) else (some m))))))))
set_option maxRecDepth 100000 in
theorem d150 {L : Nat} {xs : Nat → Int32} {k d n : Nat} {c : yS3} {f : Nat} {x1 : Int} {m : yM} (hk : k ≤ f) (gx1 : rg x1) (hR : RM c m) : PC (gZ L xs) k d 150 [.ref 376, yI x1] m n (qV c (F150 f x1 m)) := by
  have hX : F150 f x1 m = F150 f x1 m := rfl
  have Hr : ∀ m', F150 f x1 m = some m' → RM c m' → ∀ n' : Nat, (qV c (F150 f x1 m)) (.inl none) m' n' := fun m' e h n' => ⟨rfl, h, e⟩
  refine PC.mk [some (.ref 376), some (yI x1), none, none, none, none] kn150 rfl ?_
  refine p_aload 1 c150_0 rfl rfl ?_
  refine p_getR 4 c150_1 rfl kf376_40 ?_
  refine p_iload 5 c150_4 rfl rfl ?_
  refine p_iaX 6 (m 403 x1.toNat) c150_5 rfl ka403 gx1 rfl (fun hx5241 => ?_)
  refine p_istore 7 c150_6 rfl rfl ?_
  refine p_aload 8 c150_7 rfl rfl ?_
  refine p_getR 11 c150_8 rfl kf376_40 ?_
  refine p_iload 12 c150_11 rfl rfl ?_
  refine p_iconst 13 c150_12 rfl ?_
  refine p_iadd 14 c150_13 rfl ?_
  refine p_iaX 15 (m 403 (wr (x1 + 2)).toNat) c150_14 rfl ka403 (rg_wr _) rfl (fun hx5242 => ?_)
  refine p_istore 16 c150_15 rfl rfl ?_
  refine p_aload 17 c150_16 rfl rfl ?_
  refine p_getR 20 c150_17 rfl kf376_40 ?_
  refine p_iload 21 c150_20 rfl rfl ?_
  refine p_iconst 22 c150_21 rfl ?_
  refine p_iadd 23 c150_22 rfl ?_
  refine p_iaX 24 (m 403 (wr (x1 + 3)).toNat) c150_23 rfl ka403 (rg_wr _) rfl (fun hx5243 => ?_)
  refine p_istore 26 c150_24 rfl rfl ?_
  refine p_iload 27 c150_26 rfl rfl ?_
  refine p_iconst 28 c150_27 rfl ?_
  refine p_icmp 41 31 c150_28 rfl rfl (yc_ne (hR.rg _ _) (rgD rfl)) (fun hb5244 k5245 hk5245 => ?_) (fun hb5244 k5246 hk5246 => ?_)
  · have hX5247 := hX.trans (if_neg hb5244)
    refine p_iload 42 c150_41 rfl rfl ?_
    refine p_iconst 43 c150_42 rfl ?_
    refine p_icmp 56 46 c150_43 rfl rfl (yc_ne (hR.rg _ _) (rgD rfl)) (fun hb5248 k5249 hk5249 => ?_) (fun hb5248 k5250 hk5250 => ?_)
    · have hX5251 := hX5247.trans (if_neg hb5248)
      refine p_iload 57 c150_56 rfl rfl ?_
      refine p_iconst 59 c150_57 rfl ?_
      refine p_icmp 91 62 c150_59 rfl rfl (yc_ne (hR.rg _ _) (rgD rfl)) (fun hb5252 k5253 hk5253 => ?_) (fun hb5252 k5254 hk5254 => ?_)
      · have hX5255 := hX5251.trans (if_neg hb5252)
        refine p_iload 92 c150_91 rfl rfl ?_
        refine p_iconst 93 c150_92 rfl ?_
        refine p_icmp 101 96 c150_93 rfl rfl (yc_eq (hR.rg _ _) (rgD rfl)) (fun hb5256 k5257 hk5257 => ?_) (fun hb5256 k5258 hk5258 => ?_)
        · have hX5259 := hX5255.trans (if_pos hb5256)
          exact tJ150_101 (f := f) (by omega) gx1 hR (fun m' e' => Hr m' (hX5259.trans e'))
        · have hX5396 := hX5255.trans (if_neg hb5256)
          refine p_iload 97 c150_96 rfl rfl ?_
          refine p_iconst 98 c150_97 rfl ?_
          refine p_icmp 109 101 c150_98 rfl rfl (yc_ne (hR.rg _ _) (rgD rfl)) (fun hb5397 k5398 hk5398 => ?_) (fun hb5397 k5399 hk5399 => ?_)
          · have hX5400 := hX5396.trans (if_neg hb5397)
            refine p_iload 110 c150_109 rfl rfl ?_
            refine p_iconst 112 c150_110 rfl ?_
            refine p_icmp 123 115 c150_112 rfl rfl (yc_ne (hR.rg _ _) (rgD rfl)) (fun hb5401 k5402 hk5402 => ?_) (fun hb5401 k5403 hk5403 => ?_)
            · have hX5404 := hX5400.trans (if_neg hb5401)
              refine p_iload 124 c150_123 rfl rfl ?_
              refine p_iconst 125 c150_124 rfl ?_
              refine p_icmp 225 128 c150_125 rfl rfl (yc_ne (hR.rg _ _) (rgD rfl)) (fun hb5405 k5406 hk5406 => ?_) (fun hb5405 k5407 hk5407 => ?_)
              · have hX5408 := hX5404.trans (if_neg hb5405)
                exact p_return c150_225 (Hr _ hX5408 hR _)
              · have hX5409 := hX5404.trans (if_pos (Classical.not_not.mp hb5405))
                refine p_iconst 129 c150_128 rfl ?_
                refine p_istore 131 c150_129 rfl rfl ?_
                refine PW.loop (K := k5407) (pce := 225) (fun (l : Int) ml => B150_131 f x1 (m 403 (wr (x1 + 2)).toNat) (m 403 (wr (x1 + 3)).toNat) l ml) (fun (l : Int) j => [some (.ref 376), some (yI x1), j 2, some (yI (m 403 (wr (x1 + 2)).toNat)), some (yI (m 403 (wr (x1 + 3)).toNat)), some (yI l)]) (fun (l : Int) => rg l) (RM c) (fun (r' : Unit) m' => RM c m' → ∀ n' : Nat, (qV c (F150 f x1 m)) (.inl none) m' n') (fun k' hk' l j m' n' hl hI Hn' He' Hr' => tB150_131 (f := f) (by omega) gx1 (hR.rg _ _) (hR.rg _ _) hl hI (fun y0 y1 m2 n2 e h0 hR2 => Hn' y0 (fun q => ([none, none, y1, none, none, none] : List (Option Value)).getD q none) m2 n2 e h0 hR2) (fun y0 y1 m2 n2 e h0 hR2 => He' y0 (fun q => ([none, none, y1, none, none, none] : List (Option Value)).getD q none) m2 n2 e h0 hR2) (fun m2 e => Hr' () m2 e)) f k5407 (by omega) (Nat.le_refl _) 0 (fun q => ([some (.ref 376), some (yI x1), some (yI (m 403 x1.toNat)), some (yI (m 403 (wr (x1 + 2)).toNat)), some (yI (m 403 (wr (x1 + 3)).toNat)), some (yI 0)] : xL).getD q none) _ _ (rgD rfl) hR (fun l5472 j5475 m5478 n5477 e5474 hl5473 hR5479 k5476 hk5476 => ?_) (fun r' m' e' => ?_)
                · have hX5480 := hX5409.trans (bL_l e5474)
                  exact p_return c150_225 (Hr _ hX5480 hR5479 _)
                · exact Hr m' (hX5409.trans (bL_r e'))
            · have hX5481 := hX5400.trans (if_pos (Classical.not_not.mp hb5401))
              refine p_aload 116 c150_115 rfl rfl ?_
              refine p_iload 117 c150_116 rfl rfl ?_
              refine p_cV 120 [.ref 376, yI x1] [] c150_117 rfl rfl rfl (fun k' hk' d' => d148 (f := f) (by omega) gx1 hR) (fun m5654 hF5650 hR5655 n5483 k5482 hk5482 => ?_)
              have hX5653 := hX5481.trans (bU_s hF5650)
              refine p_goto 225 c150_120 rfl ?_
              exact p_return c150_225 (Hr _ hX5653 hR5655 _)
          · have hX5656 := hX5396.trans (if_pos (Classical.not_not.mp hb5397))
            exact tJ150_101 (f := f) (by omega) gx1 hR (fun m' e' => Hr m' (hX5656.trans e'))
      · have hX5657 := hX5251.trans (if_pos (Classical.not_not.mp hb5252))
        refine p_aload 63 c150_62 rfl rfl ?_
        refine p_aload 64 c150_63 rfl rfl ?_
        refine p_getR 67 c150_64 rfl kf376_35 ?_
        refine p_iconst 69 c150_67 rfl ?_
        refine p_aload 70 c150_69 rfl rfl ?_
        refine p_getX 73 (m 376 18) c150_70 rfl kf376_18 rfl ?_
        refine p_imul 74 c150_73 rfl ?_
        refine p_aload 75 c150_74 rfl rfl ?_
        refine p_getR 78 c150_75 rfl kf376_40 ?_
        refine p_iload 79 c150_78 rfl rfl ?_
        refine p_iconst 80 c150_79 rfl ?_
        refine p_iadd 81 c150_80 rfl ?_
        refine p_iaX 82 (m 403 (wr (x1 + 1)).toNat) c150_81 rfl ka403 (rg_wr _) rfl (fun hx5658 => ?_)
        refine p_iadd 83 c150_82 rfl ?_
        refine p_iaX 84 (m 398 (wr ((wr (10 * (m 376 18))) + (m 403 (wr (x1 + 1)).toNat))).toNat) c150_83 rfl ka398 (rg_wr _) rfl (fun hx5659 => ?_)
        refine p_iload 85 c150_84 rfl rfl ?_
        refine p_cV 88 [.ref 376, yI (m 398 (wr ((wr (10 * (m 376 18))) + (m 403 (wr (x1 + 1)).toNat))).toNat), yI (m 403 (wr (x1 + 2)).toNat)] [] c150_85 rfl rfl rfl (fun k' hk' d' => d146 (f := f) (by omega) (hR.rg _ _) (hR.rg _ _) hR) (fun m5666 hF5662 hR5667 n5661 k5660 hk5660 => ?_)
        have hX5665 := hX5657.trans (bU_s hF5662)
        refine p_goto 225 c150_88 rfl ?_
        exact p_return c150_225 (Hr _ hX5665 hR5667 _)
    · have hX5668 := hX5247.trans (if_pos (Classical.not_not.mp hb5248))
      refine p_aload 47 c150_46 rfl rfl ?_
      refine p_iload 48 c150_47 rfl rfl ?_
      refine p_iload 50 c150_48 rfl rfl ?_
      refine p_cV 53 [.ref 376, yI (m 403 (wr (x1 + 2)).toNat), yI (m 403 (wr (x1 + 3)).toNat)] [] c150_50 rfl rfl rfl (fun k' hk' d' => d146 (f := f) (by omega) (hR.rg _ _) (hR.rg _ _) hR) (fun m5675 hF5671 hR5676 n5670 k5669 hk5669 => ?_)
      have hX5674 := hX5668.trans (bU_s hF5671)
      refine p_goto 225 c150_53 rfl ?_
      exact p_return c150_225 (Hr _ hX5674 hR5676 _)
  · have hX5677 := hX.trans (if_pos (Classical.not_not.mp hb5244))
    refine p_aload 32 c150_31 rfl rfl ?_
    refine p_iload 33 c150_32 rfl rfl ?_
    refine p_iload 35 c150_33 rfl rfl ?_
    refine p_cV 38 [.ref 376, yI (m 403 (wr (x1 + 2)).toNat), yI (m 403 (wr (x1 + 3)).toNat)] [] c150_35 rfl rfl rfl (fun k' hk' d' => d145 (f := f) (by omega) (hR.rg _ _) (hR.rg _ _) hR) (fun m5684 hF5680 hR5685 n5679 k5678 hk5678 => ?_)
    have hX5683 := hX5677.trans (bU_s hF5680)
    refine p_goto 225 c150_38 rfl ?_
    exact p_return c150_225 (Hr _ hX5683 hR5685 _)
def B151_2 (f : Nat) (x1 : Int) (m : yM) : Option ((Int × yM) ⊕ ((Int × yM) ⊕ (Unit × yM))) := (if x1 < 576 then (some (.inl ((wr (x1 + 1)), yup m 404 x1.toNat ((-1))))) else (some (.inr (.inl (x1, m)))))
set_option maxRecDepth 100000 in
theorem tB151_2 {L : Nat} {xs : Nat → Int32} {Q : xO → yM → Nat → Prop} {k d n : Nat} {c : yS3} {f : Nat} {x1 : Int} {m : yM} {j2 j3 : Option Value} (hk : k ≤ f) (gx1 : rg x1) (hR : RM c m) (Hn : ∀ (y0 : Int) (z0 z1 : Option Value) (m' : yM) (n' : Nat), B151_2 f x1 m = some (.inl (y0, m')) → rg y0 → RM c m' → ∀ k', k' < k → PW (gZ L xs) k' 151 d 2 [some (.ref 376), some (yI y0), z0, z1] [] m' n' Q) (He : ∀ (y0 : Int) (z0 z1 : Option Value) (m' : yM) (n' : Nat), B151_2 f x1 m = some (.inr (.inl (y0, m'))) → rg y0 → RM c m' → ∀ k', k' ≤ k → PW (gZ L xs) k' 151 d 22 [some (.ref 376), some (yI y0), z0, z1] [] m' n' Q) (Hr : ∀ m', B151_2 f x1 m = some (.inr (.inr ((), m'))) → RM c m' → ∀ n', Q (.inl none) m' n') : PW (gZ L xs) k 151 d 2 [some (.ref 376), some (yI x1), j2, j3] [] m n Q := by
  have hX : B151_2 f x1 m = B151_2 f x1 m := rfl
  refine p_iload 3 c151_2 rfl rfl ?_
  refine p_iconst 6 c151_3 rfl ?_
  refine p_icmp 22 9 c151_6 rfl rfl ((yc_ge gx1 (rgD rfl)).trans Int.not_lt.symm) (fun hb5093 k5094 hk5094 => ?_) (fun hb5093 k5095 hk5095 => ?_)
  · have hX5096 := hX.trans (if_neg hb5093)
    exact He _ _ _ _ _ hX5096 gx1 hR _ (by omega)
  · have hX5097 := hX.trans (if_pos (Classical.not_not.mp hb5093))
    refine p_aload 10 c151_9 rfl rfl ?_
    refine p_getR 13 c151_10 rfl kf376_41 ?_
    refine p_iload 14 c151_13 rfl rfl ?_
    refine p_iconst 15 c151_14 rfl ?_
    refine p_iaS 16 c151_15 rfl ka404 gx1 ((-1)) (nar0 (rgD rfl)) (fun hx5098 => ?_)
    have hR5099 := hR.up 404 x1.toNat (v := (-1)) (nselA (by decide)) (rgD rfl)
    refine p_iinc 19 c151_16 rfl rfl rfl ?_
    refine p_gotoD 2 c151_19 rfl (fun k5100 hk5100 => ?_)
    exact Hn _ _ _ _ _ hX5097 (rg_wr _) hR5099 _ (by omega)
def B151_24 (f : Nat) (x1 : Int) (m : yM) : Option ((Int × yM) ⊕ ((Int × yM) ⊕ (Unit × yM))) := (if x1 < 1152 then (some (.inl ((wr (x1 + 1)), yup m 405 x1.toNat ((-1))))) else (some (.inr (.inl (x1, m)))))
set_option maxRecDepth 100000 in
theorem tB151_24 {L : Nat} {xs : Nat → Int32} {Q : xO → yM → Nat → Prop} {k d n : Nat} {c : yS3} {f : Nat} {x1 : Int} {m : yM} {j2 j3 : Option Value} (hk : k ≤ f) (gx1 : rg x1) (hR : RM c m) (Hn : ∀ (y0 : Int) (z0 z1 : Option Value) (m' : yM) (n' : Nat), B151_24 f x1 m = some (.inl (y0, m')) → rg y0 → RM c m' → ∀ k', k' < k → PW (gZ L xs) k' 151 d 24 [some (.ref 376), some (yI y0), z0, z1] [] m' n' Q) (He : ∀ (y0 : Int) (z0 z1 : Option Value) (m' : yM) (n' : Nat), B151_24 f x1 m = some (.inr (.inl (y0, m'))) → rg y0 → RM c m' → ∀ k', k' ≤ k → PW (gZ L xs) k' 151 d 44 [some (.ref 376), some (yI y0), z0, z1] [] m' n' Q) (Hr : ∀ m', B151_24 f x1 m = some (.inr (.inr ((), m'))) → RM c m' → ∀ n', Q (.inl none) m' n') : PW (gZ L xs) k 151 d 24 [some (.ref 376), some (yI x1), j2, j3] [] m n Q := by
  have hX : B151_24 f x1 m = B151_24 f x1 m := rfl
  refine p_iload 25 c151_24 rfl rfl ?_
  refine p_iconst 28 c151_25 rfl ?_
  refine p_icmp 44 31 c151_28 rfl rfl ((yc_ge gx1 (rgD rfl)).trans Int.not_lt.symm) (fun hb5110 k5111 hk5111 => ?_) (fun hb5110 k5112 hk5112 => ?_)
  · have hX5113 := hX.trans (if_neg hb5110)
    exact He _ _ _ _ _ hX5113 gx1 hR _ (by omega)
  · have hX5114 := hX.trans (if_pos (Classical.not_not.mp hb5110))
    refine p_aload 32 c151_31 rfl rfl ?_
    refine p_getR 35 c151_32 rfl kf376_42 ?_
    refine p_iload 36 c151_35 rfl rfl ?_
    refine p_iconst 37 c151_36 rfl ?_
    refine p_iaS 38 c151_37 rfl ka405 gx1 ((-1)) (nar0 (rgD rfl)) (fun hx5115 => ?_)
    have hR5116 := hR.up 405 x1.toNat (v := (-1)) (nselA (by decide)) (rgD rfl)
    refine p_iinc 41 c151_38 rfl rfl rfl ?_
    refine p_gotoD 24 c151_41 rfl (fun k5117 hk5117 => ?_)
    exact Hn _ _ _ _ _ hX5114 (rg_wr _) hR5116 _ (by omega)
def B151_46 (f : Nat) (x1 : Int) (m : yM) : Option ((Int × yM) ⊕ ((Int × yM) ⊕ (Unit × yM))) := (if x1 < 120 then (some (.inl ((wr (x1 + 1)), yup m 406 x1.toNat ((-1))))) else (some (.inr (.inl (x1, m)))))
set_option maxRecDepth 100000 in
theorem tB151_46 {L : Nat} {xs : Nat → Int32} {Q : xO → yM → Nat → Prop} {k d n : Nat} {c : yS3} {f : Nat} {x1 : Int} {m : yM} {j2 j3 : Option Value} (hk : k ≤ f) (gx1 : rg x1) (hR : RM c m) (Hn : ∀ (y0 : Int) (z0 z1 : Option Value) (m' : yM) (n' : Nat), B151_46 f x1 m = some (.inl (y0, m')) → rg y0 → RM c m' → ∀ k', k' < k → PW (gZ L xs) k' 151 d 46 [some (.ref 376), some (yI y0), z0, z1] [] m' n' Q) (He : ∀ (y0 : Int) (z0 z1 : Option Value) (m' : yM) (n' : Nat), B151_46 f x1 m = some (.inr (.inl (y0, m'))) → rg y0 → RM c m' → ∀ k', k' ≤ k → PW (gZ L xs) k' 151 d 65 [some (.ref 376), some (yI y0), z0, z1] [] m' n' Q) (Hr : ∀ m', B151_46 f x1 m = some (.inr (.inr ((), m'))) → RM c m' → ∀ n', Q (.inl none) m' n') : PW (gZ L xs) k 151 d 46 [some (.ref 376), some (yI x1), j2, j3] [] m n Q := by
  have hX : B151_46 f x1 m = B151_46 f x1 m := rfl
  refine p_iload 47 c151_46 rfl rfl ?_
  refine p_iconst 49 c151_47 rfl ?_
  refine p_icmp 65 52 c151_49 rfl rfl ((yc_ge gx1 (rgD rfl)).trans Int.not_lt.symm) (fun hb5127 k5128 hk5128 => ?_) (fun hb5127 k5129 hk5129 => ?_)
  · have hX5130 := hX.trans (if_neg hb5127)
    exact He _ _ _ _ _ hX5130 gx1 hR _ (by omega)
  · have hX5131 := hX.trans (if_pos (Classical.not_not.mp hb5127))
    refine p_aload 53 c151_52 rfl rfl ?_
    refine p_getR 56 c151_53 rfl kf376_43 ?_
    refine p_iload 57 c151_56 rfl rfl ?_
    refine p_iconst 58 c151_57 rfl ?_
    refine p_iaS 59 c151_58 rfl ka406 gx1 ((-1)) (nar0 (rgD rfl)) (fun hx5132 => ?_)
    have hR5133 := hR.up 406 x1.toNat (v := (-1)) (nselA (by decide)) (rgD rfl)
    refine p_iinc 62 c151_59 rfl rfl rfl ?_
    refine p_gotoD 46 c151_62 rfl (fun k5134 hk5134 => ?_)
    exact Hn _ _ _ _ _ hX5131 (rg_wr _) hR5133 _ (by omega)
def B151_67 (f : Nat) (x1 : Int) (m : yM) : Option ((Int × yM) ⊕ ((Int × yM) ⊕ (Unit × yM))) := (if x1 < 10 then (some (.inl ((wr (x1 + 1)), yup m 407 x1.toNat ((-1))))) else (some (.inr (.inl (x1, m)))))
set_option maxRecDepth 100000 in
theorem tB151_67 {L : Nat} {xs : Nat → Int32} {Q : xO → yM → Nat → Prop} {k d n : Nat} {c : yS3} {f : Nat} {x1 : Int} {m : yM} {j2 j3 : Option Value} (hk : k ≤ f) (gx1 : rg x1) (hR : RM c m) (Hn : ∀ (y0 : Int) (z0 z1 : Option Value) (m' : yM) (n' : Nat), B151_67 f x1 m = some (.inl (y0, m')) → rg y0 → RM c m' → ∀ k', k' < k → PW (gZ L xs) k' 151 d 67 [some (.ref 376), some (yI y0), z0, z1] [] m' n' Q) (He : ∀ (y0 : Int) (z0 z1 : Option Value) (m' : yM) (n' : Nat), B151_67 f x1 m = some (.inr (.inl (y0, m'))) → rg y0 → RM c m' → ∀ k', k' ≤ k → PW (gZ L xs) k' 151 d 86 [some (.ref 376), some (yI y0), z0, z1] [] m' n' Q) (Hr : ∀ m', B151_67 f x1 m = some (.inr (.inr ((), m'))) → RM c m' → ∀ n', Q (.inl none) m' n') : PW (gZ L xs) k 151 d 67 [some (.ref 376), some (yI x1), j2, j3] [] m n Q := by
  have hX : B151_67 f x1 m = B151_67 f x1 m := rfl
  refine p_iload 68 c151_67 rfl rfl ?_
  refine p_iconst 70 c151_68 rfl ?_
  refine p_icmp 86 73 c151_70 rfl rfl ((yc_ge gx1 (rgD rfl)).trans Int.not_lt.symm) (fun hb5144 k5145 hk5145 => ?_) (fun hb5144 k5146 hk5146 => ?_)
  · have hX5147 := hX.trans (if_neg hb5144)
    exact He _ _ _ _ _ hX5147 gx1 hR _ (by omega)
  · have hX5148 := hX.trans (if_pos (Classical.not_not.mp hb5144))
    refine p_aload 74 c151_73 rfl rfl ?_
    refine p_getR 77 c151_74 rfl kf376_44 ?_
    refine p_iload 78 c151_77 rfl rfl ?_
    refine p_iconst 79 c151_78 rfl ?_
    refine p_iaS 80 c151_79 rfl ka407 gx1 ((-1)) (nar0 (rgD rfl)) (fun hx5149 => ?_)
    have hR5150 := hR.up 407 x1.toNat (v := (-1)) (nselA (by decide)) (rgD rfl)
    refine p_iinc 83 c151_80 rfl rfl rfl ?_
    refine p_gotoD 67 c151_83 rfl (fun k5151 hk5151 => ?_)
    exact Hn _ _ _ _ _ hX5148 (rg_wr _) hR5150 _ (by omega)
def J151_219 (f : Nat) (x2 : Int) (m : yM) : Option ((Int × yM) ⊕ ((Int × yM) ⊕ (Unit × yM))) := (some (.inl ((wr (x2 + 1)), m)))
set_option maxRecDepth 100000 in
theorem tJ151_219 {L : Nat} {xs : Nat → Int32} {Q : xO → yM → Nat → Prop} {k d n : Nat} {c : yS3} {f : Nat} {x2 : Int} {m : yM} {j1 j3 : Option Value} (hk : k ≤ f) (gx2 : rg x2) (hR : RM c m) (Hn : ∀ (y0 : Int) (z0 z1 : Option Value) (m' : yM) (n' : Nat), J151_219 f x2 m = some (.inl (y0, m')) → rg y0 → RM c m' → ∀ k', k' < k → PW (gZ L xs) k' 151 d 167 [some (.ref 376), z0, some (yI y0), z1] [] m' n' Q) (He : ∀ (y0 : Int) (z0 z1 : Option Value) (m' : yM) (n' : Nat), J151_219 f x2 m = some (.inr (.inl (y0, m'))) → rg y0 → RM c m' → ∀ k', k' ≤ k → PW (gZ L xs) k' 151 d 225 [some (.ref 376), z0, some (yI y0), z1] [] m' n' Q) (Hr : ∀ m', J151_219 f x2 m = some (.inr (.inr ((), m'))) → RM c m' → ∀ n', Q (.inl none) m' n') : PW (gZ L xs) k 151 d 219 [some (.ref 376), j1, some (yI x2), j3] [] m n Q := by
  have hX : J151_219 f x2 m = J151_219 f x2 m := rfl
  refine p_iinc 222 c151_219 rfl rfl rfl ?_
  refine p_gotoD 167 c151_222 rfl (fun k5237 hk5237 => ?_)
  exact Hn _ _ _ _ _ hX (rg_wr _) hR _ (by omega)
def B151_167 (f : Nat) (x2 : Int) (m : yM) : Option ((Int × yM) ⊕ ((Int × yM) ⊕ (Unit × yM))) := (if x2 < m 390 (m 376 18).toNat then (if F144 (m 407 (m 403 (wr ((wr ((wr (1000 * (m 376 18))) + (wr (8 * x2)))) + 1)).toNat).toNat) m = 0 then (J151_219 f x2 m) else (bU (F150 f (wr ((wr (1000 * (m 376 18))) + (wr (8 * x2)))) m) (fun m5690 => (J151_219 f x2 m5690)))) else (some (.inr (.inl (x2, m)))))
set_option maxRecDepth 100000 in
theorem tB151_167 {L : Nat} {xs : Nat → Int32} {Q : xO → yM → Nat → Prop} {k d n : Nat} {c : yS3} {f : Nat} {x2 : Int} {m : yM} {j1 j3 : Option Value} (hk : k ≤ f) (gx2 : rg x2) (hR : RM c m) (Hn : ∀ (y0 : Int) (z0 z1 : Option Value) (m' : yM) (n' : Nat), B151_167 f x2 m = some (.inl (y0, m')) → rg y0 → RM c m' → ∀ k', k' < k → PW (gZ L xs) k' 151 d 167 [some (.ref 376), z0, some (yI y0), z1] [] m' n' Q) (He : ∀ (y0 : Int) (z0 z1 : Option Value) (m' : yM) (n' : Nat), B151_167 f x2 m = some (.inr (.inl (y0, m'))) → rg y0 → RM c m' → ∀ k', k' ≤ k → PW (gZ L xs) k' 151 d 225 [some (.ref 376), z0, some (yI y0), z1] [] m' n' Q) (Hr : ∀ m', B151_167 f x2 m = some (.inr (.inr ((), m'))) → RM c m' → ∀ n', Q (.inl none) m' n') : PW (gZ L xs) k 151 d 167 [some (.ref 376), j1, some (yI x2), j3] [] m n Q := by
  have hX : B151_167 f x2 m = B151_167 f x2 m := rfl
  refine p_iload 168 c151_167 rfl rfl ?_
  refine p_aload 169 c151_168 rfl rfl ?_
  refine p_getR 172 c151_169 rfl kf376_27 ?_
  refine p_aload 173 c151_172 rfl rfl ?_
  refine p_getX 176 (m 376 18) c151_173 rfl kf376_18 rfl ?_
  refine p_iaX 177 (m 390 (m 376 18).toNat) c151_176 rfl ka390 (hR.rg _ _) rfl (fun hx5212 => ?_)
  refine p_icmp 225 180 c151_177 rfl rfl ((yc_ge gx2 (hR.rg _ _)).trans Int.not_lt.symm) (fun hb5213 k5214 hk5214 => ?_) (fun hb5213 k5215 hk5215 => ?_)
  · have hX5216 := hX.trans (if_neg hb5213)
    exact He _ _ _ _ _ hX5216 gx2 hR _ (by omega)
  · have hX5217 := hX.trans (if_pos (Classical.not_not.mp hb5213))
    refine p_iconst 183 c151_180 rfl ?_
    refine p_aload 184 c151_183 rfl rfl ?_
    refine p_getX 187 (m 376 18) c151_184 rfl kf376_18 rfl ?_
    refine p_imul 188 c151_187 rfl ?_
    refine p_iconst 190 c151_188 rfl ?_
    refine p_iload 191 c151_190 rfl rfl ?_
    refine p_imul 192 c151_191 rfl ?_
    refine p_iadd 193 c151_192 rfl ?_
    refine p_istore 194 c151_193 rfl rfl ?_
    refine p_aload 195 c151_194 rfl rfl ?_
    refine p_aload 196 c151_195 rfl rfl ?_
    refine p_getR 199 c151_196 rfl kf376_44 ?_
    refine p_aload 200 c151_199 rfl rfl ?_
    refine p_getR 203 c151_200 rfl kf376_40 ?_
    refine p_iload 204 c151_203 rfl rfl ?_
    refine p_iconst 205 c151_204 rfl ?_
    refine p_iadd 206 c151_205 rfl ?_
    refine p_iaX 207 (m 403 (wr ((wr ((wr (1000 * (m 376 18))) + (wr (8 * x2)))) + 1)).toNat) c151_206 rfl ka403 (rg_wr _) rfl (fun hx5218 => ?_)
    refine p_iaX 208 (m 407 (m 403 (wr ((wr ((wr (1000 * (m 376 18))) + (wr (8 * x2)))) + 1)).toNat).toNat) c151_207 rfl ka407 (hR.rg _ _) rfl (fun hx5219 => ?_)
    refine p_cX 211 [.ref 376, yI (m 407 (m 403 (wr ((wr ((wr (1000 * (m 376 18))) + (wr (8 * x2)))) + 1)).toNat).toNat)] [] c151_208 rfl rfl rfl (fun k' hk' d' => d144 (hR.rg _ _) hR) (fun hg5232 n5221 k5220 hk5220 => ?_)
    refine p_if 219 214 c151_211 rfl rfl (yz_eq hg5232) (fun hb5233 k5234 hk5234 => ?_) (fun hb5233 k5235 hk5235 => ?_)
    · have hX5236 := hX5217.trans (if_pos hb5233)
      exact tJ151_219 (f := f) (by omega) gx2 hR (fun y0 y1 y2 m' n' e' h0 hR' k' hk' => Hn y0 y1 y2 m' n' (hX5236.trans e') h0 hR' k' (by omega)) (fun y0 y1 y2 m' n' e' h0 hR' k' hk' => He y0 y1 y2 m' n' (hX5236.trans e') h0 hR' k' (by omega)) (fun m' e' => Hr m' (hX5236.trans e'))
    · have hX5238 := hX5217.trans (if_neg hb5233)
      refine p_aload 215 c151_214 rfl rfl ?_
      refine p_iload 216 c151_215 rfl rfl ?_
      refine p_cV 219 [.ref 376, yI (wr ((wr (1000 * (m 376 18))) + (wr (8 * x2))))] [] c151_216 rfl rfl rfl (fun k' hk' d' => d150 (f := f) (by omega) (rg_wr _) hR) (fun m5690 hF5686 hR5691 n5240 k5239 hk5239 => ?_)
      have hX5689 := hX5238.trans (bU_s hF5686)
      exact tJ151_219 (f := f) (by omega) gx2 hR5691 (fun y0 y1 y2 m' n' e' h0 hR' k' hk' => Hn y0 y1 y2 m' n' (hX5689.trans e') h0 hR' k' (by omega)) (fun y0 y1 y2 m' n' e' h0 hR' k' hk' => He y0 y1 y2 m' n' (hX5689.trans e') h0 hR' k' (by omega)) (fun m' e' => Hr m' (hX5689.trans e'))
def B151_143 (f : Nat) (m : yM) : Option ((Unit × yM) ⊕ ((Unit × yM) ⊕ (Unit × yM))) := (if m 376 46 = 0 then (some (.inr (.inl ((), m)))) else (bL (yloop (fun (l : Int) ml => B151_167 f l ml) f 0 (yup (yup m 376 46 0) 376 45 (wr ((m 376 45) + 1)))) (fun l5692 m5698 => (if m5698 376 46 = 0 then (some (.inl ((), m5698))) else (some (.inl ((), yup m5698 376 47 (m5698 376 45)))))) (fun _ mr => some (.inr (.inr ((), mr))))))
set_option maxRecDepth 100000 in
theorem tB151_143 {L : Nat} {xs : Nat → Int32} {Q : xO → yM → Nat → Prop} {k d n : Nat} {c : yS3} {f : Nat} {m : yM} {j1 j2 j3 : Option Value} (hk : k ≤ f) (hR : RM c m) (Hn : ∀ (z0 z1 z2 : Option Value) (m' : yM) (n' : Nat), B151_143 f m = some (.inl ((), m')) → RM c m' → ∀ k', k' < k → PW (gZ L xs) k' 151 d 143 [some (.ref 376), z0, z1, z2] [] m' n' Q) (He : ∀ (z0 z1 z2 : Option Value) (m' : yM) (n' : Nat), B151_143 f m = some (.inr (.inl ((), m'))) → RM c m' → ∀ k', k' ≤ k → PW (gZ L xs) k' 151 d 243 [some (.ref 376), z0, z1, z2] [] m' n' Q) (Hr : ∀ m', B151_143 f m = some (.inr (.inr ((), m'))) → RM c m' → ∀ n', Q (.inl none) m' n') : PW (gZ L xs) k 151 d 143 [some (.ref 376), j1, j2, j3] [] m n Q := by
  have hX : B151_143 f m = B151_143 f m := rfl
  refine p_aload 144 c151_143 rfl rfl ?_
  refine p_getX 147 (m 376 46) c151_144 rfl kf376_46 rfl ?_
  refine p_if 243 150 c151_147 rfl rfl (yz_eq (hR.rg _ _)) (fun hb5205 k5206 hk5206 => ?_) (fun hb5205 k5207 hk5207 => ?_)
  · have hX5208 := hX.trans (if_pos hb5205)
    exact He _ _ _ _ _ hX5208 hR _ (by omega)
  · have hX5209 := hX.trans (if_neg hb5205)
    refine p_aload 151 c151_150 rfl rfl ?_
    refine p_iconst 152 c151_151 rfl ?_
    refine p_putI 155 c151_152 rfl kf376_46 ?_
    have hR5210 := hR.up 376 46 (v := 0) (nselD rfl) (rgD rfl)
    refine p_aload 156 c151_155 rfl rfl ?_
    refine p_dup 157 c151_156 rfl rfl ?_
    refine p_getX 160 (m 376 45) c151_157 rfl kf376_45 (yup_nk (by decide)) ?_
    refine p_iconst 161 c151_160 rfl ?_
    refine p_iadd 162 c151_161 rfl ?_
    refine p_putI 165 c151_162 rfl kf376_45 ?_
    have hR5211 := hR5210.up 376 45 (v := wr ((m 376 45) + 1)) (nselD rfl) (rg_wr _)
    refine p_iconst 166 c151_165 rfl ?_
    refine p_istore 167 c151_166 rfl rfl ?_
    refine PW.loop (K := k5207) (pce := 225) (fun (l : Int) ml => B151_167 f l ml) (fun (l : Int) j => [some (.ref 376), j 1, some (yI l), j 3]) (fun (l : Int) => rg l) (RM c) (fun (r' : Unit) m' => RM c m' → ∀ n' : Nat, Q (.inl none) m' n') (fun k' hk' l j m' n' hl hI Hn' He' Hr' => tB151_167 (f := f) (by omega) hl hI (fun y0 y1 y2 m2 n2 e h0 hR2 => Hn' y0 (fun q => ([none, y1, none, y2] : List (Option Value)).getD q none) m2 n2 e h0 hR2) (fun y0 y1 y2 m2 n2 e h0 hR2 => He' y0 (fun q => ([none, y1, none, y2] : List (Option Value)).getD q none) m2 n2 e h0 hR2) (fun m2 e => Hr' () m2 e)) f k5207 (by omega) (Nat.le_refl _) 0 (fun q => ([some (.ref 376), j1, some (yI 0), j3] : xL).getD q none) _ _ (rgD rfl) hR5211 (fun l5692 j5695 m5698 n5697 e5694 hl5693 hR5699 k5696 hk5696 => ?_) (fun r' m' e' => ?_)
    · have hX5700 := hX5209.trans (bL_l e5694)
      refine p_aload 226 c151_225 rfl rfl ?_
      refine p_getX 229 (m5698 376 46) c151_226 rfl kf376_46 rfl ?_
      refine p_if 143 232 c151_229 rfl rfl (yz_eq (hR5699.rg _ _)) (fun hb5701 k5702 hk5702 => ?_) (fun hb5701 k5703 hk5703 => ?_)
      · have hX5704 := hX5700.trans (if_pos hb5701)
        exact Hn _ _ _ _ _ hX5704 hR5699 _ (by omega)
      · have hX5705 := hX5700.trans (if_neg hb5701)
        refine p_aload 233 c151_232 rfl rfl ?_
        refine p_aload 234 c151_233 rfl rfl ?_
        refine p_getX 237 (m5698 376 45) c151_234 rfl kf376_45 rfl ?_
        refine p_putI 240 c151_237 rfl kf376_47 ?_
        have hR5706 := hR5699.up 376 47 (v := m5698 376 45) (nselD rfl) (hR5699.rg _ _)
        refine p_gotoD 143 c151_240 rfl (fun k5707 hk5707 => ?_)
        exact Hn _ _ _ _ _ hX5705 hR5706 _ (by omega)
    · exact Hr m' (hX5209.trans (bL_r e'))
def F151 (f : Nat) (m : yM) : Option yM := (bL (yloop (fun (l : Int) ml => B151_2 f l ml) f 0 m) (fun l5101 m5107 => (bL (yloop (fun (l : Int) ml => B151_24 f l ml) f 0 m5107) (fun l5118 m5124 => (bL (yloop (fun (l : Int) ml => B151_46 f l ml) f 0 m5124) (fun l5135 m5141 => (bL (yloop (fun (l : Int) ml => B151_67 f l ml) f 0 m5141) (fun l5152 m5158 => (bP (F143 f (yup (yup m5158 376 47 0) 376 45 0)) (fun r5193 => (if r5193 < 0 then (some (yup (yup m5158 376 47 0) 376 45 0)) else (bL (yloop (fun (l : Unit) ml => B151_143 f ml) f () (yup (yup (yup (yup (yup m5158 376 47 0) 376 45 0) 407 r5193.toNat 0) 404 (wr (12 * (wr ((m5158 398 (wr ((wr (10 * (m5158 376 18))) + r5193)).toNat) + 1)))).toNat 0) 376 46 1)) (fun _ m5714 => (some m5714)) (fun _ mr => some mr)))))) (fun _ mr => some mr))) (fun _ mr => some mr))) (fun _ mr => some mr))) (fun _ mr => some mr))
set_option maxRecDepth 100000 in
theorem d151 {L : Nat} {xs : Nat → Int32} {k d n : Nat} {c : yS3} {f : Nat} {m : yM} (hk : k ≤ f) (hR : RM c m) : PC (gZ L xs) k d 151 [.ref 376] m n (qV c (F151 f m)) := by
  have hX : F151 f m = F151 f m := rfl
  have Hr : ∀ m', F151 f m = some m' → RM c m' → ∀ n' : Nat, (qV c (F151 f m)) (.inl none) m' n' := fun m' e h n' => ⟨rfl, h, e⟩
  refine PC.mk [some (.ref 376), none, none, none] kn151 rfl ?_
  refine p_iconst 1 c151_0 rfl ?_
  refine p_istore 2 c151_1 rfl rfl ?_
  refine PW.loop (K := k) (pce := 22) (fun (l : Int) ml => B151_2 f l ml) (fun (l : Int) j => [some (.ref 376), some (yI l), j 2, j 3]) (fun (l : Int) => rg l) (RM c) (fun (r' : Unit) m' => RM c m' → ∀ n' : Nat, (qV c (F151 f m)) (.inl none) m' n') (fun k' hk' l j m' n' hl hI Hn' He' Hr' => tB151_2 (f := f) (by omega) hl hI (fun y0 y1 y2 m2 n2 e h0 hR2 => Hn' y0 (fun q => ([none, none, y1, y2] : List (Option Value)).getD q none) m2 n2 e h0 hR2) (fun y0 y1 y2 m2 n2 e h0 hR2 => He' y0 (fun q => ([none, none, y1, y2] : List (Option Value)).getD q none) m2 n2 e h0 hR2) (fun m2 e => Hr' () m2 e)) f k (by omega) (Nat.le_refl _) 0 (fun q => ([some (.ref 376), some (yI 0), none, none] : xL).getD q none) _ _ (rgD rfl) hR (fun l5101 j5104 m5107 n5106 e5103 hl5102 hR5108 k5105 hk5105 => ?_) (fun r' m' e' => ?_)
  · have hX5109 := hX.trans (bL_l e5103)
    refine p_iconst 23 c151_22 rfl ?_
    refine p_istore 24 c151_23 rfl rfl ?_
    refine PW.loop (K := k5105) (pce := 44) (fun (l : Int) ml => B151_24 f l ml) (fun (l : Int) j => [some (.ref 376), some (yI l), j 2, j 3]) (fun (l : Int) => rg l) (RM c) (fun (r' : Unit) m' => RM c m' → ∀ n' : Nat, (qV c (F151 f m)) (.inl none) m' n') (fun k' hk' l j m' n' hl hI Hn' He' Hr' => tB151_24 (f := f) (by omega) hl hI (fun y0 y1 y2 m2 n2 e h0 hR2 => Hn' y0 (fun q => ([none, none, y1, y2] : List (Option Value)).getD q none) m2 n2 e h0 hR2) (fun y0 y1 y2 m2 n2 e h0 hR2 => He' y0 (fun q => ([none, none, y1, y2] : List (Option Value)).getD q none) m2 n2 e h0 hR2) (fun m2 e => Hr' () m2 e)) f k5105 (by omega) (Nat.le_refl _) 0 (fun q => ([some (.ref 376), some (yI 0), j5104 2, j5104 3] : xL).getD q none) _ _ (rgD rfl) hR5108 (fun l5118 j5121 m5124 n5123 e5120 hl5119 hR5125 k5122 hk5122 => ?_) (fun r' m' e' => ?_)
    · have hX5126 := hX5109.trans (bL_l e5120)
      refine p_iconst 45 c151_44 rfl ?_
      refine p_istore 46 c151_45 rfl rfl ?_
      refine PW.loop (K := k5122) (pce := 65) (fun (l : Int) ml => B151_46 f l ml) (fun (l : Int) j => [some (.ref 376), some (yI l), j 2, j 3]) (fun (l : Int) => rg l) (RM c) (fun (r' : Unit) m' => RM c m' → ∀ n' : Nat, (qV c (F151 f m)) (.inl none) m' n') (fun k' hk' l j m' n' hl hI Hn' He' Hr' => tB151_46 (f := f) (by omega) hl hI (fun y0 y1 y2 m2 n2 e h0 hR2 => Hn' y0 (fun q => ([none, none, y1, y2] : List (Option Value)).getD q none) m2 n2 e h0 hR2) (fun y0 y1 y2 m2 n2 e h0 hR2 => He' y0 (fun q => ([none, none, y1, y2] : List (Option Value)).getD q none) m2 n2 e h0 hR2) (fun m2 e => Hr' () m2 e)) f k5122 (by omega) (Nat.le_refl _) 0 (fun q => ([some (.ref 376), some (yI 0), j5121 2, j5121 3] : xL).getD q none) _ _ (rgD rfl) hR5125 (fun l5135 j5138 m5141 n5140 e5137 hl5136 hR5142 k5139 hk5139 => ?_) (fun r' m' e' => ?_)
      · have hX5143 := hX5126.trans (bL_l e5137)
        refine p_iconst 66 c151_65 rfl ?_
        refine p_istore 67 c151_66 rfl rfl ?_
        refine PW.loop (K := k5139) (pce := 86) (fun (l : Int) ml => B151_67 f l ml) (fun (l : Int) j => [some (.ref 376), some (yI l), j 2, j 3]) (fun (l : Int) => rg l) (RM c) (fun (r' : Unit) m' => RM c m' → ∀ n' : Nat, (qV c (F151 f m)) (.inl none) m' n') (fun k' hk' l j m' n' hl hI Hn' He' Hr' => tB151_67 (f := f) (by omega) hl hI (fun y0 y1 y2 m2 n2 e h0 hR2 => Hn' y0 (fun q => ([none, none, y1, y2] : List (Option Value)).getD q none) m2 n2 e h0 hR2) (fun y0 y1 y2 m2 n2 e h0 hR2 => He' y0 (fun q => ([none, none, y1, y2] : List (Option Value)).getD q none) m2 n2 e h0 hR2) (fun m2 e => Hr' () m2 e)) f k5139 (by omega) (Nat.le_refl _) 0 (fun q => ([some (.ref 376), some (yI 0), j5138 2, j5138 3] : xL).getD q none) _ _ (rgD rfl) hR5142 (fun l5152 j5155 m5158 n5157 e5154 hl5153 hR5159 k5156 hk5156 => ?_) (fun r' m' e' => ?_)
        · have hX5160 := hX5143.trans (bL_l e5154)
          refine p_aload 87 c151_86 rfl rfl ?_
          refine p_iconst 88 c151_87 rfl ?_
          refine p_putI 91 c151_88 rfl kf376_47 ?_
          have hR5161 := hR5159.up 376 47 (v := 0) (nselD rfl) (rgD rfl)
          refine p_aload 92 c151_91 rfl rfl ?_
          refine p_iconst 93 c151_92 rfl ?_
          refine p_putI 96 c151_93 rfl kf376_45 ?_
          have hR5162 := hR5161.up 376 45 (v := 0) (nselD rfl) (rgD rfl)
          refine p_aload 97 c151_96 rfl rfl ?_
          refine p_cO 100 [.ref 376] [] c151_97 rfl rfl rfl (fun k' hk' d' => d143 (f := f) (by omega) hR5162) (fun r5193 hF5191 hg5192 n5164 k5163 hk5163 => ?_)
          have hX5194 := hX5160.trans (bP_s hF5191)
          refine p_istore 101 c151_100 rfl rfl ?_
          refine p_iload 102 c151_101 rfl rfl ?_
          refine p_if 106 105 c151_102 rfl rfl ((yz_ge hg5192).trans Int.not_lt.symm) (fun hb5195 k5196 hk5196 => ?_) (fun hb5195 k5197 hk5197 => ?_)
          · have hX5198 := hX5194.trans (if_neg hb5195)
            refine p_aload 107 c151_106 rfl rfl ?_
            refine p_getR 110 c151_107 rfl kf376_44 ?_
            refine p_iload 111 c151_110 rfl rfl ?_
            refine p_iconst 112 c151_111 rfl ?_
            refine p_iaS 113 c151_112 rfl ka407 hg5192 0 (nar0 (rgD rfl)) (fun hx5199 => ?_)
            have hR5200 := hR5162.up 407 r5193.toNat (v := 0) (nselA (by decide)) (rgD rfl)
            refine p_aload 114 c151_113 rfl rfl ?_
            refine p_getR 117 c151_114 rfl kf376_41 ?_
            refine p_iconst 119 c151_117 rfl ?_
            refine p_aload 120 c151_119 rfl rfl ?_
            refine p_getR 123 c151_120 rfl kf376_35 ?_
            refine p_iconst 125 c151_123 rfl ?_
            refine p_aload 126 c151_125 rfl rfl ?_
            refine p_getX 129 (m5158 376 18) c151_126 rfl kf376_18 ((yup_na (by decide)).trans ((yup_nk (by decide)).trans (yup_nk (by decide)))) ?_
            refine p_imul 130 c151_129 rfl ?_
            refine p_iload 131 c151_130 rfl rfl ?_
            refine p_iadd 132 c151_131 rfl ?_
            refine p_iaX 133 (m5158 398 (wr ((wr (10 * (m5158 376 18))) + r5193)).toNat) c151_132 rfl ka398 (rg_wr _) ((yup_na (by decide)).trans ((yup_na (by decide)).trans (yup_na (by decide)))) (fun hx5201 => ?_)
            refine p_iconst 134 c151_133 rfl ?_
            refine p_iadd 135 c151_134 rfl ?_
            refine p_imul 136 c151_135 rfl ?_
            refine p_iconst 137 c151_136 rfl ?_
            refine p_iaS 138 c151_137 rfl ka404 (rg_wr _) 0 (nar0 (rgD rfl)) (fun hx5202 => ?_)
            have hR5203 := hR5200.up 404 (wr (12 * (wr ((m5158 398 (wr ((wr (10 * (m5158 376 18))) + r5193)).toNat) + 1)))).toNat (v := 0) (nselA (by decide)) (rgD rfl)
            refine p_aload 139 c151_138 rfl rfl ?_
            refine p_iconst 140 c151_139 rfl ?_
            refine p_putI 143 c151_140 rfl kf376_46 ?_
            have hR5204 := hR5203.up 376 46 (v := 1) (nselD rfl) (rgD rfl)
            refine PW.loop (K := k5196) (pce := 243) (fun (l : Unit) ml => B151_143 f ml) (fun (l : Unit) j => [some (.ref 376), j 1, j 2, j 3]) (fun (l : Unit) => True) (RM c) (fun (r' : Unit) m' => RM c m' → ∀ n' : Nat, (qV c (F151 f m)) (.inl none) m' n') (fun k' hk' l j m' n' hl hI Hn' He' Hr' => tB151_143 (f := f) (by omega) hI (fun y0 y1 y2 m2 n2 e  hR2 => Hn' () (fun q => ([none, y0, y1, y2] : List (Option Value)).getD q none) m2 n2 e trivial hR2) (fun y0 y1 y2 m2 n2 e  hR2 => He' () (fun q => ([none, y0, y1, y2] : List (Option Value)).getD q none) m2 n2 e trivial hR2) (fun m2 e => Hr' () m2 e)) f k5196 (by omega) (Nat.le_refl _) () (fun q => ([some (.ref 376), some (yI r5193), j5155 2, j5155 3] : xL).getD q none) _ _ trivial hR5204 (fun l5708 j5711 m5714 n5713 e5710 hl5709 hR5715 k5712 hk5712 => ?_) (fun r' m' e' => ?_)
            · have hX5716 := hX5198.trans (bL_l e5710)
              exact p_return c151_243 (Hr _ hX5716 hR5715 _)
            · exact Hr m' (hX5198.trans (bL_r e'))
          · have hX5717 := hX5194.trans (if_pos (Classical.not_not.mp hb5195))
            exact p_return c151_105 (Hr _ hX5717 hR5162 _)
        · exact Hr m' (hX5143.trans (bL_r e'))
      · exact Hr m' (hX5126.trans (bL_r e'))
    · exact Hr m' (hX5109.trans (bL_r e'))
  · exact Hr m' (hX.trans (bL_r e'))
def J141_41 (f : Nat) (x1 : Int) (x2 : Int) (m : yM) : Option ((Int × yM) ⊕ ((Int × yM) ⊕ (Unit × yM))) := (some (.inl ((wr (x2 + 1)), m)))
set_option maxRecDepth 100000 in
theorem tJ141_41 {L : Nat} {xs : Nat → Int32} {Q : xO → yM → Nat → Prop} {k d n : Nat} {c : yS3} {f : Nat} {x1 : Int} {x2 : Int} {m : yM} {j3 : Option Value} (hk : k ≤ f) (gx1 : rg x1) (gx2 : rg x2) (hR : RM c m) (Hn : ∀ (y0 : Int) (z0 : Option Value) (m' : yM) (n' : Nat), J141_41 f x1 x2 m = some (.inl (y0, m')) → rg y0 → RM c m' → ∀ k', k' < k → PW (gZ L xs) k' 141 d 2 [some (.ref 376), some (yI x1), some (yI y0), z0] [] m' n' Q) (He : ∀ (y0 : Int) (z0 : Option Value) (m' : yM) (n' : Nat), J141_41 f x1 x2 m = some (.inr (.inl (y0, m'))) → rg y0 → RM c m' → ∀ k', k' ≤ k → PW (gZ L xs) k' 141 d 47 [some (.ref 376), some (yI x1), some (yI y0), z0] [] m' n' Q) (Hr : ∀ m', J141_41 f x1 x2 m = some (.inr (.inr ((), m'))) → RM c m' → ∀ n', Q (.inl none) m' n') : PW (gZ L xs) k 141 d 41 [some (.ref 376), some (yI x1), some (yI x2), j3] [] m n Q := by
  have hX : J141_41 f x1 x2 m = J141_41 f x1 x2 m := rfl
  refine p_iinc 44 c141_41 rfl rfl rfl ?_
  refine p_gotoD 2 c141_44 rfl (fun k5771 hk5771 => ?_)
  exact Hn _ _ _ _ hX (rg_wr _) hR _ (by omega)
def B141_2 (f : Nat) (x1 : Int) (x2 : Int) (m : yM) : Option ((Int × yM) ⊕ ((Int × yM) ⊕ (Unit × yM))) := (if x2 < m 376 17 then (if m 376 8 < 0 then (bP (F116 f x1 (m 381 x2.toNat) m) (fun r5765 => (if r5765 < 0 then (J141_41 f x1 x2 (yup m 376 8 (m 382 x2.toNat))) else (J141_41 f x1 x2 m)))) else (some (.inr (.inl (x2, m))))) else (some (.inr (.inl (x2, m)))))
set_option maxRecDepth 100000 in
theorem tB141_2 {L : Nat} {xs : Nat → Int32} {Q : xO → yM → Nat → Prop} {k d n : Nat} {c : yS3} {f : Nat} {x1 : Int} {x2 : Int} {m : yM} {j3 : Option Value} (hk : k ≤ f) (gx1 : rg x1) (gx2 : rg x2) (hR : RM c m) (Hn : ∀ (y0 : Int) (z0 : Option Value) (m' : yM) (n' : Nat), B141_2 f x1 x2 m = some (.inl (y0, m')) → rg y0 → RM c m' → ∀ k', k' < k → PW (gZ L xs) k' 141 d 2 [some (.ref 376), some (yI x1), some (yI y0), z0] [] m' n' Q) (He : ∀ (y0 : Int) (z0 : Option Value) (m' : yM) (n' : Nat), B141_2 f x1 x2 m = some (.inr (.inl (y0, m'))) → rg y0 → RM c m' → ∀ k', k' ≤ k → PW (gZ L xs) k' 141 d 47 [some (.ref 376), some (yI x1), some (yI y0), z0] [] m' n' Q) (Hr : ∀ m', B141_2 f x1 x2 m = some (.inr (.inr ((), m'))) → RM c m' → ∀ n', Q (.inl none) m' n') : PW (gZ L xs) k 141 d 2 [some (.ref 376), some (yI x1), some (yI x2), j3] [] m n Q := by
  have hX : B141_2 f x1 x2 m = B141_2 f x1 x2 m := rfl
  refine p_iload 3 c141_2 rfl rfl ?_
  refine p_aload 4 c141_3 rfl rfl ?_
  refine p_getX 7 (m 376 17) c141_4 rfl kf376_17 rfl ?_
  refine p_icmp 47 10 c141_7 rfl rfl ((yc_ge gx2 (hR.rg _ _)).trans Int.not_lt.symm) (fun hb5750 k5751 hk5751 => ?_) (fun hb5750 k5752 hk5752 => ?_)
  · have hX5753 := hX.trans (if_neg hb5750)
    exact He _ _ _ _ hX5753 gx2 hR _ (by omega)
  · have hX5754 := hX.trans (if_pos (Classical.not_not.mp hb5750))
    refine p_aload 11 c141_10 rfl rfl ?_
    refine p_getX 14 (m 376 8) c141_11 rfl kf376_8 rfl ?_
    refine p_if 47 17 c141_14 rfl rfl ((yz_ge (hR.rg _ _)).trans Int.not_lt.symm) (fun hb5755 k5756 hk5756 => ?_) (fun hb5755 k5757 hk5757 => ?_)
    · have hX5758 := hX5754.trans (if_neg hb5755)
      exact He _ _ _ _ hX5758 gx2 hR _ (by omega)
    · have hX5759 := hX5754.trans (if_pos (Classical.not_not.mp hb5755))
      refine p_aload 18 c141_17 rfl rfl ?_
      refine p_iload 19 c141_18 rfl rfl ?_
      refine p_aload 20 c141_19 rfl rfl ?_
      refine p_getR 23 c141_20 rfl kf376_15 ?_
      refine p_iload 24 c141_23 rfl rfl ?_
      refine p_iaX 25 (m 381 x2.toNat) c141_24 rfl ka381 gx2 rfl (fun hx5760 => ?_)
      refine p_cO 28 [.ref 376, yI x1, yI (m 381 x2.toNat)] [] c141_25 rfl rfl rfl (fun k' hk' d' => d116 (f := f) (by omega) gx1 (hR.rg _ _) hR) (fun r5765 hF5763 hg5764 n5762 k5761 hk5761 => ?_)
      have hX5766 := hX5759.trans (bP_s hF5763)
      refine p_if 41 31 c141_28 rfl rfl ((yz_ge hg5764).trans Int.not_lt.symm) (fun hb5767 k5768 hk5768 => ?_) (fun hb5767 k5769 hk5769 => ?_)
      · have hX5770 := hX5766.trans (if_neg hb5767)
        exact tJ141_41 (f := f) (by omega) gx1 gx2 hR (fun y0 y1 m' n' e' h0 hR' k' hk' => Hn y0 y1 m' n' (hX5770.trans e') h0 hR' k' (by omega)) (fun y0 y1 m' n' e' h0 hR' k' hk' => He y0 y1 m' n' (hX5770.trans e') h0 hR' k' (by omega)) (fun m' e' => Hr m' (hX5770.trans e'))
      · have hX5772 := hX5766.trans (if_pos (Classical.not_not.mp hb5767))
        refine p_aload 32 c141_31 rfl rfl ?_
        refine p_aload 33 c141_32 rfl rfl ?_
        refine p_getR 36 c141_33 rfl kf376_16 ?_
        refine p_iload 37 c141_36 rfl rfl ?_
        refine p_iaX 38 (m 382 x2.toNat) c141_37 rfl ka382 gx2 rfl (fun hx5773 => ?_)
        refine p_putI 41 c141_38 rfl kf376_8 ?_
        have hR5774 := hR.up 376 8 (v := m 382 x2.toNat) (nselD rfl) (hR.rg _ _)
        exact tJ141_41 (f := f) (by omega) gx1 gx2 hR5774 (fun y0 y1 m' n' e' h0 hR' k' hk' => Hn y0 y1 m' n' (hX5772.trans e') h0 hR' k' (by omega)) (fun y0 y1 m' n' e' h0 hR' k' hk' => He y0 y1 m' n' (hX5772.trans e') h0 hR' k' (by omega)) (fun m' e' => Hr m' (hX5772.trans e'))
def B141_57 (f : Nat) (x1 : Int) (x2 : Int) (m : yM) : Option ((Int × yM) ⊕ ((Int × yM) ⊕ (Unit × yM))) := (if x2 < m 388 x1.toNat then (bP (F116 f x1 (m 400 (wr ((wr (12 * x1)) + x2)).toNat) m) (fun r5799 => (some (.inl ((wr (x2 + 1)), yup m 400 (wr ((wr (12 * x1)) + x2)).toNat r5799))))) else (some (.inr (.inl (x2, m)))))
set_option maxRecDepth 100000 in
theorem tB141_57 {L : Nat} {xs : Nat → Int32} {Q : xO → yM → Nat → Prop} {k d n : Nat} {c : yS3} {f : Nat} {x1 : Int} {x2 : Int} {m : yM} {j3 : Option Value} (hk : k ≤ f) (gx1 : rg x1) (gx2 : rg x2) (hR : RM c m) (Hn : ∀ (y0 : Int) (z0 : Option Value) (m' : yM) (n' : Nat), B141_57 f x1 x2 m = some (.inl (y0, m')) → rg y0 → RM c m' → ∀ k', k' < k → PW (gZ L xs) k' 141 d 57 [some (.ref 376), some (yI x1), some (yI y0), z0] [] m' n' Q) (He : ∀ (y0 : Int) (z0 : Option Value) (m' : yM) (n' : Nat), B141_57 f x1 x2 m = some (.inr (.inl (y0, m'))) → rg y0 → RM c m' → ∀ k', k' ≤ k → PW (gZ L xs) k' 141 d 100 [some (.ref 376), some (yI x1), some (yI y0), z0] [] m' n' Q) (Hr : ∀ m', B141_57 f x1 x2 m = some (.inr (.inr ((), m'))) → RM c m' → ∀ n', Q (.inl none) m' n') : PW (gZ L xs) k 141 d 57 [some (.ref 376), some (yI x1), some (yI x2), j3] [] m n Q := by
  have hX : B141_57 f x1 x2 m = B141_57 f x1 x2 m := rfl
  refine p_iload 58 c141_57 rfl rfl ?_
  refine p_aload 59 c141_58 rfl rfl ?_
  refine p_getR 62 c141_59 rfl kf376_25 ?_
  refine p_iload 63 c141_62 rfl rfl ?_
  refine p_iaX 64 (m 388 x1.toNat) c141_63 rfl ka388 gx1 rfl (fun hx5788 => ?_)
  refine p_icmp 100 67 c141_64 rfl rfl ((yc_ge gx2 (hR.rg _ _)).trans Int.not_lt.symm) (fun hb5789 k5790 hk5790 => ?_) (fun hb5789 k5791 hk5791 => ?_)
  · have hX5792 := hX.trans (if_neg hb5789)
    exact He _ _ _ _ hX5792 gx2 hR _ (by omega)
  · have hX5793 := hX.trans (if_pos (Classical.not_not.mp hb5789))
    refine p_aload 68 c141_67 rfl rfl ?_
    refine p_getR 71 c141_68 rfl kf376_37 ?_
    refine p_iconst 73 c141_71 rfl ?_
    refine p_iload 74 c141_73 rfl rfl ?_
    refine p_imul 75 c141_74 rfl ?_
    refine p_iload 76 c141_75 rfl rfl ?_
    refine p_iadd 77 c141_76 rfl ?_
    refine p_aload 78 c141_77 rfl rfl ?_
    refine p_iload 79 c141_78 rfl rfl ?_
    refine p_aload 80 c141_79 rfl rfl ?_
    refine p_getR 83 c141_80 rfl kf376_37 ?_
    refine p_iconst 85 c141_83 rfl ?_
    refine p_iload 86 c141_85 rfl rfl ?_
    refine p_imul 87 c141_86 rfl ?_
    refine p_iload 88 c141_87 rfl rfl ?_
    refine p_iadd 89 c141_88 rfl ?_
    refine p_iaX 90 (m 400 (wr ((wr (12 * x1)) + x2)).toNat) c141_89 rfl ka400 (rg_wr _) rfl (fun hx5794 => ?_)
    refine p_cO 93 [.ref 376, yI x1, yI (m 400 (wr ((wr (12 * x1)) + x2)).toNat)] [yI (wr ((wr (12 * x1)) + x2)), .ref 400] c141_90 rfl rfl rfl (fun k' hk' d' => d116 (f := f) (by omega) gx1 (hR.rg _ _) hR) (fun r5799 hF5797 hg5798 n5796 k5795 hk5795 => ?_)
    have hX5800 := hX5793.trans (bP_s hF5797)
    refine p_iaS 94 c141_93 rfl ka400 (rg_wr _) r5799 (nar0 hg5798) (fun hx5801 => ?_)
    have hR5802 := hR.up 400 (wr ((wr (12 * x1)) + x2)).toNat (v := r5799) (nselA (by decide)) hg5798
    refine p_iinc 97 c141_94 rfl rfl rfl ?_
    refine p_gotoD 57 c141_97 rfl (fun k5803 hk5803 => ?_)
    exact Hn _ _ _ _ hX5800 (rg_wr _) hR5802 _ (by omega)
def B141_102 (f : Nat) (x1 : Int) (x2 : Int) (m : yM) : Option ((Int × yM) ⊕ ((Int × yM) ⊕ (Unit × yM))) := (if x2 < m 387 x1.toNat then (bP (F116 f x1 (m 402 (wr ((wr (8 * x1)) + x2)).toNat) m) (fun r5824 => (some (.inl ((wr (x2 + 1)), yup m 402 (wr ((wr (8 * x1)) + x2)).toNat r5824))))) else (some (.inr (.inl (x2, m)))))
set_option maxRecDepth 100000 in
theorem tB141_102 {L : Nat} {xs : Nat → Int32} {Q : xO → yM → Nat → Prop} {k d n : Nat} {c : yS3} {f : Nat} {x1 : Int} {x2 : Int} {m : yM} {j3 : Option Value} (hk : k ≤ f) (gx1 : rg x1) (gx2 : rg x2) (hR : RM c m) (Hn : ∀ (y0 : Int) (z0 : Option Value) (m' : yM) (n' : Nat), B141_102 f x1 x2 m = some (.inl (y0, m')) → rg y0 → RM c m' → ∀ k', k' < k → PW (gZ L xs) k' 141 d 102 [some (.ref 376), some (yI x1), some (yI y0), z0] [] m' n' Q) (He : ∀ (y0 : Int) (z0 : Option Value) (m' : yM) (n' : Nat), B141_102 f x1 x2 m = some (.inr (.inl (y0, m'))) → rg y0 → RM c m' → ∀ k', k' ≤ k → PW (gZ L xs) k' 141 d 145 [some (.ref 376), some (yI x1), some (yI y0), z0] [] m' n' Q) (Hr : ∀ m', B141_102 f x1 x2 m = some (.inr (.inr ((), m'))) → RM c m' → ∀ n', Q (.inl none) m' n') : PW (gZ L xs) k 141 d 102 [some (.ref 376), some (yI x1), some (yI x2), j3] [] m n Q := by
  have hX : B141_102 f x1 x2 m = B141_102 f x1 x2 m := rfl
  refine p_iload 103 c141_102 rfl rfl ?_
  refine p_aload 104 c141_103 rfl rfl ?_
  refine p_getR 107 c141_104 rfl kf376_24 ?_
  refine p_iload 108 c141_107 rfl rfl ?_
  refine p_iaX 109 (m 387 x1.toNat) c141_108 rfl ka387 gx1 rfl (fun hx5813 => ?_)
  refine p_icmp 145 112 c141_109 rfl rfl ((yc_ge gx2 (hR.rg _ _)).trans Int.not_lt.symm) (fun hb5814 k5815 hk5815 => ?_) (fun hb5814 k5816 hk5816 => ?_)
  · have hX5817 := hX.trans (if_neg hb5814)
    exact He _ _ _ _ hX5817 gx2 hR _ (by omega)
  · have hX5818 := hX.trans (if_pos (Classical.not_not.mp hb5814))
    refine p_aload 113 c141_112 rfl rfl ?_
    refine p_getR 116 c141_113 rfl kf376_39 ?_
    refine p_iconst 118 c141_116 rfl ?_
    refine p_iload 119 c141_118 rfl rfl ?_
    refine p_imul 120 c141_119 rfl ?_
    refine p_iload 121 c141_120 rfl rfl ?_
    refine p_iadd 122 c141_121 rfl ?_
    refine p_aload 123 c141_122 rfl rfl ?_
    refine p_iload 124 c141_123 rfl rfl ?_
    refine p_aload 125 c141_124 rfl rfl ?_
    refine p_getR 128 c141_125 rfl kf376_39 ?_
    refine p_iconst 130 c141_128 rfl ?_
    refine p_iload 131 c141_130 rfl rfl ?_
    refine p_imul 132 c141_131 rfl ?_
    refine p_iload 133 c141_132 rfl rfl ?_
    refine p_iadd 134 c141_133 rfl ?_
    refine p_iaX 135 (m 402 (wr ((wr (8 * x1)) + x2)).toNat) c141_134 rfl ka402 (rg_wr _) rfl (fun hx5819 => ?_)
    refine p_cO 138 [.ref 376, yI x1, yI (m 402 (wr ((wr (8 * x1)) + x2)).toNat)] [yI (wr ((wr (8 * x1)) + x2)), .ref 402] c141_135 rfl rfl rfl (fun k' hk' d' => d116 (f := f) (by omega) gx1 (hR.rg _ _) hR) (fun r5824 hF5822 hg5823 n5821 k5820 hk5820 => ?_)
    have hX5825 := hX5818.trans (bP_s hF5822)
    refine p_iaS 139 c141_138 rfl ka402 (rg_wr _) r5824 (nar0 hg5823) (fun hx5826 => ?_)
    have hR5827 := hR.up 402 (wr ((wr (8 * x1)) + x2)).toNat (v := r5824) (nselA (by decide)) hg5823
    refine p_iinc 142 c141_139 rfl rfl rfl ?_
    refine p_gotoD 102 c141_142 rfl (fun k5828 hk5828 => ?_)
    exact Hn _ _ _ _ hX5825 (rg_wr _) hR5827 _ (by omega)
def J141_209 (f : Nat) (x1 : Int) (x2 : Int) (m : yM) : Option ((Int × yM) ⊕ ((Int × yM) ⊕ (Unit × yM))) := (some (.inl ((wr (x2 + 1)), m)))
set_option maxRecDepth 100000 in
theorem tJ141_209 {L : Nat} {xs : Nat → Int32} {Q : xO → yM → Nat → Prop} {k d n : Nat} {c : yS3} {f : Nat} {x1 : Int} {x2 : Int} {m : yM} {j3 : Option Value} (hk : k ≤ f) (gx1 : rg x1) (gx2 : rg x2) (hR : RM c m) (Hn : ∀ (y0 : Int) (z0 : Option Value) (m' : yM) (n' : Nat), J141_209 f x1 x2 m = some (.inl (y0, m')) → rg y0 → RM c m' → ∀ k', k' < k → PW (gZ L xs) k' 141 d 147 [some (.ref 376), some (yI x1), some (yI y0), z0] [] m' n' Q) (He : ∀ (y0 : Int) (z0 : Option Value) (m' : yM) (n' : Nat), J141_209 f x1 x2 m = some (.inr (.inl (y0, m'))) → rg y0 → RM c m' → ∀ k', k' ≤ k → PW (gZ L xs) k' 141 d 215 [some (.ref 376), some (yI x1), some (yI y0), z0] [] m' n' Q) (Hr : ∀ m', J141_209 f x1 x2 m = some (.inr (.inr ((), m'))) → RM c m' → ∀ n', Q (.inl none) m' n') : PW (gZ L xs) k 141 d 209 [some (.ref 376), some (yI x1), some (yI x2), j3] [] m n Q := by
  have hX : J141_209 f x1 x2 m = J141_209 f x1 x2 m := rfl
  refine p_iinc 212 c141_209 rfl rfl rfl ?_
  refine p_gotoD 147 c141_212 rfl (fun k5858 hk5858 => ?_)
  exact Hn _ _ _ _ hX (rg_wr _) hR _ (by omega)
def J141_188 (f : Nat) (x1 : Int) (x2 : Int) (x3 : Int) (m : yM) : Option ((Int × yM) ⊕ ((Int × yM) ⊕ (Unit × yM))) := (bP (F120 f x1 (m 403 (wr (x3 + 4)).toNat) m) (fun r5854 => (J141_209 f x1 x2 (yup m 403 (wr (x3 + 4)).toNat r5854))))
set_option maxRecDepth 100000 in
theorem tJ141_188 {L : Nat} {xs : Nat → Int32} {Q : xO → yM → Nat → Prop} {k d n : Nat} {c : yS3} {f : Nat} {x1 : Int} {x2 : Int} {x3 : Int} {m : yM} (hk : k ≤ f) (gx1 : rg x1) (gx2 : rg x2) (gx3 : rg x3) (hR : RM c m) (Hn : ∀ (y0 : Int) (z0 : Option Value) (m' : yM) (n' : Nat), J141_188 f x1 x2 x3 m = some (.inl (y0, m')) → rg y0 → RM c m' → ∀ k', k' < k → PW (gZ L xs) k' 141 d 147 [some (.ref 376), some (yI x1), some (yI y0), z0] [] m' n' Q) (He : ∀ (y0 : Int) (z0 : Option Value) (m' : yM) (n' : Nat), J141_188 f x1 x2 x3 m = some (.inr (.inl (y0, m'))) → rg y0 → RM c m' → ∀ k', k' ≤ k → PW (gZ L xs) k' 141 d 215 [some (.ref 376), some (yI x1), some (yI y0), z0] [] m' n' Q) (Hr : ∀ m', J141_188 f x1 x2 x3 m = some (.inr (.inr ((), m'))) → RM c m' → ∀ n', Q (.inl none) m' n') : PW (gZ L xs) k 141 d 188 [some (.ref 376), some (yI x1), some (yI x2), some (yI x3)] [] m n Q := by
  have hX : J141_188 f x1 x2 x3 m = J141_188 f x1 x2 x3 m := rfl
  refine p_aload 189 c141_188 rfl rfl ?_
  refine p_getR 192 c141_189 rfl kf376_40 ?_
  refine p_iload 193 c141_192 rfl rfl ?_
  refine p_iconst 194 c141_193 rfl ?_
  refine p_iadd 195 c141_194 rfl ?_
  refine p_aload 196 c141_195 rfl rfl ?_
  refine p_iload 197 c141_196 rfl rfl ?_
  refine p_aload 198 c141_197 rfl rfl ?_
  refine p_getR 201 c141_198 rfl kf376_40 ?_
  refine p_iload 202 c141_201 rfl rfl ?_
  refine p_iconst 203 c141_202 rfl ?_
  refine p_iadd 204 c141_203 rfl ?_
  refine p_iaX 205 (m 403 (wr (x3 + 4)).toNat) c141_204 rfl ka403 (rg_wr _) rfl (fun hx5849 => ?_)
  refine p_cO 208 [.ref 376, yI x1, yI (m 403 (wr (x3 + 4)).toNat)] [yI (wr (x3 + 4)), .ref 403] c141_205 rfl rfl rfl (fun k' hk' d' => d120 (f := f) (by omega) gx1 (hR.rg _ _) hR) (fun r5854 hF5852 hg5853 n5851 k5850 hk5850 => ?_)
  have hX5855 := hX.trans (bP_s hF5852)
  refine p_iaS 209 c141_208 rfl ka403 (rg_wr _) r5854 (nar0 hg5853) (fun hx5856 => ?_)
  have hR5857 := hR.up 403 (wr (x3 + 4)).toNat (v := r5854) (nselA (by decide)) hg5853
  exact tJ141_209 (f := f) (by omega) gx1 gx2 hR5857 (fun y0 y1 m' n' e' h0 hR' k' hk' => Hn y0 y1 m' n' (hX5855.trans e') h0 hR' k' (by omega)) (fun y0 y1 m' n' e' h0 hR' k' hk' => He y0 y1 m' n' (hX5855.trans e') h0 hR' k' (by omega)) (fun m' e' => Hr m' (hX5855.trans e'))
def B141_147 (f : Nat) (x1 : Int) (x2 : Int) (m : yM) : Option ((Int × yM) ⊕ ((Int × yM) ⊕ (Unit × yM))) := (if x2 < m 390 x1.toNat then (if m 403 (wr ((wr (1000 * x1)) + (wr (8 * x2)))).toNat = 4 then (J141_188 f x1 x2 (wr ((wr (1000 * x1)) + (wr (8 * x2)))) m) else (if m 403 (wr ((wr (1000 * x1)) + (wr (8 * x2)))).toNat = 5 then (J141_188 f x1 x2 (wr ((wr (1000 * x1)) + (wr (8 * x2)))) m) else (J141_209 f x1 x2 m))) else (some (.inr (.inl (x2, m)))))
set_option maxRecDepth 100000 in
theorem tB141_147 {L : Nat} {xs : Nat → Int32} {Q : xO → yM → Nat → Prop} {k d n : Nat} {c : yS3} {f : Nat} {x1 : Int} {x2 : Int} {m : yM} {j3 : Option Value} (hk : k ≤ f) (gx1 : rg x1) (gx2 : rg x2) (hR : RM c m) (Hn : ∀ (y0 : Int) (z0 : Option Value) (m' : yM) (n' : Nat), B141_147 f x1 x2 m = some (.inl (y0, m')) → rg y0 → RM c m' → ∀ k', k' < k → PW (gZ L xs) k' 141 d 147 [some (.ref 376), some (yI x1), some (yI y0), z0] [] m' n' Q) (He : ∀ (y0 : Int) (z0 : Option Value) (m' : yM) (n' : Nat), B141_147 f x1 x2 m = some (.inr (.inl (y0, m'))) → rg y0 → RM c m' → ∀ k', k' ≤ k → PW (gZ L xs) k' 141 d 215 [some (.ref 376), some (yI x1), some (yI y0), z0] [] m' n' Q) (Hr : ∀ m', B141_147 f x1 x2 m = some (.inr (.inr ((), m'))) → RM c m' → ∀ n', Q (.inl none) m' n') : PW (gZ L xs) k 141 d 147 [some (.ref 376), some (yI x1), some (yI x2), j3] [] m n Q := by
  have hX : B141_147 f x1 x2 m = B141_147 f x1 x2 m := rfl
  refine p_iload 148 c141_147 rfl rfl ?_
  refine p_aload 149 c141_148 rfl rfl ?_
  refine p_getR 152 c141_149 rfl kf376_27 ?_
  refine p_iload 153 c141_152 rfl rfl ?_
  refine p_iaX 154 (m 390 x1.toNat) c141_153 rfl ka390 gx1 rfl (fun hx5838 => ?_)
  refine p_icmp 215 157 c141_154 rfl rfl ((yc_ge gx2 (hR.rg _ _)).trans Int.not_lt.symm) (fun hb5839 k5840 hk5840 => ?_) (fun hb5839 k5841 hk5841 => ?_)
  · have hX5842 := hX.trans (if_neg hb5839)
    exact He _ _ _ _ hX5842 gx2 hR _ (by omega)
  · have hX5843 := hX.trans (if_pos (Classical.not_not.mp hb5839))
    refine p_iconst 160 c141_157 rfl ?_
    refine p_iload 161 c141_160 rfl rfl ?_
    refine p_imul 162 c141_161 rfl ?_
    refine p_iconst 164 c141_162 rfl ?_
    refine p_iload 165 c141_164 rfl rfl ?_
    refine p_imul 166 c141_165 rfl ?_
    refine p_iadd 167 c141_166 rfl ?_
    refine p_istore 168 c141_167 rfl rfl ?_
    refine p_aload 169 c141_168 rfl rfl ?_
    refine p_getR 172 c141_169 rfl kf376_40 ?_
    refine p_iload 173 c141_172 rfl rfl ?_
    refine p_iaX 174 (m 403 (wr ((wr (1000 * x1)) + (wr (8 * x2)))).toNat) c141_173 rfl ka403 (rg_wr _) rfl (fun hx5844 => ?_)
    refine p_iconst 175 c141_174 rfl ?_
    refine p_icmp 188 178 c141_175 rfl rfl (yc_eq (hR.rg _ _) (rgD rfl)) (fun hb5845 k5846 hk5846 => ?_) (fun hb5845 k5847 hk5847 => ?_)
    · have hX5848 := hX5843.trans (if_pos hb5845)
      exact tJ141_188 (f := f) (by omega) gx1 gx2 (rg_wr _) hR (fun y0 y1 m' n' e' h0 hR' k' hk' => Hn y0 y1 m' n' (hX5848.trans e') h0 hR' k' (by omega)) (fun y0 y1 m' n' e' h0 hR' k' hk' => He y0 y1 m' n' (hX5848.trans e') h0 hR' k' (by omega)) (fun m' e' => Hr m' (hX5848.trans e'))
    · have hX5859 := hX5843.trans (if_neg hb5845)
      refine p_aload 179 c141_178 rfl rfl ?_
      refine p_getR 182 c141_179 rfl kf376_40 ?_
      refine p_iload 183 c141_182 rfl rfl ?_
      refine p_iaX 184 (m 403 (wr ((wr (1000 * x1)) + (wr (8 * x2)))).toNat) c141_183 rfl ka403 (rg_wr _) rfl (fun hx5860 => ?_)
      refine p_iconst 185 c141_184 rfl ?_
      refine p_icmp 209 188 c141_185 rfl rfl (yc_ne (hR.rg _ _) (rgD rfl)) (fun hb5861 k5862 hk5862 => ?_) (fun hb5861 k5863 hk5863 => ?_)
      · have hX5864 := hX5859.trans (if_neg hb5861)
        exact tJ141_209 (f := f) (by omega) gx1 gx2 hR (fun y0 y1 m' n' e' h0 hR' k' hk' => Hn y0 y1 m' n' (hX5864.trans e') h0 hR' k' (by omega)) (fun y0 y1 m' n' e' h0 hR' k' hk' => He y0 y1 m' n' (hX5864.trans e') h0 hR' k' (by omega)) (fun m' e' => Hr m' (hX5864.trans e'))
      · have hX5865 := hX5859.trans (if_pos (Classical.not_not.mp hb5861))
        exact tJ141_188 (f := f) (by omega) gx1 gx2 (rg_wr _) hR (fun y0 y1 m' n' e' h0 hR' k' hk' => Hn y0 y1 m' n' (hX5865.trans e') h0 hR' k' (by omega)) (fun y0 y1 m' n' e' h0 hR' k' hk' => He y0 y1 m' n' (hX5865.trans e') h0 hR' k' (by omega)) (fun m' e' => Hr m' (hX5865.trans e'))
def J141_47 (f : Nat) (x1 : Int) (m : yM) : Option yM := (if m 376 8 < 0 then (bL (yloop (fun (l : Int) ml => B141_57 f x1 l ml) f 1 m) (fun l5804 m5810 => (bL (yloop (fun (l : Int) ml => B141_102 f x1 l ml) f 0 m5810) (fun l5829 m5835 => (bL (yloop (fun (l : Int) ml => B141_147 f x1 l ml) f 0 m5835) (fun l5866 m5872 => (some m5872)) (fun _ mr => some mr))) (fun _ mr => some mr))) (fun _ mr => some mr)) else (some m))
set_option maxRecDepth 100000 in
theorem tJ141_47 {L : Nat} {xs : Nat → Int32} {Q : xO → yM → Nat → Prop} {k d n : Nat} {c : yS3} {f : Nat} {x1 : Int} {m : yM} {j2 j3 : Option Value} (hk : k ≤ f) (gx1 : rg x1) (hR : RM c m) (Hr : ∀ m', J141_47 f x1 m = some m' → RM c m' → ∀ n', Q (.inl none) m' n') : PW (gZ L xs) k 141 d 47 [some (.ref 376), some (yI x1), j2, j3] [] m n Q := by
  have hX : J141_47 f x1 m = J141_47 f x1 m := rfl
  refine p_aload 48 c141_47 rfl rfl ?_
  refine p_getX 51 (m 376 8) c141_48 rfl kf376_8 rfl ?_
  refine p_if 55 54 c141_51 rfl rfl (yz_lt (hR.rg _ _)) (fun hb5784 k5785 hk5785 => ?_) (fun hb5784 k5786 hk5786 => ?_)
  · have hX5787 := hX.trans (if_pos hb5784)
    refine p_iconst 56 c141_55 rfl ?_
    refine p_istore 57 c141_56 rfl rfl ?_
    refine PW.loop (K := k5785) (pce := 100) (fun (l : Int) ml => B141_57 f x1 l ml) (fun (l : Int) j => [some (.ref 376), some (yI x1), some (yI l), j 3]) (fun (l : Int) => rg l) (RM c) (fun (r' : Unit) m' => RM c m' → ∀ n' : Nat, Q (.inl none) m' n') (fun k' hk' l j m' n' hl hI Hn' He' Hr' => tB141_57 (f := f) (by omega) gx1 hl hI (fun y0 y1 m2 n2 e h0 hR2 => Hn' y0 (fun q => ([none, none, none, y1] : List (Option Value)).getD q none) m2 n2 e h0 hR2) (fun y0 y1 m2 n2 e h0 hR2 => He' y0 (fun q => ([none, none, none, y1] : List (Option Value)).getD q none) m2 n2 e h0 hR2) (fun m2 e => Hr' () m2 e)) f k5785 (by omega) (Nat.le_refl _) 1 (fun q => ([some (.ref 376), some (yI x1), some (yI 1), j3] : xL).getD q none) _ _ (rgD rfl) hR (fun l5804 j5807 m5810 n5809 e5806 hl5805 hR5811 k5808 hk5808 => ?_) (fun r' m' e' => ?_)
    · have hX5812 := hX5787.trans (bL_l e5806)
      refine p_iconst 101 c141_100 rfl ?_
      refine p_istore 102 c141_101 rfl rfl ?_
      refine PW.loop (K := k5808) (pce := 145) (fun (l : Int) ml => B141_102 f x1 l ml) (fun (l : Int) j => [some (.ref 376), some (yI x1), some (yI l), j 3]) (fun (l : Int) => rg l) (RM c) (fun (r' : Unit) m' => RM c m' → ∀ n' : Nat, Q (.inl none) m' n') (fun k' hk' l j m' n' hl hI Hn' He' Hr' => tB141_102 (f := f) (by omega) gx1 hl hI (fun y0 y1 m2 n2 e h0 hR2 => Hn' y0 (fun q => ([none, none, none, y1] : List (Option Value)).getD q none) m2 n2 e h0 hR2) (fun y0 y1 m2 n2 e h0 hR2 => He' y0 (fun q => ([none, none, none, y1] : List (Option Value)).getD q none) m2 n2 e h0 hR2) (fun m2 e => Hr' () m2 e)) f k5808 (by omega) (Nat.le_refl _) 0 (fun q => ([some (.ref 376), some (yI x1), some (yI 0), j5807 3] : xL).getD q none) _ _ (rgD rfl) hR5811 (fun l5829 j5832 m5835 n5834 e5831 hl5830 hR5836 k5833 hk5833 => ?_) (fun r' m' e' => ?_)
      · have hX5837 := hX5812.trans (bL_l e5831)
        refine p_iconst 146 c141_145 rfl ?_
        refine p_istore 147 c141_146 rfl rfl ?_
        refine PW.loop (K := k5833) (pce := 215) (fun (l : Int) ml => B141_147 f x1 l ml) (fun (l : Int) j => [some (.ref 376), some (yI x1), some (yI l), j 3]) (fun (l : Int) => rg l) (RM c) (fun (r' : Unit) m' => RM c m' → ∀ n' : Nat, Q (.inl none) m' n') (fun k' hk' l j m' n' hl hI Hn' He' Hr' => tB141_147 (f := f) (by omega) gx1 hl hI (fun y0 y1 m2 n2 e h0 hR2 => Hn' y0 (fun q => ([none, none, none, y1] : List (Option Value)).getD q none) m2 n2 e h0 hR2) (fun y0 y1 m2 n2 e h0 hR2 => He' y0 (fun q => ([none, none, none, y1] : List (Option Value)).getD q none) m2 n2 e h0 hR2) (fun m2 e => Hr' () m2 e)) f k5833 (by omega) (Nat.le_refl _) 0 (fun q => ([some (.ref 376), some (yI x1), some (yI 0), j5832 3] : xL).getD q none) _ _ (rgD rfl) hR5836 (fun l5866 j5869 m5872 n5871 e5868 hl5867 hR5873 k5870 hk5870 => ?_) (fun r' m' e' => ?_)
        · have hX5874 := hX5837.trans (bL_l e5868)
          exact p_return c141_215 (Hr _ hX5874 hR5873 _)
        · exact Hr m' (hX5837.trans (bL_r e'))
      · exact Hr m' (hX5812.trans (bL_r e'))
    · exact Hr m' (hX5787.trans (bL_r e'))
  · have hX5875 := hX.trans (if_neg hb5784)
    exact p_return c141_54 (Hr _ hX5875 hR _)
def F141 (f : Nat) (x1 : Int) (m : yM) : Option yM := (bL (yloop (fun (l : Int) ml => B141_2 f x1 l ml) f 0 m) (fun l5775 m5781 => (J141_47 f x1 m5781)) (fun _ mr => some mr))
set_option maxRecDepth 100000 in
theorem d141 {L : Nat} {xs : Nat → Int32} {k d n : Nat} {c : yS3} {f : Nat} {x1 : Int} {m : yM} (hk : k ≤ f) (gx1 : rg x1) (hR : RM c m) : PC (gZ L xs) k d 141 [.ref 376, yI x1] m n (qV c (F141 f x1 m)) := by
  have hX : F141 f x1 m = F141 f x1 m := rfl
  have Hr : ∀ m', F141 f x1 m = some m' → RM c m' → ∀ n' : Nat, (qV c (F141 f x1 m)) (.inl none) m' n' := fun m' e h n' => ⟨rfl, h, e⟩
  refine PC.mk [some (.ref 376), some (yI x1), none, none] kn141 rfl ?_
  refine p_iconst 1 c141_0 rfl ?_
  refine p_istore 2 c141_1 rfl rfl ?_
  refine PW.loop (K := k) (pce := 47) (fun (l : Int) ml => B141_2 f x1 l ml) (fun (l : Int) j => [some (.ref 376), some (yI x1), some (yI l), j 3]) (fun (l : Int) => rg l) (RM c) (fun (r' : Unit) m' => RM c m' → ∀ n' : Nat, (qV c (F141 f x1 m)) (.inl none) m' n') (fun k' hk' l j m' n' hl hI Hn' He' Hr' => tB141_2 (f := f) (by omega) gx1 hl hI (fun y0 y1 m2 n2 e h0 hR2 => Hn' y0 (fun q => ([none, none, none, y1] : List (Option Value)).getD q none) m2 n2 e h0 hR2) (fun y0 y1 m2 n2 e h0 hR2 => He' y0 (fun q => ([none, none, none, y1] : List (Option Value)).getD q none) m2 n2 e h0 hR2) (fun m2 e => Hr' () m2 e)) f k (by omega) (Nat.le_refl _) 0 (fun q => ([some (.ref 376), some (yI x1), some (yI 0), none] : xL).getD q none) _ _ (rgD rfl) hR (fun l5775 j5778 m5781 n5780 e5777 hl5776 hR5782 k5779 hk5779 => ?_) (fun r' m' e' => ?_)
  · have hX5783 := hX.trans (bL_l e5777)
    exact tJ141_47 (f := f) (by omega) gx1 hR5782 (fun m' e' => Hr m' (hX5783.trans e'))
  · exact Hr m' (hX.trans (bL_r e'))
def B152_99 (f : Nat) (x1 : Int) (m : yM) : Option ((Unit × yM) ⊕ ((Unit × yM) ⊕ (Int × yM))) := (if m 376 8 < 0 then (if m 376 3 = 0 then (some (.inr (.inl ((), m)))) else (bU (F140 f m) (fun m5038 => (some (.inl ((), m5038)))))) else (some (.inr (.inl ((), m)))))
set_option maxRecDepth 100000 in
theorem tB152_99 {L : Nat} {xs : Nat → Int32} {Q : xO → yM → Nat → Prop} {k d n : Nat} {c : yS3} {f : Nat} {x1 : Int} {m : yM} {j2 j3 : Option Value} (hk : k ≤ f) (gx1 : rg x1) (hR : RM c m) (Hn : ∀ (z0 z1 : Option Value) (m' : yM) (n' : Nat), B152_99 f x1 m = some (.inl ((), m')) → RM c m' → ∀ k', k' < k → PW (gZ L xs) k' 152 d 99 [some (.ref 376), some (yI x1), z0, z1] [] m' n' Q) (He : ∀ (z0 z1 : Option Value) (m' : yM) (n' : Nat), B152_99 f x1 m = some (.inr (.inl ((), m'))) → RM c m' → ∀ k', k' ≤ k → PW (gZ L xs) k' 152 d 120 [some (.ref 376), some (yI x1), z0, z1] [] m' n' Q) (Hr : ∀ r m', B152_99 f x1 m = some (.inr (.inr (r, m'))) → rg r → RM c m' → ∀ n', Q (.inl (some (yI r))) m' n') : PW (gZ L xs) k 152 d 99 [some (.ref 376), some (yI x1), j2, j3] [] m n Q := by
  have hX : B152_99 f x1 m = B152_99 f x1 m := rfl
  refine p_aload 100 c152_99 rfl rfl ?_
  refine p_getX 103 (m 376 8) c152_100 rfl kf376_8 rfl ?_
  refine p_if 120 106 c152_103 rfl rfl ((yz_ge (hR.rg _ _)).trans Int.not_lt.symm) (fun hb5022 k5023 hk5023 => ?_) (fun hb5022 k5024 hk5024 => ?_)
  · have hX5025 := hX.trans (if_neg hb5022)
    exact He _ _ _ _ hX5025 hR _ (by omega)
  · have hX5026 := hX.trans (if_pos (Classical.not_not.mp hb5022))
    refine p_aload 107 c152_106 rfl rfl ?_
    refine p_getX 110 (m 376 3) c152_107 rfl kf376_3 rfl ?_
    refine p_if 120 113 c152_110 rfl rfl (yz_eq (hR.rg _ _)) (fun hb5027 k5028 hk5028 => ?_) (fun hb5027 k5029 hk5029 => ?_)
    · have hX5030 := hX5026.trans (if_pos hb5027)
      exact He _ _ _ _ hX5030 hR _ (by omega)
    · have hX5031 := hX5026.trans (if_neg hb5027)
      refine p_aload 114 c152_113 rfl rfl ?_
      refine p_cV 117 [.ref 376] [] c152_114 rfl rfl rfl (fun k' hk' d' => d140 (f := f) (by omega) hR) (fun m5038 hF5034 hR5039 n5033 k5032 hk5032 => ?_)
      have hX5037 := hX5031.trans (bU_s hF5034)
      refine p_gotoD 99 c152_117 rfl (fun k5040 hk5040 => ?_)
      exact Hn _ _ _ _ hX5037 hR5039 _ (by omega)
def B152_179 (f : Nat) (x2 : Int) (m : yM) : Option ((Int × yM) ⊕ ((Int × yM) ⊕ (Int × yM))) := (if x2 < 576 then (some (.inl ((wr (x2 + 1)), yup m 408 x2.toNat 0))) else (some (.inr (.inl (x2, m)))))
set_option maxRecDepth 100000 in
theorem tB152_179 {L : Nat} {xs : Nat → Int32} {Q : xO → yM → Nat → Prop} {k d n : Nat} {c : yS3} {f : Nat} {x2 : Int} {m : yM} {j1 j3 : Option Value} (hk : k ≤ f) (gx2 : rg x2) (hR : RM c m) (Hn : ∀ (y0 : Int) (z0 z1 : Option Value) (m' : yM) (n' : Nat), B152_179 f x2 m = some (.inl (y0, m')) → rg y0 → RM c m' → ∀ k', k' < k → PW (gZ L xs) k' 152 d 179 [some (.ref 376), z0, some (yI y0), z1] [] m' n' Q) (He : ∀ (y0 : Int) (z0 z1 : Option Value) (m' : yM) (n' : Nat), B152_179 f x2 m = some (.inr (.inl (y0, m'))) → rg y0 → RM c m' → ∀ k', k' ≤ k → PW (gZ L xs) k' 152 d 199 [some (.ref 376), z0, some (yI y0), z1] [] m' n' Q) (Hr : ∀ r m', B152_179 f x2 m = some (.inr (.inr (r, m'))) → rg r → RM c m' → ∀ n', Q (.inl (some (yI r))) m' n') : PW (gZ L xs) k 152 d 179 [some (.ref 376), j1, some (yI x2), j3] [] m n Q := by
  have hX : B152_179 f x2 m = B152_179 f x2 m := rfl
  refine p_iload 180 c152_179 rfl rfl ?_
  refine p_iconst 183 c152_180 rfl ?_
  refine p_icmp 199 186 c152_183 rfl rfl ((yc_ge gx2 (rgD rfl)).trans Int.not_lt.symm) (fun hb5074 k5075 hk5075 => ?_) (fun hb5074 k5076 hk5076 => ?_)
  · have hX5077 := hX.trans (if_neg hb5074)
    exact He _ _ _ _ _ hX5077 gx2 hR _ (by omega)
  · have hX5078 := hX.trans (if_pos (Classical.not_not.mp hb5074))
    refine p_aload 187 c152_186 rfl rfl ?_
    refine p_getR 190 c152_187 rfl kf376_48 ?_
    refine p_iload 191 c152_190 rfl rfl ?_
    refine p_iconst 192 c152_191 rfl ?_
    refine p_iaS 193 c152_192 rfl ka408 gx2 0 rfl (fun hx5079 => ?_)
    have hR5080 := hR.up 408 x2.toNat (v := 0) (nselA (by decide)) (rgD rfl)
    refine p_iinc 196 c152_193 rfl rfl rfl ?_
    refine p_gotoD 179 c152_196 rfl (fun k5081 hk5081 => ?_)
    exact Hn _ _ _ _ _ hX5078 (rg_wr _) hR5080 _ (by omega)
def J152_226 (f : Nat) (x2 : Int) (x3 : Int) (m : yM) : Option (((Int × Int) × yM) ⊕ (((Int × Int) × yM) ⊕ (Int × yM))) := (some (.inl ((x2, wr (x3 + 1)), m)))
set_option maxRecDepth 100000 in
theorem tJ152_226 {L : Nat} {xs : Nat → Int32} {Q : xO → yM → Nat → Prop} {k d n : Nat} {c : yS3} {f : Nat} {x2 : Int} {x3 : Int} {m : yM} {j1 : Option Value} (hk : k ≤ f) (gx2 : rg x2) (gx3 : rg x3) (hR : RM c m) (Hn : ∀ (y0 y1 : Int) (z0 : Option Value) (m' : yM) (n' : Nat), J152_226 f x2 x3 m = some (.inl ((y0, y1), m')) → rg y0 → rg y1 → RM c m' → ∀ k', k' < k → PW (gZ L xs) k' 152 d 207 [some (.ref 376), z0, some (yI y0), some (yI y1)] [] m' n' Q) (He : ∀ (y0 y1 : Int) (z0 : Option Value) (m' : yM) (n' : Nat), J152_226 f x2 x3 m = some (.inr (.inl ((y0, y1), m'))) → rg y0 → rg y1 → RM c m' → ∀ k', k' ≤ k → PW (gZ L xs) k' 152 d 232 [some (.ref 376), z0, some (yI y0), some (yI y1)] [] m' n' Q) (Hr : ∀ r m', J152_226 f x2 x3 m = some (.inr (.inr (r, m'))) → rg r → RM c m' → ∀ n', Q (.inl (some (yI r))) m' n') : PW (gZ L xs) k 152 d 226 [some (.ref 376), j1, some (yI x2), some (yI x3)] [] m n Q := by
  have hX : J152_226 f x2 x3 m = J152_226 f x2 x3 m := rfl
  refine p_iinc 229 c152_226 rfl rfl rfl ?_
  refine p_gotoD 207 c152_229 rfl (fun k5734 hk5734 => ?_)
  exact Hn _ _ _ _ _ hX gx2 (rg_wr _) hR _ (by omega)
def B152_207 (f : Nat) (x2 : Int) (x3 : Int) (m : yM) : Option (((Int × Int) × yM) ⊕ (((Int × Int) × yM) ⊕ (Int × yM))) := (if x3 < 576 then (if m 404 x3.toNat < 0 then (J152_226 f x2 x3 m) else (J152_226 f (wr (x2 + 1)) x3 m)) else (some (.inr (.inl ((x2, x3), m)))))
set_option maxRecDepth 100000 in
theorem tB152_207 {L : Nat} {xs : Nat → Int32} {Q : xO → yM → Nat → Prop} {k d n : Nat} {c : yS3} {f : Nat} {x2 : Int} {x3 : Int} {m : yM} {j1 : Option Value} (hk : k ≤ f) (gx2 : rg x2) (gx3 : rg x3) (hR : RM c m) (Hn : ∀ (y0 y1 : Int) (z0 : Option Value) (m' : yM) (n' : Nat), B152_207 f x2 x3 m = some (.inl ((y0, y1), m')) → rg y0 → rg y1 → RM c m' → ∀ k', k' < k → PW (gZ L xs) k' 152 d 207 [some (.ref 376), z0, some (yI y0), some (yI y1)] [] m' n' Q) (He : ∀ (y0 y1 : Int) (z0 : Option Value) (m' : yM) (n' : Nat), B152_207 f x2 x3 m = some (.inr (.inl ((y0, y1), m'))) → rg y0 → rg y1 → RM c m' → ∀ k', k' ≤ k → PW (gZ L xs) k' 152 d 232 [some (.ref 376), z0, some (yI y0), some (yI y1)] [] m' n' Q) (Hr : ∀ r m', B152_207 f x2 x3 m = some (.inr (.inr (r, m'))) → rg r → RM c m' → ∀ n', Q (.inl (some (yI r))) m' n') : PW (gZ L xs) k 152 d 207 [some (.ref 376), j1, some (yI x2), some (yI x3)] [] m n Q := by
  have hX : B152_207 f x2 x3 m = B152_207 f x2 x3 m := rfl
  refine p_iload 208 c152_207 rfl rfl ?_
  refine p_iconst 211 c152_208 rfl ?_
  refine p_icmp 232 214 c152_211 rfl rfl ((yc_ge gx3 (rgD rfl)).trans Int.not_lt.symm) (fun hb5724 k5725 hk5725 => ?_) (fun hb5724 k5726 hk5726 => ?_)
  · have hX5727 := hX.trans (if_neg hb5724)
    exact He _ _ _ _ _ hX5727 gx2 gx3 hR _ (by omega)
  · have hX5728 := hX.trans (if_pos (Classical.not_not.mp hb5724))
    refine p_aload 215 c152_214 rfl rfl ?_
    refine p_getR 218 c152_215 rfl kf376_41 ?_
    refine p_iload 219 c152_218 rfl rfl ?_
    refine p_iaX 220 (m 404 x3.toNat) c152_219 rfl ka404 gx3 rfl (fun hx5729 => ?_)
    refine p_if 226 223 c152_220 rfl rfl (yz_lt (hR.rg _ _)) (fun hb5730 k5731 hk5731 => ?_) (fun hb5730 k5732 hk5732 => ?_)
    · have hX5733 := hX5728.trans (if_pos hb5730)
      exact tJ152_226 (f := f) (by omega) gx2 gx3 hR (fun y0 y1 y2 m' n' e' h0 h1 hR' k' hk' => Hn y0 y1 y2 m' n' (hX5733.trans e') h0 h1 hR' k' (by omega)) (fun y0 y1 y2 m' n' e' h0 h1 hR' k' hk' => He y0 y1 y2 m' n' (hX5733.trans e') h0 h1 hR' k' (by omega)) (fun r' m' e' => Hr r' m' (hX5733.trans e'))
    · have hX5735 := hX5728.trans (if_neg hb5730)
      refine p_iinc 226 c152_223 rfl rfl rfl ?_
      exact tJ152_226 (f := f) (by omega) (rg_wr _) gx3 hR (fun y0 y1 y2 m' n' e' h0 h1 hR' k' hk' => Hn y0 y1 y2 m' n' (hX5735.trans e') h0 h1 hR' k' (by omega)) (fun y0 y1 y2 m' n' e' h0 h1 hR' k' hk' => He y0 y1 y2 m' n' (hX5735.trans e') h0 h1 hR' k' (by omega)) (fun r' m' e' => Hr r' m' (hX5735.trans e'))
def J152_153 (f : Nat) (x1 : Int) (xs1 : Int) (m : yM) : Option (Int × yM) := (bI (F23 f xs1 1 m) (fun r5063 m5065 => (if r5063 = 0 then (some (0, m5065)) else (bL (yloop (fun (l : Int) ml => B152_179 f l ml) f 0 (yup (yup (yup m5065 376 18 x1) 376 19 1) 376 51 0)) (fun l5082 m5088 => (bU (F151 f m5088) (fun m5722 => (bL (yloop (fun (l : Int × Int) ml => B152_207 f l.1 l.2 ml) f (0, 0) m5722) (fun l5736 m5742 => (some (l5736.1, m5742))) (fun r mr => some (r, mr)))))) (fun r mr => some (r, mr))))))
set_option maxRecDepth 100000 in
theorem tJ152_153 {L : Nat} {xs : Nat → Int32} {Q : xO → yM → Nat → Prop} {k d n : Nat} {c : yS3} {f : Nat} {x1 : Int} {xs1 : Int} {m : yM} {j2 j3 : Option Value} (hk : k ≤ f) (gx1 : rg x1) (gxs1 : rg xs1) (hR : RM c m) (Hr : ∀ r m', J152_153 f x1 xs1 m = some (r, m') → rg r → RM c m' → ∀ n', Q (.inl (some (yI r))) m' n') : PW (gZ L xs) k 152 d 153 [some (.ref 376), some (yI x1), j2, j3] [yI xs1, .ref 376] m n Q := by
  have hX : J152_153 f x1 xs1 m = J152_153 f x1 xs1 m := rfl
  refine p_iconst 154 c152_153 rfl ?_
  refine p_cS 157 [.ref 376, yI xs1, yI 1] [] c152_154 rfl rfl rfl (fun k' hk' d' => d23 (f := f) (by omega) gxs1 (rgD rfl) hR) (fun r5063 m5065 hF5061 hg5062 hR5066 n5060 k5059 hk5059 => ?_)
  have hX5064 := hX.trans (bI_s hF5061)
  refine p_if 162 160 c152_157 rfl rfl (yz_ne hg5062) (fun hb5067 k5068 hk5068 => ?_) (fun hb5067 k5069 hk5069 => ?_)
  · have hX5070 := hX5064.trans (if_neg hb5067)
    refine p_aload 163 c152_162 rfl rfl ?_
    refine p_iload 164 c152_163 rfl rfl ?_
    refine p_putI 167 c152_164 rfl kf376_18 ?_
    have hR5071 := hR5066.up 376 18 (v := x1) (nselD rfl) gx1
    refine p_aload 168 c152_167 rfl rfl ?_
    refine p_iconst 169 c152_168 rfl ?_
    refine p_putI 172 c152_169 rfl kf376_19 ?_
    have hR5072 := hR5071.up 376 19 (v := 1) (nselD rfl) (rgD rfl)
    refine p_aload 173 c152_172 rfl rfl ?_
    refine p_iconst 174 c152_173 rfl ?_
    refine p_putI 177 c152_174 rfl kf376_51 ?_
    have hR5073 := hR5072.up 376 51 (v := 0) (nselD rfl) (rgD rfl)
    refine p_iconst 178 c152_177 rfl ?_
    refine p_istore 179 c152_178 rfl rfl ?_
    refine PW.loop (K := k5068) (pce := 199) (fun (l : Int) ml => B152_179 f l ml) (fun (l : Int) j => [some (.ref 376), j 1, some (yI l), j 3]) (fun (l : Int) => rg l) (RM c) (fun r' m' => rg r' → RM c m' → ∀ n' : Nat, Q (.inl (some (yI r'))) m' n') (fun k' hk' l j m' n' hl hI Hn' He' Hr' => tB152_179 (f := f) (by omega) hl hI (fun y0 y1 y2 m2 n2 e h0 hR2 => Hn' y0 (fun q => ([none, y1, none, y2] : List (Option Value)).getD q none) m2 n2 e h0 hR2) (fun y0 y1 y2 m2 n2 e h0 hR2 => He' y0 (fun q => ([none, y1, none, y2] : List (Option Value)).getD q none) m2 n2 e h0 hR2) Hr') f k5068 (by omega) (Nat.le_refl _) 0 (fun q => ([some (.ref 376), some (yI x1), some (yI 0), j3] : xL).getD q none) _ _ (rgD rfl) hR5073 (fun l5082 j5085 m5088 n5087 e5084 hl5083 hR5089 k5086 hk5086 => ?_) (fun r' m' e' => ?_)
    · have hX5090 := hX5070.trans (bL_l e5084)
      refine p_aload 200 c152_199 rfl rfl ?_
      refine p_cV 203 [.ref 376] [] c152_200 rfl rfl rfl (fun k' hk' d' => d151 (f := f) (by omega) hR5089) (fun m5722 hF5718 hR5723 n5092 k5091 hk5091 => ?_)
      have hX5721 := hX5090.trans (bU_s hF5718)
      refine p_iconst 204 c152_203 rfl ?_
      refine p_istore 205 c152_204 rfl rfl ?_
      refine p_iconst 206 c152_205 rfl ?_
      refine p_istore 207 c152_206 rfl rfl ?_
      refine PW.loop (K := k5091) (pce := 232) (fun (l : Int × Int) ml => B152_207 f l.1 l.2 ml) (fun (l : Int × Int) j => [some (.ref 376), j 1, some (yI l.1), some (yI l.2)]) (fun (l : Int × Int) => rg l.1 ∧ rg l.2) (RM c) (fun r' m' => rg r' → RM c m' → ∀ n' : Nat, Q (.inl (some (yI r'))) m' n') (fun k' hk' l j m' n' hl hI Hn' He' Hr' => tB152_207 (f := f) (by omega) hl.1 hl.2 hI (fun y0 y1 y2 m2 n2 e h0 h1 hR2 => Hn' (y0, y1) (fun q => ([none, y2, none, none] : List (Option Value)).getD q none) m2 n2 e ⟨h0, h1⟩ hR2) (fun y0 y1 y2 m2 n2 e h0 h1 hR2 => He' (y0, y1) (fun q => ([none, y2, none, none] : List (Option Value)).getD q none) m2 n2 e ⟨h0, h1⟩ hR2) Hr') f k5091 (by omega) (Nat.le_refl _) (0, 0) (fun q => ([some (.ref 376), j5085 1, some (yI 0), some (yI 0)] : xL).getD q none) _ _ ⟨(rgD rfl), (rgD rfl)⟩ hR5723 (fun l5736 j5739 m5742 n5741 e5738 hl5737 hR5743 k5740 hk5740 => ?_) (fun r' m' e' => ?_)
      · have hX5744 := hX5721.trans (bL_l e5738)
        refine p_iload 233 c152_232 rfl rfl ?_
        exact p_ireturn c152_233 (Hr _ _ hX5744 hl5737.1 hR5743 _)
      · exact Hr r' m' (hX5721.trans (bL_r e'))
    · exact Hr r' m' (hX5070.trans (bL_r e'))
  · have hX5745 := hX5064.trans (if_pos (Classical.not_not.mp hb5067))
    refine p_iconst 161 c152_160 rfl ?_
    exact p_ireturn c152_161 (Hr _ _ hX5745 (rgD rfl) hR5066 _)
def J152_132 (f : Nat) (x1 : Int) (m : yM) : Option (Int × yM) := (if m 376 8 < 0 then (J152_153 f x1 1 (yup m 376 2 (m 376 8))) else (J152_153 f x1 0 (yup m 376 2 (m 376 8))))
set_option maxRecDepth 100000 in
theorem tJ152_132 {L : Nat} {xs : Nat → Int32} {Q : xO → yM → Nat → Prop} {k d n : Nat} {c : yS3} {f : Nat} {x1 : Int} {m : yM} {j2 j3 : Option Value} (hk : k ≤ f) (gx1 : rg x1) (hR : RM c m) (Hr : ∀ r m', J152_132 f x1 m = some (r, m') → rg r → RM c m' → ∀ n', Q (.inl (some (yI r))) m' n') : PW (gZ L xs) k 152 d 132 [some (.ref 376), some (yI x1), j2, j3] [] m n Q := by
  have hX : J152_132 f x1 m = J152_132 f x1 m := rfl
  refine p_aload 133 c152_132 rfl rfl ?_
  refine p_aload 134 c152_133 rfl rfl ?_
  refine p_getX 137 (m 376 8) c152_134 rfl kf376_8 rfl ?_
  refine p_putI 140 c152_137 rfl kf376_2 ?_
  have hR5054 := hR.up 376 2 (v := m 376 8) (nselD rfl) (hR.rg _ _)
  refine p_aload 141 c152_140 rfl rfl ?_
  refine p_aload 142 c152_141 rfl rfl ?_
  refine p_getX 145 (m 376 8) c152_142 rfl kf376_8 (yup_nk (by decide)) ?_
  refine p_if 152 148 c152_145 rfl rfl ((yz_ge (hR.rg _ _)).trans Int.not_lt.symm) (fun hb5055 k5056 hk5056 => ?_) (fun hb5055 k5057 hk5057 => ?_)
  · have hX5058 := hX.trans (if_neg hb5055)
    refine p_iconst 153 c152_152 rfl ?_
    exact tJ152_153 (f := f) (by omega) gx1 (rgD rfl) hR5054 (fun r' m' e' => Hr r' m' (hX5058.trans e'))
  · have hX5746 := hX.trans (if_pos (Classical.not_not.mp hb5055))
    refine p_iconst 149 c152_148 rfl ?_
    refine p_goto 153 c152_149 rfl ?_
    exact tJ152_153 (f := f) (by omega) gx1 (rgD rfl) hR5054 (fun r' m' e' => Hr r' m' (hX5746.trans e'))
def J152_120 (f : Nat) (x1 : Int) (m : yM) : Option (Int × yM) := (if m 376 8 < 0 then (bU (F141 f x1 m) (fun m5880 => (J152_132 f x1 m5880))) else (J152_132 f x1 m))
set_option maxRecDepth 100000 in
theorem tJ152_120 {L : Nat} {xs : Nat → Int32} {Q : xO → yM → Nat → Prop} {k d n : Nat} {c : yS3} {f : Nat} {x1 : Int} {m : yM} {j2 j3 : Option Value} (hk : k ≤ f) (gx1 : rg x1) (hR : RM c m) (Hr : ∀ r m', J152_120 f x1 m = some (r, m') → rg r → RM c m' → ∀ n', Q (.inl (some (yI r))) m' n') : PW (gZ L xs) k 152 d 120 [some (.ref 376), some (yI x1), j2, j3] [] m n Q := by
  have hX : J152_120 f x1 m = J152_120 f x1 m := rfl
  refine p_aload 121 c152_120 rfl rfl ?_
  refine p_getX 124 (m 376 8) c152_121 rfl kf376_8 rfl ?_
  refine p_if 132 127 c152_124 rfl rfl ((yz_ge (hR.rg _ _)).trans Int.not_lt.symm) (fun hb5050 k5051 hk5051 => ?_) (fun hb5050 k5052 hk5052 => ?_)
  · have hX5053 := hX.trans (if_neg hb5050)
    exact tJ152_132 (f := f) (by omega) gx1 hR (fun r' m' e' => Hr r' m' (hX5053.trans e'))
  · have hX5747 := hX.trans (if_pos (Classical.not_not.mp hb5050))
    refine p_aload 128 c152_127 rfl rfl ?_
    refine p_iload 129 c152_128 rfl rfl ?_
    refine p_cV 132 [.ref 376, yI x1] [] c152_129 rfl rfl rfl (fun k' hk' d' => d141 (f := f) (by omega) gx1 hR) (fun m5880 hF5876 hR5881 n5749 k5748 hk5748 => ?_)
    have hX5879 := hX5747.trans (bU_s hF5876)
    exact tJ152_132 (f := f) (by omega) gx1 hR5881 (fun r' m' e' => Hr r' m' (hX5879.trans e'))
def F152 (f : Nat) (m : yM) : Option (Int × yM) := (bU (F99 f (yup (yup (yup (yup (yup (yup (yup (yup (yup (yup (yup (yup (yup m 383 (F96 m).toNat 0) 384 (F96 m).toNat 0) 385 (F96 m).toNat 0) 386 (F96 m).toNat 0) 387 (F96 m).toNat 0) 388 (F96 m).toNat 1) 389 (F96 m).toNat 0) 390 (F96 m).toNat 0) 400 (wr (12 * (F96 m))).toNat 0) 376 9 0) 376 17 0) 376 6 0) 376 8 ((-1)))) (fun m3048 => (bU (F140 f m3048) (fun m5020 => (bL (yloop (fun (l : Unit) ml => B152_99 f (F96 m) ml) f () m5020) (fun _ m5047 => (J152_120 f (F96 m) m5047)) (fun r mr => some (r, mr)))))))
set_option maxRecDepth 100000 in
theorem d152 {L : Nat} {xs : Nat → Int32} {k d n : Nat} {c : yS3} {f : Nat} {m : yM} (hk : k ≤ f) (hR : RM c m) : PC (gZ L xs) k d 152 [.ref 376] m n (qS c (F152 f m)) := by
  have hX : F152 f m = F152 f m := rfl
  have Hr : ∀ r m', F152 f m = some (r, m') → rg r → RM c m' → ∀ n' : Nat, (qS c (F152 f m)) (.inl (some (yI r))) m' n' := fun r m' e h1 h2 n' => ⟨r, rfl, h1, h2, e⟩
  refine PC.mk [some (.ref 376), none, none, none] kn152 rfl ?_
  refine p_aload 1 c152_0 rfl rfl ?_
  refine p_cX 4 [.ref 376] [] c152_1 rfl rfl rfl (fun k' hk' d' => d96 hR) (fun hg2883 n2882 k2881 hk2881 => ?_)
  refine p_istore 5 c152_4 rfl rfl ?_
  refine p_aload 6 c152_5 rfl rfl ?_
  refine p_getR 9 c152_6 rfl kf376_20 ?_
  refine p_iload 10 c152_9 rfl rfl ?_
  refine p_iconst 11 c152_10 rfl ?_
  refine p_iaS 12 c152_11 rfl ka383 hg2883 0 (nar0 (rgD rfl)) (fun hx2884 => ?_)
  have hR2885 := hR.up 383 (F96 m).toNat (v := 0) (nselA (by decide)) (rgD rfl)
  refine p_aload 13 c152_12 rfl rfl ?_
  refine p_getR 16 c152_13 rfl kf376_21 ?_
  refine p_iload 17 c152_16 rfl rfl ?_
  refine p_iconst 18 c152_17 rfl ?_
  refine p_iaS 19 c152_18 rfl ka384 hg2883 0 (nar0 (rgD rfl)) (fun hx2886 => ?_)
  have hR2887 := hR2885.up 384 (F96 m).toNat (v := 0) (nselA (by decide)) (rgD rfl)
  refine p_aload 20 c152_19 rfl rfl ?_
  refine p_getR 23 c152_20 rfl kf376_22 ?_
  refine p_iload 24 c152_23 rfl rfl ?_
  refine p_iconst 25 c152_24 rfl ?_
  refine p_iaS 26 c152_25 rfl ka385 hg2883 0 (nar0 (rgD rfl)) (fun hx2888 => ?_)
  have hR2889 := hR2887.up 385 (F96 m).toNat (v := 0) (nselA (by decide)) (rgD rfl)
  refine p_aload 27 c152_26 rfl rfl ?_
  refine p_getR 30 c152_27 rfl kf376_23 ?_
  refine p_iload 31 c152_30 rfl rfl ?_
  refine p_iconst 32 c152_31 rfl ?_
  refine p_iaS 33 c152_32 rfl ka386 hg2883 0 (nar0 (rgD rfl)) (fun hx2890 => ?_)
  have hR2891 := hR2889.up 386 (F96 m).toNat (v := 0) (nselA (by decide)) (rgD rfl)
  refine p_aload 34 c152_33 rfl rfl ?_
  refine p_getR 37 c152_34 rfl kf376_24 ?_
  refine p_iload 38 c152_37 rfl rfl ?_
  refine p_iconst 39 c152_38 rfl ?_
  refine p_iaS 40 c152_39 rfl ka387 hg2883 0 (nar0 (rgD rfl)) (fun hx2892 => ?_)
  have hR2893 := hR2891.up 387 (F96 m).toNat (v := 0) (nselA (by decide)) (rgD rfl)
  refine p_aload 41 c152_40 rfl rfl ?_
  refine p_getR 44 c152_41 rfl kf376_25 ?_
  refine p_iload 45 c152_44 rfl rfl ?_
  refine p_iconst 46 c152_45 rfl ?_
  refine p_iaS 47 c152_46 rfl ka388 hg2883 1 (nar0 (rgD rfl)) (fun hx2894 => ?_)
  have hR2895 := hR2893.up 388 (F96 m).toNat (v := 1) (nselA (by decide)) (rgD rfl)
  refine p_aload 48 c152_47 rfl rfl ?_
  refine p_getR 51 c152_48 rfl kf376_26 ?_
  refine p_iload 52 c152_51 rfl rfl ?_
  refine p_iconst 53 c152_52 rfl ?_
  refine p_iaS 54 c152_53 rfl ka389 hg2883 0 (nar0 (rgD rfl)) (fun hx2896 => ?_)
  have hR2897 := hR2895.up 389 (F96 m).toNat (v := 0) (nselA (by decide)) (rgD rfl)
  refine p_aload 55 c152_54 rfl rfl ?_
  refine p_getR 58 c152_55 rfl kf376_27 ?_
  refine p_iload 59 c152_58 rfl rfl ?_
  refine p_iconst 60 c152_59 rfl ?_
  refine p_iaS 61 c152_60 rfl ka390 hg2883 0 (nar0 (rgD rfl)) (fun hx2898 => ?_)
  have hR2899 := hR2897.up 390 (F96 m).toNat (v := 0) (nselA (by decide)) (rgD rfl)
  refine p_aload 62 c152_61 rfl rfl ?_
  refine p_getR 65 c152_62 rfl kf376_37 ?_
  refine p_iconst 67 c152_65 rfl ?_
  refine p_iload 68 c152_67 rfl rfl ?_
  refine p_imul 69 c152_68 rfl ?_
  refine p_iconst 70 c152_69 rfl ?_
  refine p_iaS 71 c152_70 rfl ka400 (rg_wr _) 0 (nar0 (rgD rfl)) (fun hx2900 => ?_)
  have hR2901 := hR2899.up 400 (wr (12 * (F96 m))).toNat (v := 0) (nselA (by decide)) (rgD rfl)
  refine p_aload 72 c152_71 rfl rfl ?_
  refine p_iconst 73 c152_72 rfl ?_
  refine p_putI 76 c152_73 rfl kf376_9 ?_
  have hR2902 := hR2901.up 376 9 (v := 0) (nselD rfl) (rgD rfl)
  refine p_aload 77 c152_76 rfl rfl ?_
  refine p_iconst 78 c152_77 rfl ?_
  refine p_putI 81 c152_78 rfl kf376_17 ?_
  have hR2903 := hR2902.up 376 17 (v := 0) (nselD rfl) (rgD rfl)
  refine p_aload 82 c152_81 rfl rfl ?_
  refine p_iconst 83 c152_82 rfl ?_
  refine p_putI 86 c152_83 rfl kf376_6 ?_
  have hR2904 := hR2903.up 376 6 (v := 0) (nselD rfl) (rgD rfl)
  refine p_aload 87 c152_86 rfl rfl ?_
  refine p_iconst 88 c152_87 rfl ?_
  refine p_putI 91 c152_88 rfl kf376_8 ?_
  have hR2905 := hR2904.up 376 8 (v := (-1)) (nselD rfl) (rgD rfl)
  refine p_aload 92 c152_91 rfl rfl ?_
  refine p_cV 95 [.ref 376] [] c152_92 rfl rfl rfl (fun k' hk' d' => d99 (f := f) (by omega) hR2905) (fun m3048 hF3044 hR3049 n2907 k2906 hk2906 => ?_)
  have hX3047 := hX.trans (bU_s hF3044)
  refine p_aload 96 c152_95 rfl rfl ?_
  refine p_cV 99 [.ref 376] [] c152_96 rfl rfl rfl (fun k' hk' d' => d140 (f := f) (by omega) hR3049) (fun m5020 hF5016 hR5021 n3051 k3050 hk3050 => ?_)
  have hX5019 := hX3047.trans (bU_s hF5016)
  refine PW.loop (K := k3050) (pce := 120) (fun (l : Unit) ml => B152_99 f (F96 m) ml) (fun (l : Unit) j => [some (.ref 376), some (yI (F96 m)), j 2, j 3]) (fun (l : Unit) => True) (RM c) (fun r' m' => rg r' → RM c m' → ∀ n' : Nat, (qS c (F152 f m)) (.inl (some (yI r'))) m' n') (fun k' hk' l j m' n' hl hI Hn' He' Hr' => tB152_99 (f := f) (by omega) hg2883 hI (fun y0 y1 m2 n2 e  hR2 => Hn' () (fun q => ([none, none, y0, y1] : List (Option Value)).getD q none) m2 n2 e trivial hR2) (fun y0 y1 m2 n2 e  hR2 => He' () (fun q => ([none, none, y0, y1] : List (Option Value)).getD q none) m2 n2 e trivial hR2) Hr') f k3050 (by omega) (Nat.le_refl _) () (fun q => ([some (.ref 376), some (yI (F96 m)), none, none] : xL).getD q none) _ _ trivial hR5021 (fun l5041 j5044 m5047 n5046 e5043 hl5042 hR5048 k5045 hk5045 => ?_) (fun r' m' e' => ?_)
  · have hX5049 := hX5019.trans (bL_l e5043)
    exact tJ152_120 (f := f) (by omega) hg2883 hR5048 (fun r' m' e' => Hr r' m' (hX5049.trans e'))
  · exact Hr r' m' (hX5019.trans (bL_r e'))
end
section
/-! FUNCTIONS OF THE METHODS: printed by wip/fn/dc.py -/
def F153 (m : yM) : Int := (m 0 7)
set_option maxRecDepth 100000 in
theorem d153 {L : Nat} {xs : Nat → Int32} {k d n : Nat} {c : yS3} {m : yM} (hR : RM c m) : PC (gZ L xs) k d 153 [.ref 0] m n (qX m (F153 m)) := by
  have hX : F153 m = F153 m := rfl
  have Hr : ∀ r, F153 m = r → rg r → ∀ n' : Nat, (qX m (F153 m)) (.inl (some (yI r))) m n' := fun r e h n' => by subst e; exact ⟨rfl, h, rfl⟩
  refine PC.mk [some (.ref 0)] kn153 rfl ?_
  refine p_aload 1 c153_0 rfl rfl ?_
  refine p_getX 4 (m 0 7) c153_1 rfl kf0_7 rfl ?_
  exact p_ireturn c153_4 (Hr _ hX (hR.rg _ _) _)
def F154 (f : Nat) (m : yM) : Option (Int × yM) := (some (m 376 2, yup m 376 57 0))
set_option maxRecDepth 100000 in
theorem d154 {L : Nat} {xs : Nat → Int32} {k d n : Nat} {c : yS3} {f : Nat} {m : yM} (hk : k ≤ f) (hR : RM c m) : PC (gZ L xs) k d 154 [.ref 376] m n (qS c (F154 f m)) := by
  have hX : F154 f m = F154 f m := rfl
  have Hr : ∀ r m', F154 f m = some (r, m') → rg r → RM c m' → ∀ n' : Nat, (qS c (F154 f m)) (.inl (some (yI r))) m' n' := fun r m' e h1 h2 n' => ⟨r, rfl, h1, h2, e⟩
  refine PC.mk [some (.ref 376)] kn154 rfl ?_
  refine p_aload 1 c154_0 rfl rfl ?_
  refine p_iconst 2 c154_1 rfl ?_
  refine p_putI 5 c154_2 rfl kf376_57 ?_
  have hR5896 := hR.up 376 57 (v := 0) (nselD rfl) (rgD rfl)
  refine p_aload 6 c154_5 rfl rfl ?_
  refine p_getX 9 (m 376 2) c154_6 rfl kf376_2 (yup_nk (by decide)) ?_
  exact p_ireturn c154_9 (Hr _ _ hX (hR.rg _ _) hR5896 _)
def F155 (x0 : Int) (x1 : Int) : Int := (if x0 < 0 then 0 else (if x0 < x1 then 1 else 0))
set_option maxRecDepth 100000 in
theorem d155 {L : Nat} {xs : Nat → Int32} {k d n : Nat} {c : yS3} {x0 : Int} {x1 : Int} {m : yM} (gx0 : rg x0) (gx1 : rg x1) (hR : RM c m) : PC (gZ L xs) k d 155 [yI x0, yI x1] m n (qX m (F155 x0 x1)) := by
  have hX : F155 x0 x1 = F155 x0 x1 := rfl
  have Hr : ∀ r, F155 x0 x1 = r → rg r → ∀ n' : Nat, (qX m (F155 x0 x1)) (.inl (some (yI r))) m n' := fun r e h n' => by subst e; exact ⟨rfl, h, rfl⟩
  refine PC.mk [some (yI x0), some (yI x1)] kn155 rfl ?_
  refine p_iload 1 c155_0 rfl rfl ?_
  refine p_if 13 4 c155_1 rfl rfl (yz_lt gx0) (fun hb5916 k5917 hk5917 => ?_) (fun hb5916 k5918 hk5918 => ?_)
  · have hX5919 := hX.trans (if_pos hb5916)
    refine p_iconst 14 c155_13 rfl ?_
    exact p_ireturn c155_14 (Hr _ hX5919 (rgD rfl) _)
  · have hX5920 := hX.trans (if_neg hb5916)
    refine p_iload 5 c155_4 rfl rfl ?_
    refine p_iload 6 c155_5 rfl rfl ?_
    refine p_icmp 13 9 c155_6 rfl rfl ((yc_ge gx0 gx1).trans Int.not_lt.symm) (fun hb5921 k5922 hk5922 => ?_) (fun hb5921 k5923 hk5923 => ?_)
    · have hX5924 := hX5920.trans (if_neg hb5921)
      refine p_iconst 14 c155_13 rfl ?_
      exact p_ireturn c155_14 (Hr _ hX5924 (rgD rfl) _)
    · have hX5925 := hX5920.trans (if_pos (Classical.not_not.mp hb5921))
      refine p_iconst 10 c155_9 rfl ?_
      refine p_goto 14 c155_10 rfl ?_
      exact p_ireturn c155_14 (Hr _ hX5925 (rgD rfl) _)
def F156 (x1 : Int) (m : yM) : Int := (F155 x1 (m (pA (m 0 4)) 15))
set_option maxRecDepth 100000 in
theorem d156 {L : Nat} {xs : Nat → Int32} {k d n : Nat} {c : yS3} {x1 : Int} {m : yM} (gx1 : rg x1) (hR : RM c m) : PC (gZ L xs) k d 156 [.ref 0, yI x1] m n (qX m (F156 x1 m)) := by
  have hX : F156 x1 m = F156 x1 m := rfl
  have Hr : ∀ r, F156 x1 m = r → rg r → ∀ n' : Nat, (qX m (F156 x1 m)) (.inl (some (yI r))) m n' := fun r e h n' => by subst e; exact ⟨rfl, h, rfl⟩
  refine PC.mk [some (.ref 0), some (yI x1)] kn156 rfl ?_
  refine p_iload 1 c156_0 rfl rfl ?_
  refine p_aload 2 c156_1 rfl rfl ?_
  refine p_getV 5 (.ref (pA (m 0 4))) c156_2 rfl kf0_4 (pA_sv2 hR.2.1 rfl) ?_
  refine p_getX 8 (m (pA (m 0 4)) 15) c156_5 rfl (kP_15 (pA_is _)) rfl ?_
  refine p_cX 11 [yI x1, yI (m (pA (m 0 4)) 15)] [] c156_8 rfl rfl rfl (fun k' hk' d' => d155 gx1 (hR.rg _ _) hR) (fun hg5926 n5915 k5914 hk5914 => ?_)
  exact p_ireturn c156_11 (Hr _ hX hg5926 _)
def F157 (x1 : Int) (m : yM) : Int := (F155 x1 (m (pA (m 0 4)) 14))
set_option maxRecDepth 100000 in
theorem d157 {L : Nat} {xs : Nat → Int32} {k d n : Nat} {c : yS3} {x1 : Int} {m : yM} (gx1 : rg x1) (hR : RM c m) : PC (gZ L xs) k d 157 [.ref 0, yI x1] m n (qX m (F157 x1 m)) := by
  have hX : F157 x1 m = F157 x1 m := rfl
  have Hr : ∀ r, F157 x1 m = r → rg r → ∀ n' : Nat, (qX m (F157 x1 m)) (.inl (some (yI r))) m n' := fun r e h n' => by subst e; exact ⟨rfl, h, rfl⟩
  refine PC.mk [some (.ref 0), some (yI x1)] kn157 rfl ?_
  refine p_iload 1 c157_0 rfl rfl ?_
  refine p_aload 2 c157_1 rfl rfl ?_
  refine p_getV 5 (.ref (pA (m 0 4))) c157_2 rfl kf0_4 (pA_sv2 hR.2.1 rfl) ?_
  refine p_getX 8 (m (pA (m 0 4)) 14) c157_5 rfl (kP_14 (pA_is _)) rfl ?_
  refine p_cX 11 [yI x1, yI (m (pA (m 0 4)) 14)] [] c157_8 rfl rfl rfl (fun k' hk' d' => d155 gx1 (hR.rg _ _) hR) (fun hg5937 n5936 k5935 hk5935 => ?_)
  exact p_ireturn c157_11 (Hr _ hX hg5937 _)
def J158_16 (f : Nat) (m : yM) : Option ((Int ⊕ Nat) × yM) := (some (.inr 11, m))
set_option maxRecDepth 100000 in
theorem tJ158_16 {L : Nat} {xs : Nat → Int32} {Q : xO → yM → Nat → Prop} {k d n : Nat} {c : yS3} {f : Nat} {m : yM} {j0 j1 j2 : Option Value} (hk : k ≤ f) (hR : RM c m) (Hr : ∀ r m', J158_16 f m = some (.inl r, m') → rg r → RM c m' → ∀ n', Q (.inl (some (yI r))) m' n') (Ht : ∀ e m', J158_16 f m = some (.inr e, m') → (fun e => e = 11) e → RM c m' → ∀ x n', Q (.inr (e, x)) m' n') : PW (gZ L xs) k 158 d 16 [j0, j1, j2] [] m n Q := by
  have hX : J158_16 f m = J158_16 f m := rfl
  exact p_throw c158_16 (fun x n' => Ht _ _ hX rfl hR x n')
def F158 (f : Nat) (x1 : Int) (x2 : Int) (m : yM) : Option ((Int ⊕ Nat) × yM) := (if F156 x1 m = 0 then (J158_16 f m) else (if F157 x2 m = 0 then (J158_16 f m) else (if 0 ≤ x1 ∧ x1 < ((48 : Nat) : Int) then (some (.inl (m (10 + (x1).toNat) x2.toNat), m)) else none)))
set_option maxRecDepth 100000 in
theorem d158 {L : Nat} {xs : Nat → Int32} {k d n : Nat} {c : yS3} {f : Nat} {x1 : Int} {x2 : Int} {m : yM} (hk : k ≤ f) (gx1 : rg x1) (gx2 : rg x2) (hR : RM c m) : PC (gZ L xs) k d 158 [.ref 0, yI x1, yI x2] m n (qEI (fun e => e = 11) c (F158 f x1 x2 m)) := by
  have hX : F158 f x1 x2 m = F158 f x1 x2 m := rfl
  have Hr : ∀ r m', F158 f x1 x2 m = some (.inl r, m') → rg r → RM c m' → ∀ n' : Nat, (qEI (fun e => e = 11) c (F158 f x1 x2 m)) (.inl (some (yI r))) m' n' := fun r m' e h1 h2 n' => Or.inl ⟨r, rfl, h1, h2, e⟩
  have Ht : ∀ e m', F158 f x1 x2 m = some (.inr e, m') → (fun e => e = 11) e → RM c m' → ∀ x n' : Nat, (qEI (fun e => e = 11) c (F158 f x1 x2 m)) (.inr (e, x)) m' n' := fun e m' e1 h1 h2 x n' => Or.inr ⟨e, x, rfl, h1, h2, e1⟩
  refine PC.mk [some (.ref 0), some (yI x1), some (yI x2)] kn158 rfl ?_
  refine p_aload 1 c158_0 rfl rfl ?_
  refine p_iload 2 c158_1 rfl rfl ?_
  refine p_cX 5 [.ref 0, yI x1] [] c158_2 rfl rfl rfl (fun k' hk' d' => d156 gx1 hR) (fun hg5927 n5913 k5912 hk5912 => ?_)
  refine p_if 16 8 c158_5 rfl rfl (yz_eq hg5927) (fun hb5928 k5929 hk5929 => ?_) (fun hb5928 k5930 hk5930 => ?_)
  · have hX5931 := hX.trans (if_pos hb5928)
    exact tJ158_16 (f := f) (by omega) hR (fun r' m' e' => Hr r' m' (hX5931.trans e')) (fun r' m' e' => Ht r' m' (hX5931.trans e'))
  · have hX5932 := hX.trans (if_neg hb5928)
    refine p_aload 9 c158_8 rfl rfl ?_
    refine p_iload 10 c158_9 rfl rfl ?_
    refine p_cX 13 [.ref 0, yI x2] [] c158_10 rfl rfl rfl (fun k' hk' d' => d157 gx2 hR) (fun hg5938 n5934 k5933 hk5933 => ?_)
    refine p_if 24 16 c158_13 rfl rfl (yz_ne hg5938) (fun hb5939 k5940 hk5940 => ?_) (fun hb5939 k5941 hk5941 => ?_)
    · have hX5942 := hX5932.trans (if_neg hb5939)
      refine p_aload 25 c158_24 rfl rfl ?_
      refine p_getR 28 c158_25 rfl kf0_2 ?_
      refine p_getR 31 c158_28 rfl kf8_0 ?_
      refine p_iload 32 c158_31 rfl rfl ?_
      refine p_aaX 33 c158_32 rfl kr9 gx1 (fun hx5943 => ?_)
      have hX5944 := hX5942.trans (if_pos hx5943)
      refine p_iload 34 c158_33 rfl rfl ?_
      refine p_iaX 35 (m (10 + (x1).toNat) x2.toNat) c158_34 rfl (kR9 hx5943) gx2 rfl (fun hx5945 => ?_)
      exact p_ireturn c158_35 (Hr _ _ hX5944 (hR.rg _ _) hR _)
    · have hX5946 := hX5932.trans (if_pos (Classical.not_not.mp hb5939))
      exact tJ158_16 (f := f) (by omega) hR (fun r' m' e' => Hr r' m' (hX5946.trans e')) (fun r' m' e' => Ht r' m' (hX5946.trans e'))
def F159 (f : Nat) (x1 : Int) (x2 : Int) (m : yM) : Option (Int × yM) := (bT (F158 f x1 x2 m) (fun r5949 m5951 => (some (0, yup m5951 413 0 ((i2l r5949).toInt)))) (fun e' m5951 => (if e' = 11 then (some (1, m5951)) else none)))
set_option maxRecDepth 100000 in
theorem d159 {L : Nat} {xs : Nat → Int32} {k d n : Nat} {c : yS3} {f : Nat} {x1 : Int} {x2 : Int} {m : yM} (hk : k ≤ f) (gx1 : rg x1) (gx2 : rg x2) (hR : RM c m) : PC (gZ L xs) k d 159 [.ref 0, yI x1, yI x2, .ref 413] m n (qS c (F159 f x1 x2 m)) := by
  have hX : F159 f x1 x2 m = F159 f x1 x2 m := rfl
  have Hr : ∀ r m', F159 f x1 x2 m = some (r, m') → rg r → RM c m' → ∀ n' : Nat, (qS c (F159 f x1 x2 m)) (.inl (some (yI r))) m' n' := fun r m' e h1 h2 n' => ⟨r, rfl, h1, h2, e⟩
  refine PC.mk [some (.ref 0), some (yI x1), some (yI x2), some (.ref 413), none] kn159 rfl ?_
  refine p_aload 1 c159_0 rfl rfl ?_
  refine p_iconst 2 c159_1 rfl ?_
  refine p_aload 3 c159_2 rfl rfl ?_
  refine p_iload 4 c159_3 rfl rfl ?_
  refine p_iload 5 c159_4 rfl rfl ?_
  refine p_cTI 8 [.ref 0, yI x1, yI x2] [yI 0, .ref 413] c159_5 rfl rfl rfl (fun k' hk' d' => d158 (f := f) (by omega) gx1 gx2 hR) (fun r5949 m5951 hF5947 hg5948 hR5952 n5911 k5910 hk5910 => ?_) (fun e' q5956 m5951 n' hF5947 hE5954 hR5955 => ?_)
  · have hX5950 := hX.trans (bT_l hF5947)
    refine p_i2l 9 c159_8 rfl ?_
    refine p_laS 10 c159_9 rfl kl413 (rgD rfl) (fun hx5957 => ?_)
    have hR5958 := hR5952.up 413 0 (v := (i2l r5949).toInt) (nselD rfl) (rg_i2l _)
    refine p_goto 17 c159_10 rfl ?_
    refine p_iconst 18 c159_17 rfl ?_
    exact p_ireturn c159_18 (Hr _ _ hX5950 (rgD rfl) hR5958 _)
  · have hXe := hX.trans (bT_r hF5947)
    cases (show e' = 11 from hE5954)
    have hX5959 := hXe.trans (if_pos rfl)
    refine ⟨fun pq hpq k5960 hk5960 => ?_, fun hno => absurd (r_kh159_5_11.symm.trans hno) (by simp)⟩
    have hpp : pq = 13 := by have := r_kh159_5_11.symm.trans hpq; simpa using this.symm
    subst hpp
    refine p_astore 15 c159_13 rfl rfl ?_
    refine p_iconst 16 c159_15 rfl ?_
    exact p_ireturn c159_16 (Hr _ _ hX5959 (rgD rfl) hR5955 _)
def F160 (x1 : Int) (m : yM) : Int := (if m 376 19 = 0 then 0 else (if F22 x1 0 (wr ((m 389 (m 376 18).toNat) - 1)) = 0 then 0 else 1))
set_option maxRecDepth 100000 in
theorem d160 {L : Nat} {xs : Nat → Int32} {k d n : Nat} {c : yS3} {x1 : Int} {m : yM} (gx1 : rg x1) (hR : RM c m) : PC (gZ L xs) k d 160 [.ref 376, yI x1] m n (qX m (F160 x1 m)) := by
  have hX : F160 x1 m = F160 x1 m := rfl
  have Hr : ∀ r, F160 x1 m = r → rg r → ∀ n' : Nat, (qX m (F160 x1 m)) (.inl (some (yI r))) m n' := fun r e h n' => by subst e; exact ⟨rfl, h, rfl⟩
  refine PC.mk [some (.ref 376), some (yI x1)] kn160 rfl ?_
  refine p_aload 1 c160_0 rfl rfl ?_
  refine p_getX 4 (m 376 19) c160_1 rfl kf376_19 rfl ?_
  refine p_if 30 7 c160_4 rfl rfl (yz_eq (hR.rg _ _)) (fun hb5973 k5974 hk5974 => ?_) (fun hb5973 k5975 hk5975 => ?_)
  · have hX5976 := hX.trans (if_pos hb5973)
    refine p_iconst 31 c160_30 rfl ?_
    exact p_ireturn c160_31 (Hr _ hX5976 (rgD rfl) _)
  · have hX5977 := hX.trans (if_neg hb5973)
    refine p_iload 8 c160_7 rfl rfl ?_
    refine p_iconst 9 c160_8 rfl ?_
    refine p_aload 10 c160_9 rfl rfl ?_
    refine p_getR 13 c160_10 rfl kf376_26 ?_
    refine p_aload 14 c160_13 rfl rfl ?_
    refine p_getX 17 (m 376 18) c160_14 rfl kf376_18 rfl ?_
    refine p_iaX 18 (m 389 (m 376 18).toNat) c160_17 rfl ka389 (hR.rg _ _) rfl (fun hx5978 => ?_)
    refine p_iconst 19 c160_18 rfl ?_
    refine p_isub 20 c160_19 rfl ?_
    refine p_cX 23 [yI x1, yI 0, yI (wr ((m 389 (m 376 18).toNat) - 1))] [] c160_20 rfl rfl rfl (fun k' hk' d' => d22 gx1 (rgD rfl) (rg_wr _) hR) (fun hg5981 n5980 k5979 hk5979 => ?_)
    refine p_if 30 26 c160_23 rfl rfl (yz_eq hg5981) (fun hb5982 k5983 hk5983 => ?_) (fun hb5982 k5984 hk5984 => ?_)
    · have hX5985 := hX5977.trans (if_pos hb5982)
      refine p_iconst 31 c160_30 rfl ?_
      exact p_ireturn c160_31 (Hr _ hX5985 (rgD rfl) _)
    · have hX5986 := hX5977.trans (if_neg hb5982)
      refine p_iconst 27 c160_26 rfl ?_
      refine p_goto 31 c160_27 rfl ?_
      exact p_ireturn c160_31 (Hr _ hX5986 (rgD rfl) _)
def J162_17 (f : Nat) (xs1 : Int) (m : yM) : Option (Int × yM) := (bI (F23 f xs1 1 m) (fun r6002 m6004 => (some (r6002, m6004))))
set_option maxRecDepth 100000 in
theorem tJ162_17 {L : Nat} {xs : Nat → Int32} {Q : xO → yM → Nat → Prop} {k d n : Nat} {c : yS3} {f : Nat} {xs1 : Int} {m : yM} {j0 j1 : Option Value} (hk : k ≤ f) (gxs1 : rg xs1) (hR : RM c m) (Hr : ∀ r m', J162_17 f xs1 m = some (r, m') → rg r → RM c m' → ∀ n', Q (.inl (some (yI r))) m' n') : PW (gZ L xs) k 162 d 17 [j0, j1] [yI xs1, .ref 376] m n Q := by
  have hX : J162_17 f xs1 m = J162_17 f xs1 m := rfl
  refine p_iconst 18 c162_17 rfl ?_
  refine p_cS 21 [.ref 376, yI xs1, yI 1] [] c162_18 rfl rfl rfl (fun k' hk' d' => d23 (f := f) (by omega) gxs1 (rgD rfl) hR) (fun r6002 m6004 hF6000 hg6001 hR6005 n5999 k5998 hk5998 => ?_)
  have hX6003 := hX.trans (bI_s hF6000)
  exact p_ireturn c162_21 (Hr _ _ hX6003 hg6001 hR6005 _)
def J162_16 (f : Nat) (m : yM) : Option (Int × yM) := (J162_17 f 0 m)
set_option maxRecDepth 100000 in
theorem tJ162_16 {L : Nat} {xs : Nat → Int32} {Q : xO → yM → Nat → Prop} {k d n : Nat} {c : yS3} {f : Nat} {m : yM} {j0 j1 : Option Value} (hk : k ≤ f) (hR : RM c m) (Hr : ∀ r m', J162_16 f m = some (r, m') → rg r → RM c m' → ∀ n', Q (.inl (some (yI r))) m' n') : PW (gZ L xs) k 162 d 16 [j0, j1] [.ref 376] m n Q := by
  have hX : J162_16 f m = J162_16 f m := rfl
  refine p_iconst 17 c162_16 rfl ?_
  exact tJ162_17 (f := f) (by omega) (rgD rfl) hR (fun r' m' e' => Hr r' m' (hX.trans e'))
def F162 (f : Nat) (x1 : Int) (m : yM) : Option (Int × yM) := (if m 376 19 = 0 then (J162_16 f m) else (if x1 = 0 then (J162_16 f m) else (J162_17 f 1 m)))
set_option maxRecDepth 100000 in
theorem d162 {L : Nat} {xs : Nat → Int32} {k d n : Nat} {c : yS3} {f : Nat} {x1 : Int} {m : yM} (hk : k ≤ f) (gx1 : rg x1) (hR : RM c m) : PC (gZ L xs) k d 162 [.ref 376, yI x1] m n (qS c (F162 f x1 m)) := by
  have hX : F162 f x1 m = F162 f x1 m := rfl
  have Hr : ∀ r m', F162 f x1 m = some (r, m') → rg r → RM c m' → ∀ n' : Nat, (qS c (F162 f x1 m)) (.inl (some (yI r))) m' n' := fun r m' e h1 h2 n' => ⟨r, rfl, h1, h2, e⟩
  refine PC.mk [some (.ref 376), some (yI x1)] kn162 rfl ?_
  refine p_aload 1 c162_0 rfl rfl ?_
  refine p_aload 2 c162_1 rfl rfl ?_
  refine p_getX 5 (m 376 19) c162_2 rfl kf376_19 rfl ?_
  refine p_if 16 8 c162_5 rfl rfl (yz_eq (hR.rg _ _)) (fun hb5994 k5995 hk5995 => ?_) (fun hb5994 k5996 hk5996 => ?_)
  · have hX5997 := hX.trans (if_pos hb5994)
    exact tJ162_16 (f := f) (by omega) hR (fun r' m' e' => Hr r' m' (hX5997.trans e'))
  · have hX6006 := hX.trans (if_neg hb5994)
    refine p_iload 9 c162_8 rfl rfl ?_
    refine p_if 16 12 c162_9 rfl rfl (yz_eq gx1) (fun hb6007 k6008 hk6008 => ?_) (fun hb6007 k6009 hk6009 => ?_)
    · have hX6010 := hX6006.trans (if_pos hb6007)
      exact tJ162_16 (f := f) (by omega) hR (fun r' m' e' => Hr r' m' (hX6010.trans e'))
    · have hX6011 := hX6006.trans (if_neg hb6007)
      refine p_iconst 13 c162_12 rfl ?_
      refine p_goto 17 c162_13 rfl ?_
      exact tJ162_17 (f := f) (by omega) (rgD rfl) hR (fun r' m' e' => Hr r' m' (hX6011.trans e'))
def F161 (x1 : Int) (m : yM) : Int := (if m 376 19 = 0 then 0 else (if F22 x1 0 (wr ((m 388 (m 376 18).toNat) - 1)) = 0 then 0 else 1))
set_option maxRecDepth 100000 in
theorem d161 {L : Nat} {xs : Nat → Int32} {k d n : Nat} {c : yS3} {x1 : Int} {m : yM} (gx1 : rg x1) (hR : RM c m) : PC (gZ L xs) k d 161 [.ref 376, yI x1] m n (qX m (F161 x1 m)) := by
  have hX : F161 x1 m = F161 x1 m := rfl
  have Hr : ∀ r, F161 x1 m = r → rg r → ∀ n' : Nat, (qX m (F161 x1 m)) (.inl (some (yI r))) m n' := fun r e h n' => by subst e; exact ⟨rfl, h, rfl⟩
  refine PC.mk [some (.ref 376), some (yI x1)] kn161 rfl ?_
  refine p_aload 1 c161_0 rfl rfl ?_
  refine p_getX 4 (m 376 19) c161_1 rfl kf376_19 rfl ?_
  refine p_if 30 7 c161_4 rfl rfl (yz_eq (hR.rg _ _)) (fun hb6027 k6028 hk6028 => ?_) (fun hb6027 k6029 hk6029 => ?_)
  · have hX6030 := hX.trans (if_pos hb6027)
    refine p_iconst 31 c161_30 rfl ?_
    exact p_ireturn c161_31 (Hr _ hX6030 (rgD rfl) _)
  · have hX6031 := hX.trans (if_neg hb6027)
    refine p_iload 8 c161_7 rfl rfl ?_
    refine p_iconst 9 c161_8 rfl ?_
    refine p_aload 10 c161_9 rfl rfl ?_
    refine p_getR 13 c161_10 rfl kf376_25 ?_
    refine p_aload 14 c161_13 rfl rfl ?_
    refine p_getX 17 (m 376 18) c161_14 rfl kf376_18 rfl ?_
    refine p_iaX 18 (m 388 (m 376 18).toNat) c161_17 rfl ka388 (hR.rg _ _) rfl (fun hx6032 => ?_)
    refine p_iconst 19 c161_18 rfl ?_
    refine p_isub 20 c161_19 rfl ?_
    refine p_cX 23 [yI x1, yI 0, yI (wr ((m 388 (m 376 18).toNat) - 1))] [] c161_20 rfl rfl rfl (fun k' hk' d' => d22 gx1 (rgD rfl) (rg_wr _) hR) (fun hg6035 n6034 k6033 hk6033 => ?_)
    refine p_if 30 26 c161_23 rfl rfl (yz_eq hg6035) (fun hb6036 k6037 hk6037 => ?_) (fun hb6036 k6038 hk6038 => ?_)
    · have hX6039 := hX6031.trans (if_pos hb6036)
      refine p_iconst 31 c161_30 rfl ?_
      exact p_ireturn c161_31 (Hr _ hX6039 (rgD rfl) _)
    · have hX6040 := hX6031.trans (if_neg hb6036)
      refine p_iconst 27 c161_26 rfl ?_
      refine p_goto 31 c161_27 rfl ?_
      exact p_ireturn c161_31 (Hr _ hX6040 (rgD rfl) _)
def J163_22 (f : Nat) (x1 : Int) (x2 : Int) (xs1 : Int) (m : yM) : Option (Int × yM) := (bI (F162 f xs1 m) (fun r6014 m6016 => (if r6014 = 0 then (some (0, m6016)) else (some (m6016 404 (wr ((wr (12 * x1)) + x2)).toNat, m6016)))))
set_option maxRecDepth 100000 in
theorem tJ163_22 {L : Nat} {xs : Nat → Int32} {Q : xO → yM → Nat → Prop} {k d n : Nat} {c : yS3} {f : Nat} {x1 : Int} {x2 : Int} {xs1 : Int} {m : yM} (hk : k ≤ f) (gx1 : rg x1) (gx2 : rg x2) (gxs1 : rg xs1) (hR : RM c m) (Hr : ∀ r m', J163_22 f x1 x2 xs1 m = some (r, m') → rg r → RM c m' → ∀ n', Q (.inl (some (yI r))) m' n') : PW (gZ L xs) k 163 d 22 [some (.ref 376), some (yI x1), some (yI x2)] [yI xs1, .ref 376] m n Q := by
  have hX : J163_22 f x1 x2 xs1 m = J163_22 f x1 x2 xs1 m := rfl
  refine p_cS 25 [.ref 376, yI xs1] [] c163_22 rfl rfl rfl (fun k' hk' d' => d162 (f := f) (by omega) gxs1 hR) (fun r6014 m6016 hF6012 hg6013 hR6017 n5993 k5992 hk5992 => ?_)
  have hX6015 := hX.trans (bI_s hF6012)
  refine p_if 42 28 c163_25 rfl rfl (yz_eq hg6013) (fun hb6018 k6019 hk6019 => ?_) (fun hb6018 k6020 hk6020 => ?_)
  · have hX6021 := hX6015.trans (if_pos hb6018)
    refine p_iconst 43 c163_42 rfl ?_
    exact p_ireturn c163_43 (Hr _ _ hX6021 (rgD rfl) hR6017 _)
  · have hX6022 := hX6015.trans (if_neg hb6018)
    refine p_aload 29 c163_28 rfl rfl ?_
    refine p_getR 32 c163_29 rfl kf376_41 ?_
    refine p_iconst 34 c163_32 rfl ?_
    refine p_iload 35 c163_34 rfl rfl ?_
    refine p_imul 36 c163_35 rfl ?_
    refine p_iload 37 c163_36 rfl rfl ?_
    refine p_iadd 38 c163_37 rfl ?_
    refine p_iaX 39 (m6016 404 (wr ((wr (12 * x1)) + x2)).toNat) c163_38 rfl ka404 (rg_wr _) rfl (fun hx6023 => ?_)
    refine p_goto 43 c163_39 rfl ?_
    exact p_ireturn c163_43 (Hr _ _ hX6022 (hR6017.rg _ _) hR6017 _)
def J163_21 (f : Nat) (x1 : Int) (x2 : Int) (m : yM) : Option (Int × yM) := (J163_22 f x1 x2 0 m)
set_option maxRecDepth 100000 in
theorem tJ163_21 {L : Nat} {xs : Nat → Int32} {Q : xO → yM → Nat → Prop} {k d n : Nat} {c : yS3} {f : Nat} {x1 : Int} {x2 : Int} {m : yM} (hk : k ≤ f) (gx1 : rg x1) (gx2 : rg x2) (hR : RM c m) (Hr : ∀ r m', J163_21 f x1 x2 m = some (r, m') → rg r → RM c m' → ∀ n', Q (.inl (some (yI r))) m' n') : PW (gZ L xs) k 163 d 21 [some (.ref 376), some (yI x1), some (yI x2)] [.ref 376] m n Q := by
  have hX : J163_21 f x1 x2 m = J163_21 f x1 x2 m := rfl
  refine p_iconst 22 c163_21 rfl ?_
  exact tJ163_22 (f := f) (by omega) gx1 gx2 (rgD rfl) hR (fun r' m' e' => Hr r' m' (hX.trans e'))
def F163 (f : Nat) (x1 : Int) (x2 : Int) (m : yM) : Option (Int × yM) := (if F160 x1 m = 0 then (J163_21 f x1 x2 m) else (if F161 x2 m = 0 then (J163_21 f x1 x2 m) else (J163_22 f x1 x2 1 m)))
set_option maxRecDepth 100000 in
theorem d163 {L : Nat} {xs : Nat → Int32} {k d n : Nat} {c : yS3} {f : Nat} {x1 : Int} {x2 : Int} {m : yM} (hk : k ≤ f) (gx1 : rg x1) (gx2 : rg x2) (hR : RM c m) : PC (gZ L xs) k d 163 [.ref 376, yI x1, yI x2] m n (qS c (F163 f x1 x2 m)) := by
  have hX : F163 f x1 x2 m = F163 f x1 x2 m := rfl
  have Hr : ∀ r m', F163 f x1 x2 m = some (r, m') → rg r → RM c m' → ∀ n' : Nat, (qS c (F163 f x1 x2 m)) (.inl (some (yI r))) m' n' := fun r m' e h1 h2 n' => ⟨r, rfl, h1, h2, e⟩
  refine PC.mk [some (.ref 376), some (yI x1), some (yI x2)] kn163 rfl ?_
  refine p_aload 1 c163_0 rfl rfl ?_
  refine p_aload 2 c163_1 rfl rfl ?_
  refine p_iload 3 c163_2 rfl rfl ?_
  refine p_cX 6 [.ref 376, yI x1] [.ref 376] c163_3 rfl rfl rfl (fun k' hk' d' => d160 gx1 hR) (fun hg5987 n5972 k5971 hk5971 => ?_)
  refine p_if 21 9 c163_6 rfl rfl (yz_eq hg5987) (fun hb5988 k5989 hk5989 => ?_) (fun hb5988 k5990 hk5990 => ?_)
  · have hX5991 := hX.trans (if_pos hb5988)
    exact tJ163_21 (f := f) (by omega) gx1 gx2 hR (fun r' m' e' => Hr r' m' (hX5991.trans e'))
  · have hX6024 := hX.trans (if_neg hb5988)
    refine p_aload 10 c163_9 rfl rfl ?_
    refine p_iload 11 c163_10 rfl rfl ?_
    refine p_cX 14 [.ref 376, yI x2] [.ref 376] c163_11 rfl rfl rfl (fun k' hk' d' => d161 gx2 hR) (fun hg6041 n6026 k6025 hk6025 => ?_)
    refine p_if 21 17 c163_14 rfl rfl (yz_eq hg6041) (fun hb6042 k6043 hk6043 => ?_) (fun hb6042 k6044 hk6044 => ?_)
    · have hX6045 := hX6024.trans (if_pos hb6042)
      exact tJ163_21 (f := f) (by omega) gx1 gx2 hR (fun r' m' e' => Hr r' m' (hX6045.trans e'))
    · have hX6046 := hX6024.trans (if_neg hb6042)
      refine p_iconst 18 c163_17 rfl ?_
      refine p_goto 22 c163_18 rfl ?_
      exact tJ163_22 (f := f) (by omega) gx1 gx2 (rgD rfl) hR (fun r' m' e' => Hr r' m' (hX6046.trans e'))
def J164_30 (f : Nat) (m : yM) : Option ((Int ⊕ Nat) × yM) := (some (.inr 11, m))
set_option maxRecDepth 100000 in
theorem tJ164_30 {L : Nat} {xs : Nat → Int32} {Q : xO → yM → Nat → Prop} {k d n : Nat} {c : yS3} {f : Nat} {m : yM} {j0 j1 j2 j3 : Option Value} (hk : k ≤ f) (hR : RM c m) (Hr : ∀ r m', J164_30 f m = some (.inl r, m') → rg r → RM c m' → ∀ n', Q (.inl (some (yI r))) m' n') (Ht : ∀ e m', J164_30 f m = some (.inr e, m') → (fun e => e = 11) e → RM c m' → ∀ x n', Q (.inr (e, x)) m' n') : PW (gZ L xs) k 164 d 30 [j0, j1, j2, j3] [] m n Q := by
  have hX : J164_30 f m = J164_30 f m := rfl
  exact p_throw c164_30 (fun x n' => Ht _ _ hX rfl hR x n')
def F164 (f : Nat) (x1 : Int) (x2 : Int) (x3 : Int) (m : yM) : Option ((Int ⊕ Nat) × yM) := (if F157 x1 m = 0 then (J164_30 f m) else (if F155 x2 (m (pA (m 0 4)) 11) = 0 then (J164_30 f m) else (if F157 x3 m = 0 then (J164_30 f m) else (if 73 ≤ (F83 x1 x2) ∧ (F83 x1 x2) < 169 then (some (.inl (m (F83 x1 x2) x3.toNat), m)) else none))))
set_option maxRecDepth 100000 in
theorem d164 {L : Nat} {xs : Nat → Int32} {k d n : Nat} {c : yS3} {f : Nat} {x1 : Int} {x2 : Int} {x3 : Int} {m : yM} (hk : k ≤ f) (gx1 : rg x1) (gx2 : rg x2) (gx3 : rg x3) (hR : RM c m) : PC (gZ L xs) k d 164 [.ref 0, yI x1, yI x2, yI x3] m n (qEI (fun e => e = 11) c (F164 f x1 x2 x3 m)) := by
  have hX : F164 f x1 x2 x3 m = F164 f x1 x2 x3 m := rfl
  have Hr : ∀ r m', F164 f x1 x2 x3 m = some (.inl r, m') → rg r → RM c m' → ∀ n' : Nat, (qEI (fun e => e = 11) c (F164 f x1 x2 x3 m)) (.inl (some (yI r))) m' n' := fun r m' e h1 h2 n' => Or.inl ⟨r, rfl, h1, h2, e⟩
  have Ht : ∀ e m', F164 f x1 x2 x3 m = some (.inr e, m') → (fun e => e = 11) e → RM c m' → ∀ x n' : Nat, (qEI (fun e => e = 11) c (F164 f x1 x2 x3 m)) (.inr (e, x)) m' n' := fun e m' e1 h1 h2 x n' => Or.inr ⟨e, x, rfl, h1, h2, e1⟩
  refine PC.mk [some (.ref 0), some (yI x1), some (yI x2), some (yI x3)] kn164 rfl ?_
  refine p_aload 1 c164_0 rfl rfl ?_
  refine p_iload 2 c164_1 rfl rfl ?_
  refine p_cX 5 [.ref 0, yI x1] [] c164_2 rfl rfl rfl (fun k' hk' d' => d157 gx1 hR) (fun hg6065 n6064 k6063 hk6063 => ?_)
  refine p_if 30 8 c164_5 rfl rfl (yz_eq hg6065) (fun hb6066 k6067 hk6067 => ?_) (fun hb6066 k6068 hk6068 => ?_)
  · have hX6069 := hX.trans (if_pos hb6066)
    exact tJ164_30 (f := f) (by omega) hR (fun r' m' e' => Hr r' m' (hX6069.trans e')) (fun r' m' e' => Ht r' m' (hX6069.trans e'))
  · have hX6070 := hX.trans (if_neg hb6066)
    refine p_iload 9 c164_8 rfl rfl ?_
    refine p_aload 10 c164_9 rfl rfl ?_
    refine p_getV 13 (.ref (pA (m 0 4))) c164_10 rfl kf0_4 (pA_sv2 hR.2.1 rfl) ?_
    refine p_getX 16 (m (pA (m 0 4)) 11) c164_13 rfl (kP_11 (pA_is _)) rfl ?_
    refine p_cX 19 [yI x2, yI (m (pA (m 0 4)) 11)] [] c164_16 rfl rfl rfl (fun k' hk' d' => d155 gx2 (hR.rg _ _) hR) (fun hg6073 n6072 k6071 hk6071 => ?_)
    refine p_if 30 22 c164_19 rfl rfl (yz_eq hg6073) (fun hb6074 k6075 hk6075 => ?_) (fun hb6074 k6076 hk6076 => ?_)
    · have hX6077 := hX6070.trans (if_pos hb6074)
      exact tJ164_30 (f := f) (by omega) hR (fun r' m' e' => Hr r' m' (hX6077.trans e')) (fun r' m' e' => Ht r' m' (hX6077.trans e'))
    · have hX6078 := hX6070.trans (if_neg hb6074)
      refine p_aload 23 c164_22 rfl rfl ?_
      refine p_iload 24 c164_23 rfl rfl ?_
      refine p_cX 27 [.ref 0, yI x3] [] c164_24 rfl rfl rfl (fun k' hk' d' => d157 gx3 hR) (fun hg6081 n6080 k6079 hk6079 => ?_)
      refine p_if 38 30 c164_27 rfl rfl (yz_ne hg6081) (fun hb6082 k6083 hk6083 => ?_) (fun hb6082 k6084 hk6084 => ?_)
      · have hX6085 := hX6078.trans (if_neg hb6082)
        refine p_aload 39 c164_38 rfl rfl ?_
        refine p_getR 42 c164_39 rfl kf0_2 ?_
        refine p_iload 43 c164_42 rfl rfl ?_
        refine p_iload 44 c164_43 rfl rfl ?_
        refine p_cXR 47 [.ref 8, yI x1, yI x2] [] c164_44 rfl rfl rfl (fun k' hk' d' => d83 gx1 gx2 hR) (fun hg6088 n6087 k6086 hk6086 => ?_)
        have := hg6088.2
        have hX6089 := hX6085.trans (if_pos hg6088.2)
        refine p_iload 48 c164_47 rfl rfl ?_
        refine p_iaX 49 (m (F83 x1 x2) x3.toNat) c164_48 rfl hg6088.1 gx3 rfl (fun hx6090 => ?_)
        exact p_ireturn c164_49 (Hr _ _ hX6089 (hR.rg _ _) hR _)
      · have hX6091 := hX6078.trans (if_pos (Classical.not_not.mp hb6082))
        exact tJ164_30 (f := f) (by omega) hR (fun r' m' e' => Hr r' m' (hX6091.trans e')) (fun r' m' e' => Ht r' m' (hX6091.trans e'))
def F165 (f : Nat) (x1 : Int) (x2 : Int) (x3 : Int) (m : yM) : Option (Int × yM) := (bT (F164 f x1 x2 x3 m) (fun r6094 m6096 => (some (0, yup m6096 413 0 ((i2l r6094).toInt)))) (fun e' m6096 => (if e' = 11 then (some (1, m6096)) else none)))
set_option maxRecDepth 100000 in
theorem d165 {L : Nat} {xs : Nat → Int32} {k d n : Nat} {c : yS3} {f : Nat} {x1 : Int} {x2 : Int} {x3 : Int} {m : yM} (hk : k ≤ f) (gx1 : rg x1) (gx2 : rg x2) (gx3 : rg x3) (hR : RM c m) : PC (gZ L xs) k d 165 [.ref 0, yI x1, yI x2, yI x3, .ref 413] m n (qS c (F165 f x1 x2 x3 m)) := by
  have hX : F165 f x1 x2 x3 m = F165 f x1 x2 x3 m := rfl
  have Hr : ∀ r m', F165 f x1 x2 x3 m = some (r, m') → rg r → RM c m' → ∀ n' : Nat, (qS c (F165 f x1 x2 x3 m)) (.inl (some (yI r))) m' n' := fun r m' e h1 h2 n' => ⟨r, rfl, h1, h2, e⟩
  refine PC.mk [some (.ref 0), some (yI x1), some (yI x2), some (yI x3), some (.ref 413), none] kn165 rfl ?_
  refine p_aload 2 c165_0 rfl rfl ?_
  refine p_iconst 3 c165_2 rfl ?_
  refine p_aload 4 c165_3 rfl rfl ?_
  refine p_iload 5 c165_4 rfl rfl ?_
  refine p_iload 6 c165_5 rfl rfl ?_
  refine p_iload 7 c165_6 rfl rfl ?_
  refine p_cTI 10 [.ref 0, yI x1, yI x2, yI x3] [yI 0, .ref 413] c165_7 rfl rfl rfl (fun k' hk' d' => d164 (f := f) (by omega) gx1 gx2 gx3 hR) (fun r6094 m6096 hF6092 hg6093 hR6097 n6062 k6061 hk6061 => ?_) (fun e' q6101 m6096 n' hF6092 hE6099 hR6100 => ?_)
  · have hX6095 := hX.trans (bT_l hF6092)
    refine p_i2l 11 c165_10 rfl ?_
    refine p_laS 12 c165_11 rfl kl413 (rgD rfl) (fun hx6102 => ?_)
    have hR6103 := hR6097.up 413 0 (v := (i2l r6094).toInt) (nselD rfl) (rg_i2l _)
    refine p_goto 19 c165_12 rfl ?_
    refine p_iconst 20 c165_19 rfl ?_
    exact p_ireturn c165_20 (Hr _ _ hX6095 (rgD rfl) hR6103 _)
  · have hXe := hX.trans (bT_r hF6092)
    cases (show e' = 11 from hE6099)
    have hX6104 := hXe.trans (if_pos rfl)
    refine ⟨fun pq hpq k6105 hk6105 => ?_, fun hno => absurd (r_kh165_7_11.symm.trans hno) (by simp)⟩
    have hpp : pq = 15 := by have := r_kh165_7_11.symm.trans hpq; simpa using this.symm
    subst hpp
    refine p_astore 17 c165_15 rfl rfl ?_
    refine p_iconst 18 c165_17 rfl ?_
    exact p_ireturn c165_18 (Hr _ _ hX6104 (rgD rfl) hR6100 _)
def J166_41 (f : Nat) (x1 : Int) (x2 : Int) (x3 : Int) (xs1 : Int) (m : yM) : Option (Int × yM) := (bI (F162 f xs1 m) (fun r6128 m6130 => (if r6128 = 0 then (some (0, m6130)) else (some (m6130 405 (wr ((wr ((wr (96 * x1)) + (wr (12 * x2)))) + x3)).toNat, m6130)))))
set_option maxRecDepth 100000 in
theorem tJ166_41 {L : Nat} {xs : Nat → Int32} {Q : xO → yM → Nat → Prop} {k d n : Nat} {c : yS3} {f : Nat} {x1 : Int} {x2 : Int} {x3 : Int} {xs1 : Int} {m : yM} (hk : k ≤ f) (gx1 : rg x1) (gx2 : rg x2) (gx3 : rg x3) (gxs1 : rg xs1) (hR : RM c m) (Hr : ∀ r m', J166_41 f x1 x2 x3 xs1 m = some (r, m') → rg r → RM c m' → ∀ n', Q (.inl (some (yI r))) m' n') : PW (gZ L xs) k 166 d 41 [some (.ref 376), some (yI x1), some (yI x2), some (yI x3)] [yI xs1, .ref 376] m n Q := by
  have hX : J166_41 f x1 x2 x3 xs1 m = J166_41 f x1 x2 x3 xs1 m := rfl
  refine p_cS 44 [.ref 376, yI xs1] [] c166_41 rfl rfl rfl (fun k' hk' d' => d162 (f := f) (by omega) gxs1 hR) (fun r6128 m6130 hF6126 hg6127 hR6131 n6125 k6124 hk6124 => ?_)
  have hX6129 := hX.trans (bI_s hF6126)
  refine p_if 66 47 c166_44 rfl rfl (yz_eq hg6127) (fun hb6132 k6133 hk6133 => ?_) (fun hb6132 k6134 hk6134 => ?_)
  · have hX6135 := hX6129.trans (if_pos hb6132)
    refine p_iconst 67 c166_66 rfl ?_
    exact p_ireturn c166_67 (Hr _ _ hX6135 (rgD rfl) hR6131 _)
  · have hX6136 := hX6129.trans (if_neg hb6132)
    refine p_aload 48 c166_47 rfl rfl ?_
    refine p_getR 51 c166_48 rfl kf376_42 ?_
    refine p_iconst 53 c166_51 rfl ?_
    refine p_iload 54 c166_53 rfl rfl ?_
    refine p_imul 55 c166_54 rfl ?_
    refine p_iconst 57 c166_55 rfl ?_
    refine p_iload 58 c166_57 rfl rfl ?_
    refine p_imul 59 c166_58 rfl ?_
    refine p_iadd 60 c166_59 rfl ?_
    refine p_iload 61 c166_60 rfl rfl ?_
    refine p_iadd 62 c166_61 rfl ?_
    refine p_iaX 63 (m6130 405 (wr ((wr ((wr (96 * x1)) + (wr (12 * x2)))) + x3)).toNat) c166_62 rfl ka405 (rg_wr _) rfl (fun hx6137 => ?_)
    refine p_goto 67 c166_63 rfl ?_
    exact p_ireturn c166_67 (Hr _ _ hX6136 (hR6131.rg _ _) hR6131 _)
def J166_40 (f : Nat) (x1 : Int) (x2 : Int) (x3 : Int) (m : yM) : Option (Int × yM) := (J166_41 f x1 x2 x3 0 m)
set_option maxRecDepth 100000 in
theorem tJ166_40 {L : Nat} {xs : Nat → Int32} {Q : xO → yM → Nat → Prop} {k d n : Nat} {c : yS3} {f : Nat} {x1 : Int} {x2 : Int} {x3 : Int} {m : yM} (hk : k ≤ f) (gx1 : rg x1) (gx2 : rg x2) (gx3 : rg x3) (hR : RM c m) (Hr : ∀ r m', J166_40 f x1 x2 x3 m = some (r, m') → rg r → RM c m' → ∀ n', Q (.inl (some (yI r))) m' n') : PW (gZ L xs) k 166 d 40 [some (.ref 376), some (yI x1), some (yI x2), some (yI x3)] [.ref 376] m n Q := by
  have hX : J166_40 f x1 x2 x3 m = J166_40 f x1 x2 x3 m := rfl
  refine p_iconst 41 c166_40 rfl ?_
  exact tJ166_41 (f := f) (by omega) gx1 gx2 gx3 (rgD rfl) hR (fun r' m' e' => Hr r' m' (hX.trans e'))
def F166 (f : Nat) (x1 : Int) (x2 : Int) (x3 : Int) (m : yM) : Option (Int × yM) := (if F161 x1 m = 0 then (J166_40 f x1 x2 x3 m) else (if F161 x3 m = 0 then (J166_40 f x1 x2 x3 m) else (if F22 x2 0 (wr ((m 385 (m 376 18).toNat) - 1)) = 0 then (J166_40 f x1 x2 x3 m) else (J166_41 f x1 x2 x3 1 m))))
set_option maxRecDepth 100000 in
theorem d166 {L : Nat} {xs : Nat → Int32} {k d n : Nat} {c : yS3} {f : Nat} {x1 : Int} {x2 : Int} {x3 : Int} {m : yM} (hk : k ≤ f) (gx1 : rg x1) (gx2 : rg x2) (gx3 : rg x3) (hR : RM c m) : PC (gZ L xs) k d 166 [.ref 376, yI x1, yI x2, yI x3] m n (qS c (F166 f x1 x2 x3 m)) := by
  have hX : F166 f x1 x2 x3 m = F166 f x1 x2 x3 m := rfl
  have Hr : ∀ r m', F166 f x1 x2 x3 m = some (r, m') → rg r → RM c m' → ∀ n' : Nat, (qS c (F166 f x1 x2 x3 m)) (.inl (some (yI r))) m' n' := fun r m' e h1 h2 n' => ⟨r, rfl, h1, h2, e⟩
  refine PC.mk [some (.ref 376), some (yI x1), some (yI x2), some (yI x3)] kn166 rfl ?_
  refine p_aload 1 c166_0 rfl rfl ?_
  refine p_aload 2 c166_1 rfl rfl ?_
  refine p_iload 3 c166_2 rfl rfl ?_
  refine p_cX 6 [.ref 376, yI x1] [.ref 376] c166_3 rfl rfl rfl (fun k' hk' d' => d161 gx1 hR) (fun hg6119 n6118 k6117 hk6117 => ?_)
  refine p_if 40 9 c166_6 rfl rfl (yz_eq hg6119) (fun hb6120 k6121 hk6121 => ?_) (fun hb6120 k6122 hk6122 => ?_)
  · have hX6123 := hX.trans (if_pos hb6120)
    exact tJ166_40 (f := f) (by omega) gx1 gx2 gx3 hR (fun r' m' e' => Hr r' m' (hX6123.trans e'))
  · have hX6138 := hX.trans (if_neg hb6120)
    refine p_aload 10 c166_9 rfl rfl ?_
    refine p_iload 11 c166_10 rfl rfl ?_
    refine p_cX 14 [.ref 376, yI x3] [.ref 376] c166_11 rfl rfl rfl (fun k' hk' d' => d161 gx3 hR) (fun hg6141 n6140 k6139 hk6139 => ?_)
    refine p_if 40 17 c166_14 rfl rfl (yz_eq hg6141) (fun hb6142 k6143 hk6143 => ?_) (fun hb6142 k6144 hk6144 => ?_)
    · have hX6145 := hX6138.trans (if_pos hb6142)
      exact tJ166_40 (f := f) (by omega) gx1 gx2 gx3 hR (fun r' m' e' => Hr r' m' (hX6145.trans e'))
    · have hX6146 := hX6138.trans (if_neg hb6142)
      refine p_iload 18 c166_17 rfl rfl ?_
      refine p_iconst 19 c166_18 rfl ?_
      refine p_aload 20 c166_19 rfl rfl ?_
      refine p_getR 23 c166_20 rfl kf376_22 ?_
      refine p_aload 24 c166_23 rfl rfl ?_
      refine p_getX 27 (m 376 18) c166_24 rfl kf376_18 rfl ?_
      refine p_iaX 28 (m 385 (m 376 18).toNat) c166_27 rfl ka385 (hR.rg _ _) rfl (fun hx6147 => ?_)
      refine p_iconst 29 c166_28 rfl ?_
      refine p_isub 30 c166_29 rfl ?_
      refine p_cX 33 [yI x2, yI 0, yI (wr ((m 385 (m 376 18).toNat) - 1))] [.ref 376] c166_30 rfl rfl rfl (fun k' hk' d' => d22 gx2 (rgD rfl) (rg_wr _) hR) (fun hg6150 n6149 k6148 hk6148 => ?_)
      refine p_if 40 36 c166_33 rfl rfl (yz_eq hg6150) (fun hb6151 k6152 hk6152 => ?_) (fun hb6151 k6153 hk6153 => ?_)
      · have hX6154 := hX6146.trans (if_pos hb6151)
        exact tJ166_40 (f := f) (by omega) gx1 gx2 gx3 hR (fun r' m' e' => Hr r' m' (hX6154.trans e'))
      · have hX6155 := hX6146.trans (if_neg hb6151)
        refine p_iconst 37 c166_36 rfl ?_
        refine p_goto 41 c166_37 rfl ?_
        exact tJ166_41 (f := f) (by omega) gx1 gx2 gx3 (rgD rfl) hR (fun r' m' e' => Hr r' m' (hX6155.trans e'))
def F167 (x1 : Int) (m : yM) : Int := (F155 x1 (m (pA (m 0 4)) 10))
set_option maxRecDepth 100000 in
theorem d167 {L : Nat} {xs : Nat → Int32} {k d n : Nat} {c : yS3} {x1 : Int} {m : yM} (gx1 : rg x1) (hR : RM c m) : PC (gZ L xs) k d 167 [.ref 0, yI x1] m n (qX m (F167 x1 m)) := by
  have hX : F167 x1 m = F167 x1 m := rfl
  have Hr : ∀ r, F167 x1 m = r → rg r → ∀ n' : Nat, (qX m (F167 x1 m)) (.inl (some (yI r))) m n' := fun r e h n' => by subst e; exact ⟨rfl, h, rfl⟩
  refine PC.mk [some (.ref 0), some (yI x1)] kn167 rfl ?_
  refine p_iload 1 c167_0 rfl rfl ?_
  refine p_aload 2 c167_1 rfl rfl ?_
  refine p_getV 5 (.ref (pA (m 0 4))) c167_2 rfl kf0_4 (pA_sv2 hR.2.1 rfl) ?_
  refine p_getX 8 (m (pA (m 0 4)) 10) c167_5 rfl (kP_10 (pA_is _)) rfl ?_
  refine p_cX 11 [yI x1, yI (m (pA (m 0 4)) 10)] [] c167_8 rfl rfl rfl (fun k' hk' d' => d155 gx1 (hR.rg _ _) hR) (fun hg6183 n6182 k6181 hk6181 => ?_)
  exact p_ireturn c167_11 (Hr _ hX hg6183 _)
def J168_22 (f : Nat) (m : yM) : Option ((Int ⊕ Nat) × yM) := (some (.inr 11, m))
set_option maxRecDepth 100000 in
theorem tJ168_22 {L : Nat} {xs : Nat → Int32} {Q : xO → yM → Nat → Prop} {k d n : Nat} {c : yS3} {f : Nat} {m : yM} {j0 j1 j2 : Option Value} (hk : k ≤ f) (hR : RM c m) (Hr : ∀ r m', J168_22 f m = some (.inl r, m') → rg r → RM c m' → ∀ n', Q (.inl (some (yI r))) m' n') (Ht : ∀ e m', J168_22 f m = some (.inr e, m') → (fun e => e = 11) e → RM c m' → ∀ x n', Q (.inr (e, x)) m' n') : PW (gZ L xs) k 168 d 22 [j0, j1, j2] [] m n Q := by
  have hX : J168_22 f m = J168_22 f m := rfl
  exact p_throw c168_22 (fun x n' => Ht _ _ hX rfl hR x n')
def F168 (f : Nat) (x1 : Int) (x2 : Int) (m : yM) : Option ((Int ⊕ Nat) × yM) := (if F155 x1 (m (pA (m 0 4)) 12) = 0 then (J168_22 f m) else (if F167 x2 m = 0 then (J168_22 f m) else (if 0 ≤ x1 ∧ x1 < ((12 : Nat) : Int) then (some (.inl (m (59 + (x1).toNat) x2.toNat), m)) else none)))
set_option maxRecDepth 100000 in
theorem d168 {L : Nat} {xs : Nat → Int32} {k d n : Nat} {c : yS3} {f : Nat} {x1 : Int} {x2 : Int} {m : yM} (hk : k ≤ f) (gx1 : rg x1) (gx2 : rg x2) (hR : RM c m) : PC (gZ L xs) k d 168 [.ref 0, yI x1, yI x2] m n (qEI (fun e => e = 11) c (F168 f x1 x2 m)) := by
  have hX : F168 f x1 x2 m = F168 f x1 x2 m := rfl
  have Hr : ∀ r m', F168 f x1 x2 m = some (.inl r, m') → rg r → RM c m' → ∀ n' : Nat, (qEI (fun e => e = 11) c (F168 f x1 x2 m)) (.inl (some (yI r))) m' n' := fun r m' e h1 h2 n' => Or.inl ⟨r, rfl, h1, h2, e⟩
  have Ht : ∀ e m', F168 f x1 x2 m = some (.inr e, m') → (fun e => e = 11) e → RM c m' → ∀ x n' : Nat, (qEI (fun e => e = 11) c (F168 f x1 x2 m)) (.inr (e, x)) m' n' := fun e m' e1 h1 h2 x n' => Or.inr ⟨e, x, rfl, h1, h2, e1⟩
  refine PC.mk [some (.ref 0), some (yI x1), some (yI x2)] kn168 rfl ?_
  refine p_iload 1 c168_0 rfl rfl ?_
  refine p_aload 2 c168_1 rfl rfl ?_
  refine p_getV 5 (.ref (pA (m 0 4))) c168_2 rfl kf0_4 (pA_sv2 hR.2.1 rfl) ?_
  refine p_getX 8 (m (pA (m 0 4)) 12) c168_5 rfl (kP_12 (pA_is _)) rfl ?_
  refine p_cX 11 [yI x1, yI (m (pA (m 0 4)) 12)] [] c168_8 rfl rfl rfl (fun k' hk' d' => d155 gx1 (hR.rg _ _) hR) (fun hg6173 n6172 k6171 hk6171 => ?_)
  refine p_if 22 14 c168_11 rfl rfl (yz_eq hg6173) (fun hb6174 k6175 hk6175 => ?_) (fun hb6174 k6176 hk6176 => ?_)
  · have hX6177 := hX.trans (if_pos hb6174)
    exact tJ168_22 (f := f) (by omega) hR (fun r' m' e' => Hr r' m' (hX6177.trans e')) (fun r' m' e' => Ht r' m' (hX6177.trans e'))
  · have hX6178 := hX.trans (if_neg hb6174)
    refine p_aload 15 c168_14 rfl rfl ?_
    refine p_iload 16 c168_15 rfl rfl ?_
    refine p_cX 19 [.ref 0, yI x2] [] c168_16 rfl rfl rfl (fun k' hk' d' => d167 gx2 hR) (fun hg6184 n6180 k6179 hk6179 => ?_)
    refine p_if 30 22 c168_19 rfl rfl (yz_ne hg6184) (fun hb6185 k6186 hk6186 => ?_) (fun hb6185 k6187 hk6187 => ?_)
    · have hX6188 := hX6178.trans (if_neg hb6185)
      refine p_aload 31 c168_30 rfl rfl ?_
      refine p_getR 34 c168_31 rfl kf0_2 ?_
      refine p_getR 37 c168_34 rfl kf8_1 ?_
      refine p_iload 38 c168_37 rfl rfl ?_
      refine p_aaX 39 c168_38 rfl kr58 gx1 (fun hx6189 => ?_)
      have hX6190 := hX6188.trans (if_pos hx6189)
      refine p_iload 40 c168_39 rfl rfl ?_
      refine p_iaX 41 (m (59 + (x1).toNat) x2.toNat) c168_40 rfl (kR58 hx6189) gx2 rfl (fun hx6191 => ?_)
      exact p_ireturn c168_41 (Hr _ _ hX6190 (hR.rg _ _) hR _)
    · have hX6192 := hX6178.trans (if_pos (Classical.not_not.mp hb6185))
      exact tJ168_22 (f := f) (by omega) hR (fun r' m' e' => Hr r' m' (hX6192.trans e')) (fun r' m' e' => Ht r' m' (hX6192.trans e'))
def F169 (f : Nat) (x1 : Int) (x2 : Int) (m : yM) : Option (Int × yM) := (bT (F168 f x1 x2 m) (fun r6195 m6197 => (some (0, yup m6197 413 0 ((i2l r6195).toInt)))) (fun e' m6197 => (if e' = 11 then (some (1, m6197)) else none)))
set_option maxRecDepth 100000 in
theorem d169 {L : Nat} {xs : Nat → Int32} {k d n : Nat} {c : yS3} {f : Nat} {x1 : Int} {x2 : Int} {m : yM} (hk : k ≤ f) (gx1 : rg x1) (gx2 : rg x2) (hR : RM c m) : PC (gZ L xs) k d 169 [.ref 0, yI x1, yI x2, .ref 413] m n (qS c (F169 f x1 x2 m)) := by
  have hX : F169 f x1 x2 m = F169 f x1 x2 m := rfl
  have Hr : ∀ r m', F169 f x1 x2 m = some (r, m') → rg r → RM c m' → ∀ n' : Nat, (qS c (F169 f x1 x2 m)) (.inl (some (yI r))) m' n' := fun r m' e h1 h2 n' => ⟨r, rfl, h1, h2, e⟩
  refine PC.mk [some (.ref 0), some (yI x1), some (yI x2), some (.ref 413), none] kn169 rfl ?_
  refine p_aload 1 c169_0 rfl rfl ?_
  refine p_iconst 2 c169_1 rfl ?_
  refine p_aload 3 c169_2 rfl rfl ?_
  refine p_iload 4 c169_3 rfl rfl ?_
  refine p_iload 5 c169_4 rfl rfl ?_
  refine p_cTI 8 [.ref 0, yI x1, yI x2] [yI 0, .ref 413] c169_5 rfl rfl rfl (fun k' hk' d' => d168 (f := f) (by omega) gx1 gx2 hR) (fun r6195 m6197 hF6193 hg6194 hR6198 n6170 k6169 hk6169 => ?_) (fun e' q6202 m6197 n' hF6193 hE6200 hR6201 => ?_)
  · have hX6196 := hX.trans (bT_l hF6193)
    refine p_i2l 9 c169_8 rfl ?_
    refine p_laS 10 c169_9 rfl kl413 (rgD rfl) (fun hx6203 => ?_)
    have hR6204 := hR6198.up 413 0 (v := (i2l r6195).toInt) (nselD rfl) (rg_i2l _)
    refine p_goto 17 c169_10 rfl ?_
    refine p_iconst 18 c169_17 rfl ?_
    exact p_ireturn c169_18 (Hr _ _ hX6196 (rgD rfl) hR6204 _)
  · have hXe := hX.trans (bT_r hF6193)
    cases (show e' = 11 from hE6200)
    have hX6205 := hXe.trans (if_pos rfl)
    refine ⟨fun pq hpq k6206 hk6206 => ?_, fun hno => absurd (r_kh169_5_11.symm.trans hno) (by simp)⟩
    have hpp : pq = 13 := by have := r_kh169_5_11.symm.trans hpq; simpa using this.symm
    subst hpp
    refine p_astore 15 c169_13 rfl rfl ?_
    refine p_iconst 16 c169_15 rfl ?_
    exact p_ireturn c169_16 (Hr _ _ hX6205 (rgD rfl) hR6201 _)
def F170 (x1 : Int) (m : yM) : Int := (if m 376 19 = 0 then 0 else (if F22 x1 0 (wr ((m 384 (m 376 18).toNat) - 1)) = 0 then 0 else 1))
set_option maxRecDepth 100000 in
theorem d170 {L : Nat} {xs : Nat → Int32} {k d n : Nat} {c : yS3} {x1 : Int} {m : yM} (gx1 : rg x1) (hR : RM c m) : PC (gZ L xs) k d 170 [.ref 376, yI x1] m n (qX m (F170 x1 m)) := by
  have hX : F170 x1 m = F170 x1 m := rfl
  have Hr : ∀ r, F170 x1 m = r → rg r → ∀ n' : Nat, (qX m (F170 x1 m)) (.inl (some (yI r))) m n' := fun r e h n' => by subst e; exact ⟨rfl, h, rfl⟩
  refine PC.mk [some (.ref 376), some (yI x1)] kn170 rfl ?_
  refine p_aload 1 c170_0 rfl rfl ?_
  refine p_getX 4 (m 376 19) c170_1 rfl kf376_19 rfl ?_
  refine p_if 30 7 c170_4 rfl rfl (yz_eq (hR.rg _ _)) (fun hb6219 k6220 hk6220 => ?_) (fun hb6219 k6221 hk6221 => ?_)
  · have hX6222 := hX.trans (if_pos hb6219)
    refine p_iconst 31 c170_30 rfl ?_
    exact p_ireturn c170_31 (Hr _ hX6222 (rgD rfl) _)
  · have hX6223 := hX.trans (if_neg hb6219)
    refine p_iload 8 c170_7 rfl rfl ?_
    refine p_iconst 9 c170_8 rfl ?_
    refine p_aload 10 c170_9 rfl rfl ?_
    refine p_getR 13 c170_10 rfl kf376_21 ?_
    refine p_aload 14 c170_13 rfl rfl ?_
    refine p_getX 17 (m 376 18) c170_14 rfl kf376_18 rfl ?_
    refine p_iaX 18 (m 384 (m 376 18).toNat) c170_17 rfl ka384 (hR.rg _ _) rfl (fun hx6224 => ?_)
    refine p_iconst 19 c170_18 rfl ?_
    refine p_isub 20 c170_19 rfl ?_
    refine p_cX 23 [yI x1, yI 0, yI (wr ((m 384 (m 376 18).toNat) - 1))] [] c170_20 rfl rfl rfl (fun k' hk' d' => d22 gx1 (rgD rfl) (rg_wr _) hR) (fun hg6227 n6226 k6225 hk6225 => ?_)
    refine p_if 30 26 c170_23 rfl rfl (yz_eq hg6227) (fun hb6228 k6229 hk6229 => ?_) (fun hb6228 k6230 hk6230 => ?_)
    · have hX6231 := hX6223.trans (if_pos hb6228)
      refine p_iconst 31 c170_30 rfl ?_
      exact p_ireturn c170_31 (Hr _ hX6231 (rgD rfl) _)
    · have hX6232 := hX6223.trans (if_neg hb6228)
      refine p_iconst 27 c170_26 rfl ?_
      refine p_goto 31 c170_27 rfl ?_
      exact p_ireturn c170_31 (Hr _ hX6232 (rgD rfl) _)
def J171_33 (f : Nat) (x1 : Int) (x2 : Int) (xs1 : Int) (m : yM) : Option (Int × yM) := (bI (F162 f xs1 m) (fun r6242 m6244 => (if r6242 = 0 then (some (0, m6244)) else (some (m6244 406 (wr ((wr (10 * x1)) + x2)).toNat, m6244)))))
set_option maxRecDepth 100000 in
theorem tJ171_33 {L : Nat} {xs : Nat → Int32} {Q : xO → yM → Nat → Prop} {k d n : Nat} {c : yS3} {f : Nat} {x1 : Int} {x2 : Int} {xs1 : Int} {m : yM} (hk : k ≤ f) (gx1 : rg x1) (gx2 : rg x2) (gxs1 : rg xs1) (hR : RM c m) (Hr : ∀ r m', J171_33 f x1 x2 xs1 m = some (r, m') → rg r → RM c m' → ∀ n', Q (.inl (some (yI r))) m' n') : PW (gZ L xs) k 171 d 33 [some (.ref 376), some (yI x1), some (yI x2)] [yI xs1, .ref 376] m n Q := by
  have hX : J171_33 f x1 x2 xs1 m = J171_33 f x1 x2 xs1 m := rfl
  refine p_cS 36 [.ref 376, yI xs1] [] c171_33 rfl rfl rfl (fun k' hk' d' => d162 (f := f) (by omega) gxs1 hR) (fun r6242 m6244 hF6240 hg6241 hR6245 n6239 k6238 hk6238 => ?_)
  have hX6243 := hX.trans (bI_s hF6240)
  refine p_if 53 39 c171_36 rfl rfl (yz_eq hg6241) (fun hb6246 k6247 hk6247 => ?_) (fun hb6246 k6248 hk6248 => ?_)
  · have hX6249 := hX6243.trans (if_pos hb6246)
    refine p_iconst 54 c171_53 rfl ?_
    exact p_ireturn c171_54 (Hr _ _ hX6249 (rgD rfl) hR6245 _)
  · have hX6250 := hX6243.trans (if_neg hb6246)
    refine p_aload 40 c171_39 rfl rfl ?_
    refine p_getR 43 c171_40 rfl kf376_43 ?_
    refine p_iconst 45 c171_43 rfl ?_
    refine p_iload 46 c171_45 rfl rfl ?_
    refine p_imul 47 c171_46 rfl ?_
    refine p_iload 48 c171_47 rfl rfl ?_
    refine p_iadd 49 c171_48 rfl ?_
    refine p_iaX 50 (m6244 406 (wr ((wr (10 * x1)) + x2)).toNat) c171_49 rfl ka406 (rg_wr _) rfl (fun hx6251 => ?_)
    refine p_goto 54 c171_50 rfl ?_
    exact p_ireturn c171_54 (Hr _ _ hX6250 (hR6245.rg _ _) hR6245 _)
def J171_32 (f : Nat) (x1 : Int) (x2 : Int) (m : yM) : Option (Int × yM) := (J171_33 f x1 x2 0 m)
set_option maxRecDepth 100000 in
theorem tJ171_32 {L : Nat} {xs : Nat → Int32} {Q : xO → yM → Nat → Prop} {k d n : Nat} {c : yS3} {f : Nat} {x1 : Int} {x2 : Int} {m : yM} (hk : k ≤ f) (gx1 : rg x1) (gx2 : rg x2) (hR : RM c m) (Hr : ∀ r m', J171_32 f x1 x2 m = some (r, m') → rg r → RM c m' → ∀ n', Q (.inl (some (yI r))) m' n') : PW (gZ L xs) k 171 d 32 [some (.ref 376), some (yI x1), some (yI x2)] [.ref 376] m n Q := by
  have hX : J171_32 f x1 x2 m = J171_32 f x1 x2 m := rfl
  refine p_iconst 33 c171_32 rfl ?_
  exact tJ171_33 (f := f) (by omega) gx1 gx2 (rgD rfl) hR (fun r' m' e' => Hr r' m' (hX.trans e'))
def F171 (f : Nat) (x1 : Int) (x2 : Int) (m : yM) : Option (Int × yM) := (if F170 x2 m = 0 then (J171_32 f x1 x2 m) else (if F22 x1 0 (wr ((m 386 (m 376 18).toNat) - 1)) = 0 then (J171_32 f x1 x2 m) else (J171_33 f x1 x2 1 m)))
set_option maxRecDepth 100000 in
theorem d171 {L : Nat} {xs : Nat → Int32} {k d n : Nat} {c : yS3} {f : Nat} {x1 : Int} {x2 : Int} {m : yM} (hk : k ≤ f) (gx1 : rg x1) (gx2 : rg x2) (hR : RM c m) : PC (gZ L xs) k d 171 [.ref 376, yI x1, yI x2] m n (qS c (F171 f x1 x2 m)) := by
  have hX : F171 f x1 x2 m = F171 f x1 x2 m := rfl
  have Hr : ∀ r m', F171 f x1 x2 m = some (r, m') → rg r → RM c m' → ∀ n' : Nat, (qS c (F171 f x1 x2 m)) (.inl (some (yI r))) m' n' := fun r m' e h1 h2 n' => ⟨r, rfl, h1, h2, e⟩
  refine PC.mk [some (.ref 376), some (yI x1), some (yI x2)] kn171 rfl ?_
  refine p_aload 1 c171_0 rfl rfl ?_
  refine p_aload 2 c171_1 rfl rfl ?_
  refine p_iload 3 c171_2 rfl rfl ?_
  refine p_cX 6 [.ref 376, yI x2] [.ref 376] c171_3 rfl rfl rfl (fun k' hk' d' => d170 gx2 hR) (fun hg6233 n6218 k6217 hk6217 => ?_)
  refine p_if 32 9 c171_6 rfl rfl (yz_eq hg6233) (fun hb6234 k6235 hk6235 => ?_) (fun hb6234 k6236 hk6236 => ?_)
  · have hX6237 := hX.trans (if_pos hb6234)
    exact tJ171_32 (f := f) (by omega) gx1 gx2 hR (fun r' m' e' => Hr r' m' (hX6237.trans e'))
  · have hX6252 := hX.trans (if_neg hb6234)
    refine p_iload 10 c171_9 rfl rfl ?_
    refine p_iconst 11 c171_10 rfl ?_
    refine p_aload 12 c171_11 rfl rfl ?_
    refine p_getR 15 c171_12 rfl kf376_23 ?_
    refine p_aload 16 c171_15 rfl rfl ?_
    refine p_getX 19 (m 376 18) c171_16 rfl kf376_18 rfl ?_
    refine p_iaX 20 (m 386 (m 376 18).toNat) c171_19 rfl ka386 (hR.rg _ _) rfl (fun hx6253 => ?_)
    refine p_iconst 21 c171_20 rfl ?_
    refine p_isub 22 c171_21 rfl ?_
    refine p_cX 25 [yI x1, yI 0, yI (wr ((m 386 (m 376 18).toNat) - 1))] [.ref 376] c171_22 rfl rfl rfl (fun k' hk' d' => d22 gx1 (rgD rfl) (rg_wr _) hR) (fun hg6256 n6255 k6254 hk6254 => ?_)
    refine p_if 32 28 c171_25 rfl rfl (yz_eq hg6256) (fun hb6257 k6258 hk6258 => ?_) (fun hb6257 k6259 hk6259 => ?_)
    · have hX6260 := hX6252.trans (if_pos hb6257)
      exact tJ171_32 (f := f) (by omega) gx1 gx2 hR (fun r' m' e' => Hr r' m' (hX6260.trans e'))
    · have hX6261 := hX6252.trans (if_neg hb6257)
      refine p_iconst 29 c171_28 rfl ?_
      refine p_goto 33 c171_29 rfl ?_
      exact tJ171_33 (f := f) (by omega) gx1 gx2 (rgD rfl) hR (fun r' m' e' => Hr r' m' (hX6261.trans e'))
def F172 (f : Nat) (x1 : Int) (m : yM) : Option ((Int ⊕ Nat) × yM) := (if F167 x1 m = 0 then (some (.inr 11, m)) else (some (.inl (m 71 x1.toNat), m)))
set_option maxRecDepth 100000 in
theorem d172 {L : Nat} {xs : Nat → Int32} {k d n : Nat} {c : yS3} {f : Nat} {x1 : Int} {m : yM} (hk : k ≤ f) (gx1 : rg x1) (hR : RM c m) : PC (gZ L xs) k d 172 [.ref 0, yI x1] m n (qEI (fun e => e = 11) c (F172 f x1 m)) := by
  have hX : F172 f x1 m = F172 f x1 m := rfl
  have Hr : ∀ r m', F172 f x1 m = some (.inl r, m') → rg r → RM c m' → ∀ n' : Nat, (qEI (fun e => e = 11) c (F172 f x1 m)) (.inl (some (yI r))) m' n' := fun r m' e h1 h2 n' => Or.inl ⟨r, rfl, h1, h2, e⟩
  have Ht : ∀ e m', F172 f x1 m = some (.inr e, m') → (fun e => e = 11) e → RM c m' → ∀ x n' : Nat, (qEI (fun e => e = 11) c (F172 f x1 m)) (.inr (e, x)) m' n' := fun e m' e1 h1 h2 x n' => Or.inr ⟨e, x, rfl, h1, h2, e1⟩
  refine PC.mk [some (.ref 0), some (yI x1)] kn172 rfl ?_
  refine p_aload 1 c172_0 rfl rfl ?_
  refine p_iload 2 c172_1 rfl rfl ?_
  refine p_cX 5 [.ref 0, yI x1] [] c172_2 rfl rfl rfl (fun k' hk' d' => d167 gx1 hR) (fun hg6278 n6277 k6276 hk6276 => ?_)
  refine p_if 16 8 c172_5 rfl rfl (yz_ne hg6278) (fun hb6279 k6280 hk6280 => ?_) (fun hb6279 k6281 hk6281 => ?_)
  · have hX6282 := hX.trans (if_neg hb6279)
    refine p_aload 17 c172_16 rfl rfl ?_
    refine p_getR 20 c172_17 rfl kf0_2 ?_
    refine p_getR 23 c172_20 rfl kf8_2 ?_
    refine p_iload 24 c172_23 rfl rfl ?_
    refine p_iaX 25 (m 71 x1.toNat) c172_24 rfl ka71 gx1 rfl (fun hx6283 => ?_)
    exact p_ireturn c172_25 (Hr _ _ hX6282 (hR.rg _ _) hR _)
  · have hX6284 := hX.trans (if_pos (Classical.not_not.mp hb6279))
    exact p_throw c172_8 (fun x n' => Ht _ _ hX6284 rfl hR x n')
def F173 (f : Nat) (x1 : Int) (m : yM) : Option (Int × yM) := (bT (F172 f x1 m) (fun r6287 m6289 => (some (0, yup m6289 413 0 ((i2l r6287).toInt)))) (fun e' m6289 => (if e' = 11 then (some (1, m6289)) else none)))
set_option maxRecDepth 100000 in
theorem d173 {L : Nat} {xs : Nat → Int32} {k d n : Nat} {c : yS3} {f : Nat} {x1 : Int} {m : yM} (hk : k ≤ f) (gx1 : rg x1) (hR : RM c m) : PC (gZ L xs) k d 173 [.ref 0, yI x1, .ref 413] m n (qS c (F173 f x1 m)) := by
  have hX : F173 f x1 m = F173 f x1 m := rfl
  have Hr : ∀ r m', F173 f x1 m = some (r, m') → rg r → RM c m' → ∀ n' : Nat, (qS c (F173 f x1 m)) (.inl (some (yI r))) m' n' := fun r m' e h1 h2 n' => ⟨r, rfl, h1, h2, e⟩
  refine PC.mk [some (.ref 0), some (yI x1), some (.ref 413), none] kn173 rfl ?_
  refine p_aload 1 c173_0 rfl rfl ?_
  refine p_iconst 2 c173_1 rfl ?_
  refine p_aload 3 c173_2 rfl rfl ?_
  refine p_iload 4 c173_3 rfl rfl ?_
  refine p_cTI 7 [.ref 0, yI x1] [yI 0, .ref 413] c173_4 rfl rfl rfl (fun k' hk' d' => d172 (f := f) (by omega) gx1 hR) (fun r6287 m6289 hF6285 hg6286 hR6290 n6275 k6274 hk6274 => ?_) (fun e' q6294 m6289 n' hF6285 hE6292 hR6293 => ?_)
  · have hX6288 := hX.trans (bT_l hF6285)
    refine p_i2l 8 c173_7 rfl ?_
    refine p_laS 9 c173_8 rfl kl413 (rgD rfl) (fun hx6295 => ?_)
    have hR6296 := hR6290.up 413 0 (v := (i2l r6287).toInt) (nselD rfl) (rg_i2l _)
    refine p_goto 15 c173_9 rfl ?_
    refine p_iconst 16 c173_15 rfl ?_
    exact p_ireturn c173_16 (Hr _ _ hX6288 (rgD rfl) hR6296 _)
  · have hXe := hX.trans (bT_r hF6285)
    cases (show e' = 11 from hE6292)
    have hX6297 := hXe.trans (if_pos rfl)
    refine ⟨fun pq hpq k6298 hk6298 => ?_, fun hno => absurd (r_kh173_4_11.symm.trans hno) (by simp)⟩
    have hpp : pq = 12 := by have := r_kh173_4_11.symm.trans hpq; simpa using this.symm
    subst hpp
    refine p_astore 13 c173_12 rfl rfl ?_
    refine p_iconst 14 c173_13 rfl ?_
    exact p_ireturn c173_14 (Hr _ _ hX6297 (rgD rfl) hR6293 _)
def F174 (f : Nat) (x1 : Int) (m : yM) : Option (Int × yM) := (bI (F162 f (F170 x1 m) m) (fun r6315 m6317 => (if r6315 = 0 then (some (0, m6317)) else (some (m6317 407 x1.toNat, m6317)))))
set_option maxRecDepth 100000 in
theorem d174 {L : Nat} {xs : Nat → Int32} {k d n : Nat} {c : yS3} {f : Nat} {x1 : Int} {m : yM} (hk : k ≤ f) (gx1 : rg x1) (hR : RM c m) : PC (gZ L xs) k d 174 [.ref 376, yI x1] m n (qS c (F174 f x1 m)) := by
  have hX : F174 f x1 m = F174 f x1 m := rfl
  have Hr : ∀ r m', F174 f x1 m = some (r, m') → rg r → RM c m' → ∀ n' : Nat, (qS c (F174 f x1 m)) (.inl (some (yI r))) m' n' := fun r m' e h1 h2 n' => ⟨r, rfl, h1, h2, e⟩
  refine PC.mk [some (.ref 376), some (yI x1)] kn174 rfl ?_
  refine p_aload 1 c174_0 rfl rfl ?_
  refine p_aload 2 c174_1 rfl rfl ?_
  refine p_iload 3 c174_2 rfl rfl ?_
  refine p_cX 6 [.ref 376, yI x1] [.ref 376] c174_3 rfl rfl rfl (fun k' hk' d' => d170 gx1 hR) (fun hg6310 n6309 k6308 hk6308 => ?_)
  refine p_cS 9 [.ref 376, yI (F170 x1 m)] [] c174_6 rfl rfl rfl (fun k' hk' d' => d162 (f := f) (by omega) hg6310 hR) (fun r6315 m6317 hF6313 hg6314 hR6318 n6312 k6311 hk6311 => ?_)
  have hX6316 := hX.trans (bI_s hF6313)
  refine p_if 21 12 c174_9 rfl rfl (yz_eq hg6314) (fun hb6319 k6320 hk6320 => ?_) (fun hb6319 k6321 hk6321 => ?_)
  · have hX6322 := hX6316.trans (if_pos hb6319)
    refine p_iconst 22 c174_21 rfl ?_
    exact p_ireturn c174_22 (Hr _ _ hX6322 (rgD rfl) hR6318 _)
  · have hX6323 := hX6316.trans (if_neg hb6319)
    refine p_aload 13 c174_12 rfl rfl ?_
    refine p_getR 16 c174_13 rfl kf376_44 ?_
    refine p_iload 17 c174_16 rfl rfl ?_
    refine p_iaX 18 (m6317 407 x1.toNat) c174_17 rfl ka407 gx1 rfl (fun hx6324 => ?_)
    refine p_goto 22 c174_18 rfl ?_
    exact p_ireturn c174_22 (Hr _ _ hX6323 (hR6318.rg _ _) hR6318 _)
def J175_53 (f : Nat) (A : Nat) (a1 : Nat) (x2 : Int) : Option (Int ⊕ (Int ⊕ Int)) := (some (.inl (wr (x2 + 1))))
set_option maxRecDepth 100000 in
theorem tJ175_53 {L : Nat} {xs : Nat → Int32} {Q : xO → yM → Nat → Prop} {k d n : Nat} {c : yS3} {f : Nat} {A : Nat} {a1 : Nat} {x2 : Int} {m : yM} (hk : k ≤ f) (hc : c.2.1 = pX A) (hA : (A = 256 ∨ A = 316)) (hs1 : (276 ≤ a1 ∧ a1 < 316) ∨ (336 ≤ a1 ∧ a1 < 376)) (gx2 : rg x2) (hR : RM c m) (Hn : ∀ (y0 : Int) (n' : Nat), J175_53 f A a1 x2 = some (.inl y0) → rg y0 → ∀ k', k' < k → PW (gZ L xs) k' 175 d 2 [some (.ref 8), some (.ref a1), some (yI y0)] [] m n' Q) (He : ∀ (y0 : Int) (n' : Nat), J175_53 f A a1 x2 = some (.inr (.inl y0)) → rg y0 → ∀ k', k' ≤ k → PW (gZ L xs) k' 175 d 59 [some (.ref 8), some (.ref a1), some (yI y0)] [] m n' Q) (Hr : ∀ r, J175_53 f A a1 x2 = some (.inr (.inr r)) → rg r → ∀ n', Q (.inl (some (yI r))) m n') : PW (gZ L xs) k 175 d 53 [some (.ref 8), some (.ref a1), some (yI x2)] [] m n Q := by
  have hX : J175_53 f A a1 x2 = J175_53 f A a1 x2 := rfl
  refine p_iinc 56 c175_53 rfl rfl rfl ?_
  refine p_gotoD 2 c175_56 rfl (fun k6363 hk6363 => ?_)
  exact Hn _ _ hX (rg_wr _) _ (by omega)
def B175_2 (f : Nat) (A : Nat) (a1 : Nat) (x2 : Int) (m : yM) : Option (Int ⊕ (Int ⊕ Int)) := (if x2 < m A 14 then (if 0 ≤ (m a1 3) ∧ (m a1 3) < ((48 : Nat) : Int) then (if m (10 + (m a1 3).toNat) x2.toNat = (-1) then (J175_53 f A a1 x2) else (bP (F81 f A (m (A + 8) x2.toNat) (m a1 7) m) (fun r6370 => (if r6370 = 0 then (some (.inr (.inr 0))) else (J175_53 f A a1 x2))))) else none) else (some (.inr (.inl x2))))
set_option maxRecDepth 100000 in
theorem tB175_2 {L : Nat} {xs : Nat → Int32} {Q : xO → yM → Nat → Prop} {k d n : Nat} {c : yS3} {f : Nat} {A : Nat} {a1 : Nat} {x2 : Int} {m : yM} (hk : k ≤ f) (hc : c.2.1 = pX A) (hA : (A = 256 ∨ A = 316)) (hs1 : (276 ≤ a1 ∧ a1 < 316) ∨ (336 ≤ a1 ∧ a1 < 376)) (gx2 : rg x2) (hR : RM c m) (Hn : ∀ (y0 : Int) (n' : Nat), B175_2 f A a1 x2 m = some (.inl y0) → rg y0 → ∀ k', k' < k → PW (gZ L xs) k' 175 d 2 [some (.ref 8), some (.ref a1), some (yI y0)] [] m n' Q) (He : ∀ (y0 : Int) (n' : Nat), B175_2 f A a1 x2 m = some (.inr (.inl y0)) → rg y0 → ∀ k', k' ≤ k → PW (gZ L xs) k' 175 d 59 [some (.ref 8), some (.ref a1), some (yI y0)] [] m n' Q) (Hr : ∀ r, B175_2 f A a1 x2 m = some (.inr (.inr r)) → rg r → ∀ n', Q (.inl (some (yI r))) m n') : PW (gZ L xs) k 175 d 2 [some (.ref 8), some (.ref a1), some (yI x2)] [] m n Q := by
  have hX : B175_2 f A a1 x2 m = B175_2 f A a1 x2 m := rfl
  refine p_iload 3 c175_2 rfl rfl ?_
  refine p_aload 4 c175_3 rfl rfl ?_
  refine p_getV 7 (.ref A) c175_4 rfl kf8_4 (pX_of hA hR.2.2.2.2.1 hc) ?_
  refine p_getX 10 (m A 14) c175_7 rfl (kP_14 hA) rfl ?_
  refine p_icmp 59 13 c175_10 rfl rfl ((yc_ge gx2 (hR.rg _ _)).trans Int.not_lt.symm) (fun hb6351 k6352 hk6352 => ?_) (fun hb6351 k6353 hk6353 => ?_)
  · have hX6354 := hX.trans (if_neg hb6351)
    exact He _ _ hX6354 gx2 _ (by omega)
  · have hX6355 := hX.trans (if_pos (Classical.not_not.mp hb6351))
    refine p_aload 14 c175_13 rfl rfl ?_
    refine p_getR 17 c175_14 rfl kf8_0 ?_
    refine p_aload 18 c175_17 rfl rfl ?_
    refine p_getX 21 (m a1 3) c175_18 rfl (kS_3 hs1) rfl ?_
    refine p_aaX 22 c175_21 rfl kr9 (hR.rg _ _) (fun hx6356 => ?_)
    have hX6357 := hX6355.trans (if_pos hx6356)
    refine p_iload 23 c175_22 rfl rfl ?_
    refine p_iaX 24 (m (10 + (m a1 3).toNat) x2.toNat) c175_23 rfl (kR9 hx6356) gx2 rfl (fun hx6358 => ?_)
    refine p_iconst 25 c175_24 rfl ?_
    refine p_icmp 53 28 c175_25 rfl rfl (yc_eq (hR.rg _ _) (rgD rfl)) (fun hb6359 k6360 hk6360 => ?_) (fun hb6359 k6361 hk6361 => ?_)
    · have hX6362 := hX6357.trans (if_pos hb6359)
      exact tJ175_53 (f := f) (by omega) hc hA hs1 gx2 hR (fun y0 n' e' h0 k' hk' => Hn y0 n' (hX6362.trans e') h0 k' (by omega)) (fun y0 n' e' h0 k' hk' => He y0 n' (hX6362.trans e') h0 k' (by omega)) (fun r' e' => Hr r' (hX6362.trans e'))
    · have hX6364 := hX6357.trans (if_neg hb6359)
      refine p_aload 29 c175_28 rfl rfl ?_
      refine p_getV 32 (.ref A) c175_29 rfl kf8_4 (pX_of hA hR.2.2.2.2.1 hc) ?_
      refine p_aload 33 c175_32 rfl rfl ?_
      refine p_getV 36 (.ref A) c175_33 rfl kf8_4 (pX_of hA hR.2.2.2.2.1 hc) ?_
      refine p_getR 39 c175_36 rfl (kP_7 hA) ?_
      refine p_iload 40 c175_39 rfl rfl ?_
      refine p_iaX 41 (m (A + 8) x2.toNat) c175_40 rfl (kPa_8 hA) gx2 rfl (fun hx6365 => ?_)
      refine p_aload 42 c175_41 rfl rfl ?_
      refine p_getX 45 (m a1 7) c175_42 rfl (kS_7 hs1) rfl ?_
      refine p_cO 48 [.ref A, yI (m (A + 8) x2.toNat), yI (m a1 7)] [] c175_45 rfl rfl rfl (fun k' hk' d' => d81 (f := f) (by omega) hA (hR.rg _ _) (hR.rg _ _) hR) (fun r6370 hF6368 hg6369 n6367 k6366 hk6366 => ?_)
      have hX6371 := hX6364.trans (bP_s hF6368)
      refine p_if 53 51 c175_48 rfl rfl (yz_ne hg6369) (fun hb6372 k6373 hk6373 => ?_) (fun hb6372 k6374 hk6374 => ?_)
      · have hX6375 := hX6371.trans (if_neg hb6372)
        exact tJ175_53 (f := f) (by omega) hc hA hs1 gx2 hR (fun y0 n' e' h0 k' hk' => Hn y0 n' (hX6375.trans e') h0 k' (by omega)) (fun y0 n' e' h0 k' hk' => He y0 n' (hX6375.trans e') h0 k' (by omega)) (fun r' e' => Hr r' (hX6375.trans e'))
      · have hX6376 := hX6371.trans (if_pos (Classical.not_not.mp hb6372))
        refine p_iconst 52 c175_51 rfl ?_
        exact p_ireturn c175_52 (Hr _ hX6376 (rgD rfl) _)
def F175 (f : Nat) (A : Nat) (a1 : Nat) (m : yM) : Option Int := (bQ (ploop (fun (l : Int) => B175_2 f A a1 l m) f 0) (fun l6377 => (some 1)) (fun r => some r))
set_option maxRecDepth 100000 in
theorem d175 {L : Nat} {xs : Nat → Int32} {k d n : Nat} {c : yS3} {f : Nat} {A : Nat} {a1 : Nat} {m : yM} (hk : k ≤ f) (hc : c.2.1 = pX A) (hA : (A = 256 ∨ A = 316)) (hs1 : (276 ≤ a1 ∧ a1 < 316) ∨ (336 ≤ a1 ∧ a1 < 376)) (hR : RM c m) : PC (gZ L xs) k d 175 [.ref 8, .ref a1] m n (qO m (F175 f A a1 m)) := by
  have hX : F175 f A a1 m = F175 f A a1 m := rfl
  have Hr : ∀ r, F175 f A a1 m = some r → rg r → ∀ n' : Nat, (qO m (F175 f A a1 m)) (.inl (some (yI r))) m n' := fun r e h n' => ⟨r, rfl, h, rfl, e⟩
  refine PC.mk [some (.ref 8), some (.ref a1), none] kn175 rfl ?_
  refine p_iconst 1 c175_0 rfl ?_
  refine p_istore 2 c175_1 rfl rfl ?_
  refine PW.ploop (K := k) (pce := 59) (fun (l : Int) => B175_2 f A a1 l m) (fun (l : Int) j => [some (.ref 8), some (.ref a1), some (yI l)]) (fun (l : Int) => rg l) (fun r' => rg r' → ∀ n' : Nat, (qO m (F175 f A a1 m)) (.inl (some (yI r'))) m n') (fun k' hk' l j n' hl Hn' He' Hr' => tB175_2 (f := f) (by omega) hc hA hs1 hl hR (fun y0 n2 e h0 => Hn' y0 (fun q => ([none, none, none] : List (Option Value)).getD q none) n2 e h0) (fun y0 n2 e h0 => He' y0 (fun q => ([none, none, none] : List (Option Value)).getD q none) n2 e h0) Hr') f k (by omega) (Nat.le_refl _) 0 (fun q => ([some (.ref 8), some (.ref a1), some (yI 0)] : xL).getD q none) _ (rgD rfl) (fun l6377 j6380 n6382 e6379 hl6378 k6381 hk6381 => ?_) (fun r' e' => ?_)
  · have hX6383 := hX.trans (bQ_l e6379)
    refine p_iconst 60 c175_59 rfl ?_
    exact p_ireturn c175_60 (Hr _ hX6383 (rgD rfl) _)
  · exact Hr r' (hX.trans (bQ_r e'))
def F176 (f : Nat) (x1 : Int) (m : yM) : Option ((Int ⊕ Nat) × yM) := (if F155 x1 (m (pA (m 0 4)) 13) = 0 then (some (.inr 11, m)) else (if 0 ≤ (m ((pA (m 0 4)) + 9) x1.toNat) ∧ (m ((pA (m 0 4)) + 9) x1.toNat) < ((40 : Nat) : Int) then (bP (F175 f (pA (m 8 4)) ((pA (m 0 4)) + 20 + (m ((pA (m 0 4)) + 9) x1.toNat).toNat) m) (fun r6386 => (if r6386 = 0 then (some (.inl 0, m)) else (some (.inl 1, m))))) else none))
set_option maxRecDepth 100000 in
theorem d176 {L : Nat} {xs : Nat → Int32} {k d n : Nat} {c : yS3} {f : Nat} {x1 : Int} {m : yM} (hk : k ≤ f) (gx1 : rg x1) (hR : RM c m) : PC (gZ L xs) k d 176 [.ref 0, yI x1] m n (qEI (fun e => e = 11) c (F176 f x1 m)) := by
  have hX : F176 f x1 m = F176 f x1 m := rfl
  have Hr : ∀ r m', F176 f x1 m = some (.inl r, m') → rg r → RM c m' → ∀ n' : Nat, (qEI (fun e => e = 11) c (F176 f x1 m)) (.inl (some (yI r))) m' n' := fun r m' e h1 h2 n' => Or.inl ⟨r, rfl, h1, h2, e⟩
  have Ht : ∀ e m', F176 f x1 m = some (.inr e, m') → (fun e => e = 11) e → RM c m' → ∀ x n' : Nat, (qEI (fun e => e = 11) c (F176 f x1 m)) (.inr (e, x)) m' n' := fun e m' e1 h1 h2 x n' => Or.inr ⟨e, x, rfl, h1, h2, e1⟩
  refine PC.mk [some (.ref 0), some (yI x1)] kn176 rfl ?_
  refine p_iload 1 c176_0 rfl rfl ?_
  refine p_aload 2 c176_1 rfl rfl ?_
  refine p_getV 5 (.ref (pA (m 0 4))) c176_2 rfl kf0_4 (pA_sv2 hR.2.1 rfl) ?_
  refine p_getX 8 (m (pA (m 0 4)) 13) c176_5 rfl (kP_13 (pA_is _)) rfl ?_
  refine p_cX 11 [yI x1, yI (m (pA (m 0 4)) 13)] [] c176_8 rfl rfl rfl (fun k' hk' d' => d155 gx1 (hR.rg _ _) hR) (fun hg6341 n6340 k6339 hk6339 => ?_)
  refine p_if 22 14 c176_11 rfl rfl (yz_ne hg6341) (fun hb6342 k6343 hk6343 => ?_) (fun hb6342 k6344 hk6344 => ?_)
  · have hX6345 := hX.trans (if_neg hb6342)
    refine p_aload 23 c176_22 rfl rfl ?_
    refine p_getR 26 c176_23 rfl kf0_2 ?_
    refine p_aload 27 c176_26 rfl rfl ?_
    refine p_getV 30 (.ref (pA (m 0 4))) c176_27 rfl kf0_4 (pA_sv2 hR.2.1 rfl) ?_
    refine p_getR 33 c176_30 rfl (kP_6 (pA_is _)) ?_
    refine p_aload 34 c176_33 rfl rfl ?_
    refine p_getV 37 (.ref (pA (m 0 4))) c176_34 rfl kf0_4 (pA_sv2 hR.2.1 rfl) ?_
    refine p_getR 40 c176_37 rfl (kP_8 (pA_is _)) ?_
    refine p_iload 41 c176_40 rfl rfl ?_
    refine p_iaX 42 (m ((pA (m 0 4)) + 9) x1.toNat) c176_41 rfl (kPa_9 (pA_is _)) gx1 rfl (fun hx6346 => ?_)
    refine p_aaX 43 c176_42 rfl (kPr_7 (pA_is _)) (hR.rg _ _) (fun hx6347 => ?_)
    have hX6348 := hX6345.trans (if_pos hx6347)
    by_cases hs8 : s01 (m 8 4)
    case neg => exact p_call 46 [.ref 8, .ref ((pA (m 0 4)) + 20 + (m ((pA (m 0 4)) + 9) x1.toNat).toNat)] [] c176_43 rfl rfl rfl (fun k' _ d' => d175n hs8) (fun _ _ _ q => q.elim) (fun _ _ _ _ q => q.elim)
    have h8 := h8_of hR rfl hs8
    refine p_cO 46 [.ref 8, .ref ((pA (m 0 4)) + 20 + (m ((pA (m 0 4)) + 9) x1.toNat).toNat)] [] c176_43 rfl rfl rfl (fun k' hk' d' => d175 (f := f) (by omega) h8 (pA_is _) (kSr (pA_is _) hx6347) hR) (fun r6386 hF6384 hg6385 n6350 k6349 hk6349 => ?_)
    have hX6387 := hX6348.trans (bP_s hF6384)
    refine p_if 53 49 c176_46 rfl rfl (yz_eq hg6385) (fun hb6388 k6389 hk6389 => ?_) (fun hb6388 k6390 hk6390 => ?_)
    · have hX6391 := hX6387.trans (if_pos hb6388)
      refine p_iconst 54 c176_53 rfl ?_
      exact p_ireturn c176_54 (Hr _ _ hX6391 (rgD rfl) hR _)
    · have hX6392 := hX6387.trans (if_neg hb6388)
      refine p_iconst 50 c176_49 rfl ?_
      refine p_goto 54 c176_50 rfl ?_
      exact p_ireturn c176_54 (Hr _ _ hX6392 (rgD rfl) hR _)
  · have hX6393 := hX.trans (if_pos (Classical.not_not.mp hb6342))
    exact p_throw c176_14 (fun x n' => Ht _ _ hX6393 rfl hR x n')
def F177 (f : Nat) (x1 : Int) (m : yM) : Option (Int × yM) := (bT (F176 f x1 m) (fun r6396 m6398 => (some (0, yup m6398 413 0 ((i2l r6396).toInt)))) (fun e' m6398 => (if e' = 11 then (some (1, m6398)) else none)))
set_option maxRecDepth 100000 in
theorem d177 {L : Nat} {xs : Nat → Int32} {k d n : Nat} {c : yS3} {f : Nat} {x1 : Int} {m : yM} (hk : k ≤ f) (gx1 : rg x1) (hR : RM c m) : PC (gZ L xs) k d 177 [.ref 0, yI x1, .ref 413] m n (qS c (F177 f x1 m)) := by
  have hX : F177 f x1 m = F177 f x1 m := rfl
  have Hr : ∀ r m', F177 f x1 m = some (r, m') → rg r → RM c m' → ∀ n' : Nat, (qS c (F177 f x1 m)) (.inl (some (yI r))) m' n' := fun r m' e h1 h2 n' => ⟨r, rfl, h1, h2, e⟩
  refine PC.mk [some (.ref 0), some (yI x1), some (.ref 413), none] kn177 rfl ?_
  refine p_aload 1 c177_0 rfl rfl ?_
  refine p_iconst 2 c177_1 rfl ?_
  refine p_aload 3 c177_2 rfl rfl ?_
  refine p_iload 4 c177_3 rfl rfl ?_
  refine p_cTI 7 [.ref 0, yI x1] [yI 0, .ref 413] c177_4 rfl rfl rfl (fun k' hk' d' => d176 (f := f) (by omega) gx1 hR) (fun r6396 m6398 hF6394 hg6395 hR6399 n6338 k6337 hk6337 => ?_) (fun e' q6403 m6398 n' hF6394 hE6401 hR6402 => ?_)
  · have hX6397 := hX.trans (bT_l hF6394)
    refine p_i2l 8 c177_7 rfl ?_
    refine p_laS 9 c177_8 rfl kl413 (rgD rfl) (fun hx6404 => ?_)
    have hR6405 := hR6399.up 413 0 (v := (i2l r6396).toInt) (nselD rfl) (rg_i2l _)
    refine p_goto 15 c177_9 rfl ?_
    refine p_iconst 16 c177_15 rfl ?_
    exact p_ireturn c177_16 (Hr _ _ hX6397 (rgD rfl) hR6405 _)
  · have hXe := hX.trans (bT_r hF6394)
    cases (show e' = 11 from hE6401)
    have hX6406 := hXe.trans (if_pos rfl)
    refine ⟨fun pq hpq k6407 hk6407 => ?_, fun hno => absurd (r_kh177_4_11.symm.trans hno) (by simp)⟩
    have hpp : pq = 12 := by have := r_kh177_4_11.symm.trans hpq; simpa using this.symm
    subst hpp
    refine p_astore 13 c177_12 rfl rfl ?_
    refine p_iconst 14 c177_13 rfl ?_
    exact p_ireturn c177_14 (Hr _ _ hX6406 (rgD rfl) hR6402 _)
def J178_110 (f : Nat) (x1 : Int) (x2 : Int) (x3 : Int) (m : yM) : Option ((Int × yM) ⊕ ((Int × yM) ⊕ (Int × yM))) := (some (.inl ((wr (x3 + 1)), m)))
set_option maxRecDepth 100000 in
theorem tJ178_110 {L : Nat} {xs : Nat → Int32} {Q : xO → yM → Nat → Prop} {k d n : Nat} {c : yS3} {f : Nat} {x1 : Int} {x2 : Int} {x3 : Int} {m : yM} (hk : k ≤ f) (gx1 : rg x1) (gx2 : rg x2) (gx3 : rg x3) (hR : RM c m) (Hn : ∀ (y0 : Int) (m' : yM) (n' : Nat), J178_110 f x1 x2 x3 m = some (.inl (y0, m')) → rg y0 → RM c m' → ∀ k', k' < k → PW (gZ L xs) k' 178 d 42 [some (.ref 376), some (yI x1), some (yI x2), some (yI y0)] [] m' n' Q) (He : ∀ (y0 : Int) (m' : yM) (n' : Nat), J178_110 f x1 x2 x3 m = some (.inr (.inl (y0, m'))) → rg y0 → RM c m' → ∀ k', k' ≤ k → PW (gZ L xs) k' 178 d 116 [some (.ref 376), some (yI x1), some (yI x2), some (yI y0)] [] m' n' Q) (Hr : ∀ r m', J178_110 f x1 x2 x3 m = some (.inr (.inr (r, m'))) → rg r → RM c m' → ∀ n', Q (.inl (some (yI r))) m' n') : PW (gZ L xs) k 178 d 110 [some (.ref 376), some (yI x1), some (yI x2), some (yI x3)] [] m n Q := by
  have hX : J178_110 f x1 x2 x3 m = J178_110 f x1 x2 x3 m := rfl
  refine p_iinc 113 c178_110 rfl rfl rfl ?_
  refine p_gotoD 42 c178_113 rfl (fun k6445 hk6445 => ?_)
  exact Hn _ _ _ hX (rg_wr _) hR _ (by omega)
def B178_42 (f : Nat) (x1 : Int) (x2 : Int) (x3 : Int) (m : yM) : Option ((Int × yM) ⊕ ((Int × yM) ⊕ (Int × yM))) := (if x3 < m 388 (m 376 18).toNat then (if m 404 (wr ((wr (12 * x2)) + x3)).toNat < 0 then (J178_110 f x1 x2 x3 m) else (bP (F149 f (m 376 18) (m 400 (wr ((wr (12 * (m 376 18))) + x3)).toNat) (m 402 (wr ((wr (8 * (m 376 18))) + x1)).toNat) m) (fun r6453 => (if r6453 = 0 then (some (.inr (.inr (0, m)))) else (J178_110 f x1 x2 x3 m))))) else (some (.inr (.inl (x3, m)))))
set_option maxRecDepth 100000 in
theorem tB178_42 {L : Nat} {xs : Nat → Int32} {Q : xO → yM → Nat → Prop} {k d n : Nat} {c : yS3} {f : Nat} {x1 : Int} {x2 : Int} {x3 : Int} {m : yM} (hk : k ≤ f) (gx1 : rg x1) (gx2 : rg x2) (gx3 : rg x3) (hR : RM c m) (Hn : ∀ (y0 : Int) (m' : yM) (n' : Nat), B178_42 f x1 x2 x3 m = some (.inl (y0, m')) → rg y0 → RM c m' → ∀ k', k' < k → PW (gZ L xs) k' 178 d 42 [some (.ref 376), some (yI x1), some (yI x2), some (yI y0)] [] m' n' Q) (He : ∀ (y0 : Int) (m' : yM) (n' : Nat), B178_42 f x1 x2 x3 m = some (.inr (.inl (y0, m'))) → rg y0 → RM c m' → ∀ k', k' ≤ k → PW (gZ L xs) k' 178 d 116 [some (.ref 376), some (yI x1), some (yI x2), some (yI y0)] [] m' n' Q) (Hr : ∀ r m', B178_42 f x1 x2 x3 m = some (.inr (.inr (r, m'))) → rg r → RM c m' → ∀ n', Q (.inl (some (yI r))) m' n') : PW (gZ L xs) k 178 d 42 [some (.ref 376), some (yI x1), some (yI x2), some (yI x3)] [] m n Q := by
  have hX : B178_42 f x1 x2 x3 m = B178_42 f x1 x2 x3 m := rfl
  refine p_iload 43 c178_42 rfl rfl ?_
  refine p_aload 44 c178_43 rfl rfl ?_
  refine p_getR 47 c178_44 rfl kf376_25 ?_
  refine p_aload 48 c178_47 rfl rfl ?_
  refine p_getX 51 (m 376 18) c178_48 rfl kf376_18 rfl ?_
  refine p_iaX 52 (m 388 (m 376 18).toNat) c178_51 rfl ka388 (hR.rg _ _) rfl (fun hx6434 => ?_)
  refine p_icmp 116 55 c178_52 rfl rfl ((yc_ge gx3 (hR.rg _ _)).trans Int.not_lt.symm) (fun hb6435 k6436 hk6436 => ?_) (fun hb6435 k6437 hk6437 => ?_)
  · have hX6438 := hX.trans (if_neg hb6435)
    exact He _ _ _ hX6438 gx3 hR _ (by omega)
  · have hX6439 := hX.trans (if_pos (Classical.not_not.mp hb6435))
    refine p_aload 56 c178_55 rfl rfl ?_
    refine p_getR 59 c178_56 rfl kf376_41 ?_
    refine p_iconst 61 c178_59 rfl ?_
    refine p_iload 62 c178_61 rfl rfl ?_
    refine p_imul 63 c178_62 rfl ?_
    refine p_iload 64 c178_63 rfl rfl ?_
    refine p_iadd 65 c178_64 rfl ?_
    refine p_iaX 66 (m 404 (wr ((wr (12 * x2)) + x3)).toNat) c178_65 rfl ka404 (rg_wr _) rfl (fun hx6440 => ?_)
    refine p_if 110 69 c178_66 rfl rfl (yz_lt (hR.rg _ _)) (fun hb6441 k6442 hk6442 => ?_) (fun hb6441 k6443 hk6443 => ?_)
    · have hX6444 := hX6439.trans (if_pos hb6441)
      exact tJ178_110 (f := f) (by omega) gx1 gx2 gx3 hR (fun y0 m' n' e' h0 hR' k' hk' => Hn y0 m' n' (hX6444.trans e') h0 hR' k' (by omega)) (fun y0 m' n' e' h0 hR' k' hk' => He y0 m' n' (hX6444.trans e') h0 hR' k' (by omega)) (fun r' m' e' => Hr r' m' (hX6444.trans e'))
    · have hX6446 := hX6439.trans (if_neg hb6441)
      refine p_aload 70 c178_69 rfl rfl ?_
      refine p_aload 71 c178_70 rfl rfl ?_
      refine p_getX 74 (m 376 18) c178_71 rfl kf376_18 rfl ?_
      refine p_aload 75 c178_74 rfl rfl ?_
      refine p_getR 78 c178_75 rfl kf376_37 ?_
      refine p_iconst 80 c178_78 rfl ?_
      refine p_aload 81 c178_80 rfl rfl ?_
      refine p_getX 84 (m 376 18) c178_81 rfl kf376_18 rfl ?_
      refine p_imul 85 c178_84 rfl ?_
      refine p_iload 86 c178_85 rfl rfl ?_
      refine p_iadd 87 c178_86 rfl ?_
      refine p_iaX 88 (m 400 (wr ((wr (12 * (m 376 18))) + x3)).toNat) c178_87 rfl ka400 (rg_wr _) rfl (fun hx6447 => ?_)
      refine p_aload 89 c178_88 rfl rfl ?_
      refine p_getR 92 c178_89 rfl kf376_39 ?_
      refine p_iconst 94 c178_92 rfl ?_
      refine p_aload 95 c178_94 rfl rfl ?_
      refine p_getX 98 (m 376 18) c178_95 rfl kf376_18 rfl ?_
      refine p_imul 99 c178_98 rfl ?_
      refine p_iload 100 c178_99 rfl rfl ?_
      refine p_iadd 101 c178_100 rfl ?_
      refine p_iaX 102 (m 402 (wr ((wr (8 * (m 376 18))) + x1)).toNat) c178_101 rfl ka402 (rg_wr _) rfl (fun hx6448 => ?_)
      refine p_cO 105 [.ref 376, yI (m 376 18), yI (m 400 (wr ((wr (12 * (m 376 18))) + x3)).toNat), yI (m 402 (wr ((wr (8 * (m 376 18))) + x1)).toNat)] [] c178_102 rfl rfl rfl (fun k' hk' d' => d149 (f := f) (by omega) (hR.rg _ _) (hR.rg _ _) (hR.rg _ _) hR) (fun r6453 hF6451 hg6452 n6450 k6449 hk6449 => ?_)
      have hX6454 := hX6446.trans (bP_s hF6451)
      refine p_if 110 108 c178_105 rfl rfl (yz_ne hg6452) (fun hb6455 k6456 hk6456 => ?_) (fun hb6455 k6457 hk6457 => ?_)
      · have hX6458 := hX6454.trans (if_neg hb6455)
        exact tJ178_110 (f := f) (by omega) gx1 gx2 gx3 hR (fun y0 m' n' e' h0 hR' k' hk' => Hn y0 m' n' (hX6458.trans e') h0 hR' k' (by omega)) (fun y0 m' n' e' h0 hR' k' hk' => He y0 m' n' (hX6458.trans e') h0 hR' k' (by omega)) (fun r' m' e' => Hr r' m' (hX6458.trans e'))
      · have hX6459 := hX6454.trans (if_pos (Classical.not_not.mp hb6455))
        refine p_iconst 109 c178_108 rfl ?_
        exact p_ireturn c178_109 (Hr _ _ hX6459 (rgD rfl) hR _)
def F178 (f : Nat) (x1 : Int) (m : yM) : Option (Int × yM) := (bI (F162 f (F22 x1 0 (wr ((m 387 (m 376 18).toNat) - 1))) m) (fun r6425 m6427 => (if r6425 = 0 then (some (0, m6427)) else (bL (yloop (fun (l : Int) ml => B178_42 f x1 (m6427 401 (wr ((wr (8 * (m6427 376 18))) + x1)).toNat) l ml) f 0 m6427) (fun l6460 m6466 => (some (1, m6466))) (fun r mr => some (r, mr))))))
set_option maxRecDepth 100000 in
theorem d178 {L : Nat} {xs : Nat → Int32} {k d n : Nat} {c : yS3} {f : Nat} {x1 : Int} {m : yM} (hk : k ≤ f) (gx1 : rg x1) (hR : RM c m) : PC (gZ L xs) k d 178 [.ref 376, yI x1] m n (qS c (F178 f x1 m)) := by
  have hX : F178 f x1 m = F178 f x1 m := rfl
  have Hr : ∀ r m', F178 f x1 m = some (r, m') → rg r → RM c m' → ∀ n' : Nat, (qS c (F178 f x1 m)) (.inl (some (yI r))) m' n' := fun r m' e h1 h2 n' => ⟨r, rfl, h1, h2, e⟩
  refine PC.mk [some (.ref 376), some (yI x1), none, none] kn178 rfl ?_
  refine p_aload 1 c178_0 rfl rfl ?_
  refine p_iload 2 c178_1 rfl rfl ?_
  refine p_iconst 3 c178_2 rfl ?_
  refine p_aload 4 c178_3 rfl rfl ?_
  refine p_getR 7 c178_4 rfl kf376_24 ?_
  refine p_aload 8 c178_7 rfl rfl ?_
  refine p_getX 11 (m 376 18) c178_8 rfl kf376_18 rfl ?_
  refine p_iaX 12 (m 387 (m 376 18).toNat) c178_11 rfl ka387 (hR.rg _ _) rfl (fun hx6417 => ?_)
  refine p_iconst 13 c178_12 rfl ?_
  refine p_isub 14 c178_13 rfl ?_
  refine p_cX 17 [yI x1, yI 0, yI (wr ((m 387 (m 376 18).toNat) - 1))] [.ref 376] c178_14 rfl rfl rfl (fun k' hk' d' => d22 gx1 (rgD rfl) (rg_wr _) hR) (fun hg6420 n6419 k6418 hk6418 => ?_)
  refine p_cS 20 [.ref 376, yI (F22 x1 0 (wr ((m 387 (m 376 18).toNat) - 1)))] [] c178_17 rfl rfl rfl (fun k' hk' d' => d162 (f := f) (by omega) hg6420 hR) (fun r6425 m6427 hF6423 hg6424 hR6428 n6422 k6421 hk6421 => ?_)
  have hX6426 := hX.trans (bI_s hF6423)
  refine p_if 25 23 c178_20 rfl rfl (yz_ne hg6424) (fun hb6429 k6430 hk6430 => ?_) (fun hb6429 k6431 hk6431 => ?_)
  · have hX6432 := hX6426.trans (if_neg hb6429)
    refine p_aload 26 c178_25 rfl rfl ?_
    refine p_getR 29 c178_26 rfl kf376_38 ?_
    refine p_iconst 31 c178_29 rfl ?_
    refine p_aload 32 c178_31 rfl rfl ?_
    refine p_getX 35 (m6427 376 18) c178_32 rfl kf376_18 rfl ?_
    refine p_imul 36 c178_35 rfl ?_
    refine p_iload 37 c178_36 rfl rfl ?_
    refine p_iadd 38 c178_37 rfl ?_
    refine p_iaX 39 (m6427 401 (wr ((wr (8 * (m6427 376 18))) + x1)).toNat) c178_38 rfl ka401 (rg_wr _) rfl (fun hx6433 => ?_)
    refine p_istore 40 c178_39 rfl rfl ?_
    refine p_iconst 41 c178_40 rfl ?_
    refine p_istore 42 c178_41 rfl rfl ?_
    refine PW.loop (K := k6430) (pce := 116) (fun (l : Int) ml => B178_42 f x1 (m6427 401 (wr ((wr (8 * (m6427 376 18))) + x1)).toNat) l ml) (fun (l : Int) j => [some (.ref 376), some (yI x1), some (yI (m6427 401 (wr ((wr (8 * (m6427 376 18))) + x1)).toNat)), some (yI l)]) (fun (l : Int) => rg l) (RM c) (fun r' m' => rg r' → RM c m' → ∀ n' : Nat, (qS c (F178 f x1 m)) (.inl (some (yI r'))) m' n') (fun k' hk' l j m' n' hl hI Hn' He' Hr' => tB178_42 (f := f) (by omega) gx1 (hR6428.rg _ _) hl hI (fun y0 m2 n2 e h0 hR2 => Hn' y0 (fun q => ([none, none, none, none] : List (Option Value)).getD q none) m2 n2 e h0 hR2) (fun y0 m2 n2 e h0 hR2 => He' y0 (fun q => ([none, none, none, none] : List (Option Value)).getD q none) m2 n2 e h0 hR2) Hr') f k6430 (by omega) (Nat.le_refl _) 0 (fun q => ([some (.ref 376), some (yI x1), some (yI (m6427 401 (wr ((wr (8 * (m6427 376 18))) + x1)).toNat)), some (yI 0)] : xL).getD q none) _ _ (rgD rfl) hR6428 (fun l6460 j6463 m6466 n6465 e6462 hl6461 hR6467 k6464 hk6464 => ?_) (fun r' m' e' => ?_)
    · have hX6468 := hX6432.trans (bL_l e6462)
      refine p_iconst 117 c178_116 rfl ?_
      exact p_ireturn c178_117 (Hr _ _ hX6468 (rgD rfl) hR6467 _)
    · exact Hr r' m' (hX6432.trans (bL_r e'))
  · have hX6469 := hX6426.trans (if_pos (Classical.not_not.mp hb6429))
    refine p_iconst 24 c178_23 rfl ?_
    exact p_ireturn c178_24 (Hr _ _ hX6469 (rgD rfl) hR6428 _)
def J179_39 (f : Nat) (A : Nat) (x1 : Int) (x2 : Int) (x3 : Int) : Option (Int ⊕ (Int ⊕ Int)) := (some (.inl (wr (x3 + 1))))
set_option maxRecDepth 100000 in
theorem tJ179_39 {L : Nat} {xs : Nat → Int32} {Q : xO → yM → Nat → Prop} {k d n : Nat} {c : yS3} {f : Nat} {A : Nat} {x1 : Int} {x2 : Int} {x3 : Int} {m : yM} (hk : k ≤ f) (hc : c.2.1 = pX A) (hA : (A = 256 ∨ A = 316)) (gx1 : rg x1) (gx2 : rg x2) (gx3 : rg x3) (hR : RM c m) (Hn : ∀ (y0 : Int) (n' : Nat), J179_39 f A x1 x2 x3 = some (.inl y0) → rg y0 → ∀ k', k' < k → PW (gZ L xs) k' 179 d 2 [some (.ref 8), some (yI x1), some (yI x2), some (yI y0)] [] m n' Q) (He : ∀ (y0 : Int) (n' : Nat), J179_39 f A x1 x2 x3 = some (.inr (.inl y0)) → rg y0 → ∀ k', k' ≤ k → PW (gZ L xs) k' 179 d 45 [some (.ref 8), some (yI x1), some (yI x2), some (yI y0)] [] m n' Q) (Hr : ∀ r, J179_39 f A x1 x2 x3 = some (.inr (.inr r)) → rg r → ∀ n', Q (.inl (some (yI r))) m n') : PW (gZ L xs) k 179 d 39 [some (.ref 8), some (yI x1), some (yI x2), some (yI x3)] [] m n Q := by
  have hX : J179_39 f A x1 x2 x3 = J179_39 f A x1 x2 x3 := rfl
  refine p_iinc 42 c179_39 rfl rfl rfl ?_
  refine p_gotoD 2 c179_42 rfl (fun k6514 hk6514 => ?_)
  exact Hn _ _ hX (rg_wr _) _ (by omega)
def B179_2 (f : Nat) (A : Nat) (x1 : Int) (x2 : Int) (x3 : Int) (m : yM) : Option (Int ⊕ (Int ⊕ Int)) := (if x3 < m A 14 then (if 0 ≤ x1 ∧ x1 < ((48 : Nat) : Int) then (if m (10 + (x1).toNat) x3.toNat = (-1) then (J179_39 f A x1 x2 x3) else (if 0 ≤ x2 ∧ x2 < ((48 : Nat) : Int) then (if m (10 + (x2).toNat) x3.toNat = (-1) then (J179_39 f A x1 x2 x3) else (some (.inr (.inr 1)))) else none)) else none) else (some (.inr (.inl x3))))
set_option maxRecDepth 100000 in
theorem tB179_2 {L : Nat} {xs : Nat → Int32} {Q : xO → yM → Nat → Prop} {k d n : Nat} {c : yS3} {f : Nat} {A : Nat} {x1 : Int} {x2 : Int} {x3 : Int} {m : yM} (hk : k ≤ f) (hc : c.2.1 = pX A) (hA : (A = 256 ∨ A = 316)) (gx1 : rg x1) (gx2 : rg x2) (gx3 : rg x3) (hR : RM c m) (Hn : ∀ (y0 : Int) (n' : Nat), B179_2 f A x1 x2 x3 m = some (.inl y0) → rg y0 → ∀ k', k' < k → PW (gZ L xs) k' 179 d 2 [some (.ref 8), some (yI x1), some (yI x2), some (yI y0)] [] m n' Q) (He : ∀ (y0 : Int) (n' : Nat), B179_2 f A x1 x2 x3 m = some (.inr (.inl y0)) → rg y0 → ∀ k', k' ≤ k → PW (gZ L xs) k' 179 d 45 [some (.ref 8), some (yI x1), some (yI x2), some (yI y0)] [] m n' Q) (Hr : ∀ r, B179_2 f A x1 x2 x3 m = some (.inr (.inr r)) → rg r → ∀ n', Q (.inl (some (yI r))) m n') : PW (gZ L xs) k 179 d 2 [some (.ref 8), some (yI x1), some (yI x2), some (yI x3)] [] m n Q := by
  have hX : B179_2 f A x1 x2 x3 m = B179_2 f A x1 x2 x3 m := rfl
  refine p_iload 3 c179_2 rfl rfl ?_
  refine p_aload 4 c179_3 rfl rfl ?_
  refine p_getV 7 (.ref A) c179_4 rfl kf8_4 (pX_of hA hR.2.2.2.2.1 hc) ?_
  refine p_getX 10 (m A 14) c179_7 rfl (kP_14 hA) rfl ?_
  refine p_icmp 45 13 c179_10 rfl rfl ((yc_ge gx3 (hR.rg _ _)).trans Int.not_lt.symm) (fun hb6502 k6503 hk6503 => ?_) (fun hb6502 k6504 hk6504 => ?_)
  · have hX6505 := hX.trans (if_neg hb6502)
    exact He _ _ hX6505 gx3 _ (by omega)
  · have hX6506 := hX.trans (if_pos (Classical.not_not.mp hb6502))
    refine p_aload 14 c179_13 rfl rfl ?_
    refine p_getR 17 c179_14 rfl kf8_0 ?_
    refine p_iload 18 c179_17 rfl rfl ?_
    refine p_aaX 19 c179_18 rfl kr9 gx1 (fun hx6507 => ?_)
    have hX6508 := hX6506.trans (if_pos hx6507)
    refine p_iload 20 c179_19 rfl rfl ?_
    refine p_iaX 21 (m (10 + (x1).toNat) x3.toNat) c179_20 rfl (kR9 hx6507) gx3 rfl (fun hx6509 => ?_)
    refine p_iconst 22 c179_21 rfl ?_
    refine p_icmp 39 25 c179_22 rfl rfl (yc_eq (hR.rg _ _) (rgD rfl)) (fun hb6510 k6511 hk6511 => ?_) (fun hb6510 k6512 hk6512 => ?_)
    · have hX6513 := hX6508.trans (if_pos hb6510)
      exact tJ179_39 (f := f) (by omega) hc hA gx1 gx2 gx3 hR (fun y0 n' e' h0 k' hk' => Hn y0 n' (hX6513.trans e') h0 k' (by omega)) (fun y0 n' e' h0 k' hk' => He y0 n' (hX6513.trans e') h0 k' (by omega)) (fun r' e' => Hr r' (hX6513.trans e'))
    · have hX6515 := hX6508.trans (if_neg hb6510)
      refine p_aload 26 c179_25 rfl rfl ?_
      refine p_getR 29 c179_26 rfl kf8_0 ?_
      refine p_iload 30 c179_29 rfl rfl ?_
      refine p_aaX 31 c179_30 rfl kr9 gx2 (fun hx6516 => ?_)
      have hX6517 := hX6515.trans (if_pos hx6516)
      refine p_iload 32 c179_31 rfl rfl ?_
      refine p_iaX 33 (m (10 + (x2).toNat) x3.toNat) c179_32 rfl (kR9 hx6516) gx3 rfl (fun hx6518 => ?_)
      refine p_iconst 34 c179_33 rfl ?_
      refine p_icmp 39 37 c179_34 rfl rfl (yc_eq (hR.rg _ _) (rgD rfl)) (fun hb6519 k6520 hk6520 => ?_) (fun hb6519 k6521 hk6521 => ?_)
      · have hX6522 := hX6517.trans (if_pos hb6519)
        exact tJ179_39 (f := f) (by omega) hc hA gx1 gx2 gx3 hR (fun y0 n' e' h0 k' hk' => Hn y0 n' (hX6522.trans e') h0 k' (by omega)) (fun y0 n' e' h0 k' hk' => He y0 n' (hX6522.trans e') h0 k' (by omega)) (fun r' e' => Hr r' (hX6522.trans e'))
      · have hX6523 := hX6517.trans (if_neg hb6519)
        refine p_iconst 38 c179_37 rfl ?_
        exact p_ireturn c179_38 (Hr _ hX6523 (rgD rfl) _)
def F179 (f : Nat) (A : Nat) (x1 : Int) (x2 : Int) (m : yM) : Option Int := (bQ (ploop (fun (l : Int) => B179_2 f A x1 x2 l m) f 0) (fun l6524 => (some 0)) (fun r => some r))
set_option maxRecDepth 100000 in
theorem d179 {L : Nat} {xs : Nat → Int32} {k d n : Nat} {c : yS3} {f : Nat} {A : Nat} {x1 : Int} {x2 : Int} {m : yM} (hk : k ≤ f) (hc : c.2.1 = pX A) (hA : (A = 256 ∨ A = 316)) (gx1 : rg x1) (gx2 : rg x2) (hR : RM c m) : PC (gZ L xs) k d 179 [.ref 8, yI x1, yI x2] m n (qO m (F179 f A x1 x2 m)) := by
  have hX : F179 f A x1 x2 m = F179 f A x1 x2 m := rfl
  have Hr : ∀ r, F179 f A x1 x2 m = some r → rg r → ∀ n' : Nat, (qO m (F179 f A x1 x2 m)) (.inl (some (yI r))) m n' := fun r e h n' => ⟨r, rfl, h, rfl, e⟩
  refine PC.mk [some (.ref 8), some (yI x1), some (yI x2), none] kn179 rfl ?_
  refine p_iconst 1 c179_0 rfl ?_
  refine p_istore 2 c179_1 rfl rfl ?_
  refine PW.ploop (K := k) (pce := 45) (fun (l : Int) => B179_2 f A x1 x2 l m) (fun (l : Int) j => [some (.ref 8), some (yI x1), some (yI x2), some (yI l)]) (fun (l : Int) => rg l) (fun r' => rg r' → ∀ n' : Nat, (qO m (F179 f A x1 x2 m)) (.inl (some (yI r'))) m n') (fun k' hk' l j n' hl Hn' He' Hr' => tB179_2 (f := f) (by omega) hc hA gx1 gx2 hl hR (fun y0 n2 e h0 => Hn' y0 (fun q => ([none, none, none, none] : List (Option Value)).getD q none) n2 e h0) (fun y0 n2 e h0 => He' y0 (fun q => ([none, none, none, none] : List (Option Value)).getD q none) n2 e h0) Hr') f k (by omega) (Nat.le_refl _) 0 (fun q => ([some (.ref 8), some (yI x1), some (yI x2), some (yI 0)] : xL).getD q none) _ (rgD rfl) (fun l6524 j6527 n6529 e6526 hl6525 k6528 hk6528 => ?_) (fun r' e' => ?_)
  · have hX6530 := hX.trans (bQ_l e6526)
    refine p_iconst 46 c179_45 rfl ?_
    exact p_ireturn c179_46 (Hr _ hX6530 (rgD rfl) _)
  · exact Hr r' (hX.trans (bQ_r e'))
def J180_16 (f : Nat) (m : yM) : Option ((Int ⊕ Nat) × yM) := (some (.inr 11, m))
set_option maxRecDepth 100000 in
theorem tJ180_16 {L : Nat} {xs : Nat → Int32} {Q : xO → yM → Nat → Prop} {k d n : Nat} {c : yS3} {f : Nat} {m : yM} {j0 j1 j2 : Option Value} (hk : k ≤ f) (hR : RM c m) (Hr : ∀ r m', J180_16 f m = some (.inl r, m') → rg r → RM c m' → ∀ n', Q (.inl (some (yI r))) m' n') (Ht : ∀ e m', J180_16 f m = some (.inr e, m') → (fun e => e = 11) e → RM c m' → ∀ x n', Q (.inr (e, x)) m' n') : PW (gZ L xs) k 180 d 16 [j0, j1, j2] [] m n Q := by
  have hX : J180_16 f m = J180_16 f m := rfl
  exact p_throw c180_16 (fun x n' => Ht _ _ hX rfl hR x n')
def F180 (f : Nat) (x1 : Int) (x2 : Int) (m : yM) : Option ((Int ⊕ Nat) × yM) := (if F156 x1 m = 0 then (J180_16 f m) else (if F156 x2 m = 0 then (J180_16 f m) else (bP (F179 f (pA (m 8 4)) x1 x2 m) (fun r6533 => (if r6533 = 0 then (some (.inl 0, m)) else (some (.inl 1, m)))))))
set_option maxRecDepth 100000 in
theorem d180 {L : Nat} {xs : Nat → Int32} {k d n : Nat} {c : yS3} {f : Nat} {x1 : Int} {x2 : Int} {m : yM} (hk : k ≤ f) (gx1 : rg x1) (gx2 : rg x2) (hR : RM c m) : PC (gZ L xs) k d 180 [.ref 0, yI x1, yI x2] m n (qEI (fun e => e = 11) c (F180 f x1 x2 m)) := by
  have hX : F180 f x1 x2 m = F180 f x1 x2 m := rfl
  have Hr : ∀ r m', F180 f x1 x2 m = some (.inl r, m') → rg r → RM c m' → ∀ n' : Nat, (qEI (fun e => e = 11) c (F180 f x1 x2 m)) (.inl (some (yI r))) m' n' := fun r m' e h1 h2 n' => Or.inl ⟨r, rfl, h1, h2, e⟩
  have Ht : ∀ e m', F180 f x1 x2 m = some (.inr e, m') → (fun e => e = 11) e → RM c m' → ∀ x n' : Nat, (qEI (fun e => e = 11) c (F180 f x1 x2 m)) (.inr (e, x)) m' n' := fun e m' e1 h1 h2 x n' => Or.inr ⟨e, x, rfl, h1, h2, e1⟩
  refine PC.mk [some (.ref 0), some (yI x1), some (yI x2)] kn180 rfl ?_
  refine p_aload 1 c180_0 rfl rfl ?_
  refine p_iload 2 c180_1 rfl rfl ?_
  refine p_cX 5 [.ref 0, yI x1] [] c180_2 rfl rfl rfl (fun k' hk' d' => d156 gx1 hR) (fun hg6487 n6486 k6485 hk6485 => ?_)
  refine p_if 16 8 c180_5 rfl rfl (yz_eq hg6487) (fun hb6488 k6489 hk6489 => ?_) (fun hb6488 k6490 hk6490 => ?_)
  · have hX6491 := hX.trans (if_pos hb6488)
    exact tJ180_16 (f := f) (by omega) hR (fun r' m' e' => Hr r' m' (hX6491.trans e')) (fun r' m' e' => Ht r' m' (hX6491.trans e'))
  · have hX6492 := hX.trans (if_neg hb6488)
    refine p_aload 9 c180_8 rfl rfl ?_
    refine p_iload 10 c180_9 rfl rfl ?_
    refine p_cX 13 [.ref 0, yI x2] [] c180_10 rfl rfl rfl (fun k' hk' d' => d156 gx2 hR) (fun hg6495 n6494 k6493 hk6493 => ?_)
    refine p_if 24 16 c180_13 rfl rfl (yz_ne hg6495) (fun hb6496 k6497 hk6497 => ?_) (fun hb6496 k6498 hk6498 => ?_)
    · have hX6499 := hX6492.trans (if_neg hb6496)
      refine p_aload 25 c180_24 rfl rfl ?_
      refine p_getR 28 c180_25 rfl kf0_2 ?_
      refine p_iload 29 c180_28 rfl rfl ?_
      refine p_iload 30 c180_29 rfl rfl ?_
      by_cases hs8 : s01 (m 8 4)
      case neg => exact p_call 33 [.ref 8, yI x1, yI x2] [] c180_30 rfl rfl rfl (fun k' _ d' => d179n hs8) (fun _ _ _ q => q.elim) (fun _ _ _ _ q => q.elim)
      have h8 := h8_of hR rfl hs8
      refine p_cO 33 [.ref 8, yI x1, yI x2] [] c180_30 rfl rfl rfl (fun k' hk' d' => d179 (f := f) (by omega) h8 (pA_is _) gx1 gx2 hR) (fun r6533 hF6531 hg6532 n6501 k6500 hk6500 => ?_)
      have hX6534 := hX6499.trans (bP_s hF6531)
      refine p_if 40 36 c180_33 rfl rfl (yz_eq hg6532) (fun hb6535 k6536 hk6536 => ?_) (fun hb6535 k6537 hk6537 => ?_)
      · have hX6538 := hX6534.trans (if_pos hb6535)
        refine p_iconst 41 c180_40 rfl ?_
        exact p_ireturn c180_41 (Hr _ _ hX6538 (rgD rfl) hR _)
      · have hX6539 := hX6534.trans (if_neg hb6535)
        refine p_iconst 37 c180_36 rfl ?_
        refine p_goto 41 c180_37 rfl ?_
        exact p_ireturn c180_41 (Hr _ _ hX6539 (rgD rfl) hR _)
    · have hX6540 := hX6492.trans (if_pos (Classical.not_not.mp hb6496))
      exact tJ180_16 (f := f) (by omega) hR (fun r' m' e' => Hr r' m' (hX6540.trans e')) (fun r' m' e' => Ht r' m' (hX6540.trans e'))
def F181 (f : Nat) (x1 : Int) (x2 : Int) (m : yM) : Option (Int × yM) := (bT (F180 f x1 x2 m) (fun r6543 m6545 => (some (0, yup m6545 413 0 ((i2l r6543).toInt)))) (fun e' m6545 => (if e' = 11 then (some (1, m6545)) else none)))
set_option maxRecDepth 100000 in
theorem d181 {L : Nat} {xs : Nat → Int32} {k d n : Nat} {c : yS3} {f : Nat} {x1 : Int} {x2 : Int} {m : yM} (hk : k ≤ f) (gx1 : rg x1) (gx2 : rg x2) (hR : RM c m) : PC (gZ L xs) k d 181 [.ref 0, yI x1, yI x2, .ref 413] m n (qS c (F181 f x1 x2 m)) := by
  have hX : F181 f x1 x2 m = F181 f x1 x2 m := rfl
  have Hr : ∀ r m', F181 f x1 x2 m = some (r, m') → rg r → RM c m' → ∀ n' : Nat, (qS c (F181 f x1 x2 m)) (.inl (some (yI r))) m' n' := fun r m' e h1 h2 n' => ⟨r, rfl, h1, h2, e⟩
  refine PC.mk [some (.ref 0), some (yI x1), some (yI x2), some (.ref 413), none] kn181 rfl ?_
  refine p_aload 1 c181_0 rfl rfl ?_
  refine p_iconst 2 c181_1 rfl ?_
  refine p_aload 3 c181_2 rfl rfl ?_
  refine p_iload 4 c181_3 rfl rfl ?_
  refine p_iload 5 c181_4 rfl rfl ?_
  refine p_cTI 8 [.ref 0, yI x1, yI x2] [yI 0, .ref 413] c181_5 rfl rfl rfl (fun k' hk' d' => d180 (f := f) (by omega) gx1 gx2 hR) (fun r6543 m6545 hF6541 hg6542 hR6546 n6484 k6483 hk6483 => ?_) (fun e' q6550 m6545 n' hF6541 hE6548 hR6549 => ?_)
  · have hX6544 := hX.trans (bT_l hF6541)
    refine p_i2l 9 c181_8 rfl ?_
    refine p_laS 10 c181_9 rfl kl413 (rgD rfl) (fun hx6551 => ?_)
    have hR6552 := hR6546.up 413 0 (v := (i2l r6543).toInt) (nselD rfl) (rg_i2l _)
    refine p_goto 17 c181_10 rfl ?_
    refine p_iconst 18 c181_17 rfl ?_
    exact p_ireturn c181_18 (Hr _ _ hX6544 (rgD rfl) hR6552 _)
  · have hXe := hX.trans (bT_r hF6541)
    cases (show e' = 11 from hE6548)
    have hX6553 := hXe.trans (if_pos rfl)
    refine ⟨fun pq hpq k6554 hk6554 => ?_, fun hno => absurd (r_kh181_5_11.symm.trans hno) (by simp)⟩
    have hpp : pq = 13 := by have := r_kh181_5_11.symm.trans hpq; simpa using this.symm
    subst hpp
    refine p_astore 15 c181_13 rfl rfl ?_
    refine p_iconst 16 c181_15 rfl ?_
    exact p_ireturn c181_16 (Hr _ _ hX6553 (rgD rfl) hR6549 _)
def J182_75 (f : Nat) (x1 : Int) (x2 : Int) (x3 : Int) (m : yM) : Option ((Int × yM) ⊕ ((Int × yM) ⊕ (Int × yM))) := (some (.inl ((wr (x3 + 1)), m)))
set_option maxRecDepth 100000 in
theorem tJ182_75 {L : Nat} {xs : Nat → Int32} {Q : xO → yM → Nat → Prop} {k d n : Nat} {c : yS3} {f : Nat} {x1 : Int} {x2 : Int} {x3 : Int} {m : yM} (hk : k ≤ f) (gx1 : rg x1) (gx2 : rg x2) (gx3 : rg x3) (hR : RM c m) (Hn : ∀ (y0 : Int) (m' : yM) (n' : Nat), J182_75 f x1 x2 x3 m = some (.inl (y0, m')) → rg y0 → RM c m' → ∀ k', k' < k → PW (gZ L xs) k' 182 d 32 [some (.ref 376), some (yI x1), some (yI x2), some (yI y0)] [] m' n' Q) (He : ∀ (y0 : Int) (m' : yM) (n' : Nat), J182_75 f x1 x2 x3 m = some (.inr (.inl (y0, m'))) → rg y0 → RM c m' → ∀ k', k' ≤ k → PW (gZ L xs) k' 182 d 81 [some (.ref 376), some (yI x1), some (yI x2), some (yI y0)] [] m' n' Q) (Hr : ∀ r m', J182_75 f x1 x2 x3 m = some (.inr (.inr (r, m'))) → rg r → RM c m' → ∀ n', Q (.inl (some (yI r))) m' n') : PW (gZ L xs) k 182 d 75 [some (.ref 376), some (yI x1), some (yI x2), some (yI x3)] [] m n Q := by
  have hX : J182_75 f x1 x2 x3 m = J182_75 f x1 x2 x3 m := rfl
  refine p_iinc 78 c182_75 rfl rfl rfl ?_
  refine p_gotoD 32 c182_78 rfl (fun k6595 hk6595 => ?_)
  exact Hn _ _ _ hX (rg_wr _) hR _ (by omega)
def B182_32 (f : Nat) (x1 : Int) (x2 : Int) (x3 : Int) (m : yM) : Option ((Int × yM) ⊕ ((Int × yM) ⊕ (Int × yM))) := (if x3 < m 388 (m 376 18).toNat then (if m 404 (wr ((wr (12 * x1)) + x3)).toNat < 0 then (J182_75 f x1 x2 x3 m) else (if m 404 (wr ((wr (12 * x2)) + x3)).toNat < 0 then (J182_75 f x1 x2 x3 m) else (some (.inr (.inr (1, m)))))) else (some (.inr (.inl (x3, m)))))
set_option maxRecDepth 100000 in
theorem tB182_32 {L : Nat} {xs : Nat → Int32} {Q : xO → yM → Nat → Prop} {k d n : Nat} {c : yS3} {f : Nat} {x1 : Int} {x2 : Int} {x3 : Int} {m : yM} (hk : k ≤ f) (gx1 : rg x1) (gx2 : rg x2) (gx3 : rg x3) (hR : RM c m) (Hn : ∀ (y0 : Int) (m' : yM) (n' : Nat), B182_32 f x1 x2 x3 m = some (.inl (y0, m')) → rg y0 → RM c m' → ∀ k', k' < k → PW (gZ L xs) k' 182 d 32 [some (.ref 376), some (yI x1), some (yI x2), some (yI y0)] [] m' n' Q) (He : ∀ (y0 : Int) (m' : yM) (n' : Nat), B182_32 f x1 x2 x3 m = some (.inr (.inl (y0, m'))) → rg y0 → RM c m' → ∀ k', k' ≤ k → PW (gZ L xs) k' 182 d 81 [some (.ref 376), some (yI x1), some (yI x2), some (yI y0)] [] m' n' Q) (Hr : ∀ r m', B182_32 f x1 x2 x3 m = some (.inr (.inr (r, m'))) → rg r → RM c m' → ∀ n', Q (.inl (some (yI r))) m' n') : PW (gZ L xs) k 182 d 32 [some (.ref 376), some (yI x1), some (yI x2), some (yI x3)] [] m n Q := by
  have hX : B182_32 f x1 x2 x3 m = B182_32 f x1 x2 x3 m := rfl
  refine p_iload 33 c182_32 rfl rfl ?_
  refine p_aload 34 c182_33 rfl rfl ?_
  refine p_getR 37 c182_34 rfl kf376_25 ?_
  refine p_aload 38 c182_37 rfl rfl ?_
  refine p_getX 41 (m 376 18) c182_38 rfl kf376_18 rfl ?_
  refine p_iaX 42 (m 388 (m 376 18).toNat) c182_41 rfl ka388 (hR.rg _ _) rfl (fun hx6584 => ?_)
  refine p_icmp 81 45 c182_42 rfl rfl ((yc_ge gx3 (hR.rg _ _)).trans Int.not_lt.symm) (fun hb6585 k6586 hk6586 => ?_) (fun hb6585 k6587 hk6587 => ?_)
  · have hX6588 := hX.trans (if_neg hb6585)
    exact He _ _ _ hX6588 gx3 hR _ (by omega)
  · have hX6589 := hX.trans (if_pos (Classical.not_not.mp hb6585))
    refine p_aload 46 c182_45 rfl rfl ?_
    refine p_getR 49 c182_46 rfl kf376_41 ?_
    refine p_iconst 51 c182_49 rfl ?_
    refine p_iload 52 c182_51 rfl rfl ?_
    refine p_imul 53 c182_52 rfl ?_
    refine p_iload 54 c182_53 rfl rfl ?_
    refine p_iadd 55 c182_54 rfl ?_
    refine p_iaX 56 (m 404 (wr ((wr (12 * x1)) + x3)).toNat) c182_55 rfl ka404 (rg_wr _) rfl (fun hx6590 => ?_)
    refine p_if 75 59 c182_56 rfl rfl (yz_lt (hR.rg _ _)) (fun hb6591 k6592 hk6592 => ?_) (fun hb6591 k6593 hk6593 => ?_)
    · have hX6594 := hX6589.trans (if_pos hb6591)
      exact tJ182_75 (f := f) (by omega) gx1 gx2 gx3 hR (fun y0 m' n' e' h0 hR' k' hk' => Hn y0 m' n' (hX6594.trans e') h0 hR' k' (by omega)) (fun y0 m' n' e' h0 hR' k' hk' => He y0 m' n' (hX6594.trans e') h0 hR' k' (by omega)) (fun r' m' e' => Hr r' m' (hX6594.trans e'))
    · have hX6596 := hX6589.trans (if_neg hb6591)
      refine p_aload 60 c182_59 rfl rfl ?_
      refine p_getR 63 c182_60 rfl kf376_41 ?_
      refine p_iconst 65 c182_63 rfl ?_
      refine p_iload 66 c182_65 rfl rfl ?_
      refine p_imul 67 c182_66 rfl ?_
      refine p_iload 68 c182_67 rfl rfl ?_
      refine p_iadd 69 c182_68 rfl ?_
      refine p_iaX 70 (m 404 (wr ((wr (12 * x2)) + x3)).toNat) c182_69 rfl ka404 (rg_wr _) rfl (fun hx6597 => ?_)
      refine p_if 75 73 c182_70 rfl rfl (yz_lt (hR.rg _ _)) (fun hb6598 k6599 hk6599 => ?_) (fun hb6598 k6600 hk6600 => ?_)
      · have hX6601 := hX6596.trans (if_pos hb6598)
        exact tJ182_75 (f := f) (by omega) gx1 gx2 gx3 hR (fun y0 m' n' e' h0 hR' k' hk' => Hn y0 m' n' (hX6601.trans e') h0 hR' k' (by omega)) (fun y0 m' n' e' h0 hR' k' hk' => He y0 m' n' (hX6601.trans e') h0 hR' k' (by omega)) (fun r' m' e' => Hr r' m' (hX6601.trans e'))
      · have hX6602 := hX6596.trans (if_neg hb6598)
        refine p_iconst 74 c182_73 rfl ?_
        exact p_ireturn c182_74 (Hr _ _ hX6602 (rgD rfl) hR _)
def J182_22 (f : Nat) (x1 : Int) (x2 : Int) (xs1 : Int) (m : yM) : Option (Int × yM) := (bI (F162 f xs1 m) (fun r6576 m6578 => (if r6576 = 0 then (some (0, m6578)) else (bL (yloop (fun (l : Int) ml => B182_32 f x1 x2 l ml) f 0 m6578) (fun l6603 m6609 => (some (0, m6609))) (fun r mr => some (r, mr))))))
set_option maxRecDepth 100000 in
theorem tJ182_22 {L : Nat} {xs : Nat → Int32} {Q : xO → yM → Nat → Prop} {k d n : Nat} {c : yS3} {f : Nat} {x1 : Int} {x2 : Int} {xs1 : Int} {m : yM} {j3 : Option Value} (hk : k ≤ f) (gx1 : rg x1) (gx2 : rg x2) (gxs1 : rg xs1) (hR : RM c m) (Hr : ∀ r m', J182_22 f x1 x2 xs1 m = some (r, m') → rg r → RM c m' → ∀ n', Q (.inl (some (yI r))) m' n') : PW (gZ L xs) k 182 d 22 [some (.ref 376), some (yI x1), some (yI x2), j3] [yI xs1, .ref 376] m n Q := by
  have hX : J182_22 f x1 x2 xs1 m = J182_22 f x1 x2 xs1 m := rfl
  refine p_cS 25 [.ref 376, yI xs1] [] c182_22 rfl rfl rfl (fun k' hk' d' => d162 (f := f) (by omega) gxs1 hR) (fun r6576 m6578 hF6574 hg6575 hR6579 n6573 k6572 hk6572 => ?_)
  have hX6577 := hX.trans (bI_s hF6574)
  refine p_if 30 28 c182_25 rfl rfl (yz_ne hg6575) (fun hb6580 k6581 hk6581 => ?_) (fun hb6580 k6582 hk6582 => ?_)
  · have hX6583 := hX6577.trans (if_neg hb6580)
    refine p_iconst 31 c182_30 rfl ?_
    refine p_istore 32 c182_31 rfl rfl ?_
    refine PW.loop (K := k6581) (pce := 81) (fun (l : Int) ml => B182_32 f x1 x2 l ml) (fun (l : Int) j => [some (.ref 376), some (yI x1), some (yI x2), some (yI l)]) (fun (l : Int) => rg l) (RM c) (fun r' m' => rg r' → RM c m' → ∀ n' : Nat, Q (.inl (some (yI r'))) m' n') (fun k' hk' l j m' n' hl hI Hn' He' Hr' => tB182_32 (f := f) (by omega) gx1 gx2 hl hI (fun y0 m2 n2 e h0 hR2 => Hn' y0 (fun q => ([none, none, none, none] : List (Option Value)).getD q none) m2 n2 e h0 hR2) (fun y0 m2 n2 e h0 hR2 => He' y0 (fun q => ([none, none, none, none] : List (Option Value)).getD q none) m2 n2 e h0 hR2) Hr') f k6581 (by omega) (Nat.le_refl _) 0 (fun q => ([some (.ref 376), some (yI x1), some (yI x2), some (yI 0)] : xL).getD q none) _ _ (rgD rfl) hR6579 (fun l6603 j6606 m6609 n6608 e6605 hl6604 hR6610 k6607 hk6607 => ?_) (fun r' m' e' => ?_)
    · have hX6611 := hX6583.trans (bL_l e6605)
      refine p_iconst 82 c182_81 rfl ?_
      exact p_ireturn c182_82 (Hr _ _ hX6611 (rgD rfl) hR6610 _)
    · exact Hr r' m' (hX6583.trans (bL_r e'))
  · have hX6612 := hX6577.trans (if_pos (Classical.not_not.mp hb6580))
    refine p_iconst 29 c182_28 rfl ?_
    exact p_ireturn c182_29 (Hr _ _ hX6612 (rgD rfl) hR6579 _)
def J182_21 (f : Nat) (x1 : Int) (x2 : Int) (m : yM) : Option (Int × yM) := (J182_22 f x1 x2 0 m)
set_option maxRecDepth 100000 in
theorem tJ182_21 {L : Nat} {xs : Nat → Int32} {Q : xO → yM → Nat → Prop} {k d n : Nat} {c : yS3} {f : Nat} {x1 : Int} {x2 : Int} {m : yM} {j3 : Option Value} (hk : k ≤ f) (gx1 : rg x1) (gx2 : rg x2) (hR : RM c m) (Hr : ∀ r m', J182_21 f x1 x2 m = some (r, m') → rg r → RM c m' → ∀ n', Q (.inl (some (yI r))) m' n') : PW (gZ L xs) k 182 d 21 [some (.ref 376), some (yI x1), some (yI x2), j3] [.ref 376] m n Q := by
  have hX : J182_21 f x1 x2 m = J182_21 f x1 x2 m := rfl
  refine p_iconst 22 c182_21 rfl ?_
  exact tJ182_22 (f := f) (by omega) gx1 gx2 (rgD rfl) hR (fun r' m' e' => Hr r' m' (hX.trans e'))
def F182 (f : Nat) (x1 : Int) (x2 : Int) (m : yM) : Option (Int × yM) := (if F160 x1 m = 0 then (J182_21 f x1 x2 m) else (if F160 x2 m = 0 then (J182_21 f x1 x2 m) else (J182_22 f x1 x2 1 m)))
set_option maxRecDepth 100000 in
theorem d182 {L : Nat} {xs : Nat → Int32} {k d n : Nat} {c : yS3} {f : Nat} {x1 : Int} {x2 : Int} {m : yM} (hk : k ≤ f) (gx1 : rg x1) (gx2 : rg x2) (hR : RM c m) : PC (gZ L xs) k d 182 [.ref 376, yI x1, yI x2] m n (qS c (F182 f x1 x2 m)) := by
  have hX : F182 f x1 x2 m = F182 f x1 x2 m := rfl
  have Hr : ∀ r m', F182 f x1 x2 m = some (r, m') → rg r → RM c m' → ∀ n' : Nat, (qS c (F182 f x1 x2 m)) (.inl (some (yI r))) m' n' := fun r m' e h1 h2 n' => ⟨r, rfl, h1, h2, e⟩
  refine PC.mk [some (.ref 376), some (yI x1), some (yI x2), none] kn182 rfl ?_
  refine p_aload 1 c182_0 rfl rfl ?_
  refine p_aload 2 c182_1 rfl rfl ?_
  refine p_iload 3 c182_2 rfl rfl ?_
  refine p_cX 6 [.ref 376, yI x1] [.ref 376] c182_3 rfl rfl rfl (fun k' hk' d' => d160 gx1 hR) (fun hg6567 n6566 k6565 hk6565 => ?_)
  refine p_if 21 9 c182_6 rfl rfl (yz_eq hg6567) (fun hb6568 k6569 hk6569 => ?_) (fun hb6568 k6570 hk6570 => ?_)
  · have hX6571 := hX.trans (if_pos hb6568)
    exact tJ182_21 (f := f) (by omega) gx1 gx2 hR (fun r' m' e' => Hr r' m' (hX6571.trans e'))
  · have hX6613 := hX.trans (if_neg hb6568)
    refine p_aload 10 c182_9 rfl rfl ?_
    refine p_iload 11 c182_10 rfl rfl ?_
    refine p_cX 14 [.ref 376, yI x2] [.ref 376] c182_11 rfl rfl rfl (fun k' hk' d' => d160 gx2 hR) (fun hg6616 n6615 k6614 hk6614 => ?_)
    refine p_if 21 17 c182_14 rfl rfl (yz_eq hg6616) (fun hb6617 k6618 hk6618 => ?_) (fun hb6617 k6619 hk6619 => ?_)
    · have hX6620 := hX6613.trans (if_pos hb6617)
      exact tJ182_21 (f := f) (by omega) gx1 gx2 hR (fun r' m' e' => Hr r' m' (hX6620.trans e'))
    · have hX6621 := hX6613.trans (if_neg hb6617)
      refine p_iconst 18 c182_17 rfl ?_
      refine p_goto 22 c182_18 rfl ?_
      exact tJ182_22 (f := f) (by omega) gx1 gx2 (rgD rfl) hR (fun r' m' e' => Hr r' m' (hX6621.trans e'))
end
section
/-! FUNCTIONS OF THE METHODS: printed by wip/fn/dc.py -/
def F183 (f : Nat) (x1 : Int) (x2 : Int) (m : yM) : Option ((Int ⊕ Nat) × yM) := (if F167 x1 m = 0 then (some (.inr 11, m)) else (if 0 ≤ x1 ∧ x1 < ((10 : Nat) : Int) then (if x2 = 0 then (some (.inl (m ((pA (m 0 4)) + 10 + (x1).toNat) 2), m)) else (if x2 = 1 then (some (.inl (F57 ((pA (m 0 4)) + 10 + (x1).toNat) m), m)) else (if x2 = 2 then (some (.inl (F87 ((pA (m 0 4)) + 10 + (x1).toNat) 0 m), m)) else (if x2 = 3 then (some (.inl (F87 ((pA (m 0 4)) + 10 + (x1).toNat) 1 m), m)) else (if x2 = 4 then (some (.inl (m ((pA (m 0 4)) + 10 + (x1).toNat) 1), m)) else (some (.inr 9, m))))))) else none))
set_option maxRecDepth 100000 in
theorem d183 {L : Nat} {xs : Nat → Int32} {k d n : Nat} {c : yS3} {f : Nat} {x1 : Int} {x2 : Int} {m : yM} (hk : k ≤ f) (gx1 : rg x1) (gx2 : rg x2) (hR : RM c m) : PC (gZ L xs) k d 183 [.ref 0, yI x1, yI x2] m n (qEI (fun e => e = 9 ∨ e = 11) c (F183 f x1 x2 m)) := by
  have hX : F183 f x1 x2 m = F183 f x1 x2 m := rfl
  have Hr : ∀ r m', F183 f x1 x2 m = some (.inl r, m') → rg r → RM c m' → ∀ n' : Nat, (qEI (fun e => e = 9 ∨ e = 11) c (F183 f x1 x2 m)) (.inl (some (yI r))) m' n' := fun r m' e h1 h2 n' => Or.inl ⟨r, rfl, h1, h2, e⟩
  have Ht : ∀ e m', F183 f x1 x2 m = some (.inr e, m') → (fun e => e = 9 ∨ e = 11) e → RM c m' → ∀ x n' : Nat, (qEI (fun e => e = 9 ∨ e = 11) c (F183 f x1 x2 m)) (.inr (e, x)) m' n' := fun e m' e1 h1 h2 x n' => Or.inr ⟨e, x, rfl, h1, h2, e1⟩
  refine PC.mk [some (.ref 0), some (yI x1), some (yI x2), none] kn183 rfl ?_
  refine p_aload 1 c183_0 rfl rfl ?_
  refine p_iload 2 c183_1 rfl rfl ?_
  refine p_cX 5 [.ref 0, yI x1] [] c183_2 rfl rfl rfl (fun k' hk' d' => d167 gx1 hR) (fun hg6639 n6638 k6637 hk6637 => ?_)
  refine p_if 16 8 c183_5 rfl rfl (yz_ne hg6639) (fun hb6640 k6641 hk6641 => ?_) (fun hb6640 k6642 hk6642 => ?_)
  · have hX6643 := hX.trans (if_neg hb6640)
    refine p_aload 17 c183_16 rfl rfl ?_
    refine p_getV 20 (.ref (pA (m 0 4))) c183_17 rfl kf0_4 (pA_sv2 hR.2.1 rfl) ?_
    refine p_getR 23 c183_20 rfl (kP_5 (pA_is _)) ?_
    refine p_iload 24 c183_23 rfl rfl ?_
    refine p_aaX 25 c183_24 rfl (kPr_6 (pA_is _)) gx1 (fun hx6644 => ?_)
    have hX6645 := hX6643.trans (if_pos hx6644)
    refine p_astore 26 c183_25 rfl rfl ?_
    refine p_iload 27 c183_26 rfl rfl ?_
    by_cases hk6646 : x2 = 0
    · have hX6647 := hX6645.trans (if_pos hk6646)
      refine p_top 0 hk6646 ?_
      refine p_tsw 60 c183_27 (rgD rfl) (by decide) rfl rfl ?_
      refine p_aload 61 c183_60 rfl rfl ?_
      refine p_getX 64 (m ((pA (m 0 4)) + 10 + (x1).toNat) 2) c183_61 rfl (kM_2 (kMr (pA_is _) hx6644)) rfl ?_
      exact p_ireturn c183_64 (Hr _ _ hX6647 (hR.rg _ _) hR _)
    have hX6648 := hX6645.trans (if_neg hk6646)
    by_cases hk6649 : x2 = 1
    · have hX6650 := hX6648.trans (if_pos hk6649)
      refine p_top 1 hk6649 ?_
      refine p_tsw 65 c183_27 (rgD rfl) (by decide) rfl rfl ?_
      refine p_aload 66 c183_65 rfl rfl ?_
      refine p_cX 69 [.ref ((pA (m 0 4)) + 10 + (x1).toNat)] [] c183_66 rfl rfl rfl (fun k' hk' d' => d57 (kMr (pA_is _) hx6644) hR) (fun hg6653 n6652 k6651 hk6651 => ?_)
      exact p_ireturn c183_69 (Hr _ _ hX6650 hg6653 hR _)
    have hX6654 := hX6648.trans (if_neg hk6649)
    by_cases hk6655 : x2 = 2
    · have hX6656 := hX6654.trans (if_pos hk6655)
      refine p_top 2 hk6655 ?_
      refine p_tsw 70 c183_27 (rgD rfl) (by decide) rfl rfl ?_
      refine p_aload 71 c183_70 rfl rfl ?_
      refine p_iconst 72 c183_71 rfl ?_
      refine p_cX 75 [.ref ((pA (m 0 4)) + 10 + (x1).toNat), yI 0] [] c183_72 rfl rfl rfl (fun k' hk' d' => d87 (kMr (pA_is _) hx6644) (rgD rfl) hR) (fun hg6659 n6658 k6657 hk6657 => ?_)
      exact p_ireturn c183_75 (Hr _ _ hX6656 hg6659 hR _)
    have hX6660 := hX6654.trans (if_neg hk6655)
    by_cases hk6661 : x2 = 3
    · have hX6662 := hX6660.trans (if_pos hk6661)
      refine p_top 3 hk6661 ?_
      refine p_tsw 76 c183_27 (rgD rfl) (by decide) rfl rfl ?_
      refine p_aload 77 c183_76 rfl rfl ?_
      refine p_iconst 78 c183_77 rfl ?_
      refine p_cX 81 [.ref ((pA (m 0 4)) + 10 + (x1).toNat), yI 1] [] c183_78 rfl rfl rfl (fun k' hk' d' => d87 (kMr (pA_is _) hx6644) (rgD rfl) hR) (fun hg6665 n6664 k6663 hk6663 => ?_)
      exact p_ireturn c183_81 (Hr _ _ hX6662 hg6665 hR _)
    have hX6666 := hX6660.trans (if_neg hk6661)
    by_cases hk6667 : x2 = 4
    · have hX6668 := hX6666.trans (if_pos hk6667)
      refine p_top 4 hk6667 ?_
      refine p_tsw 82 c183_27 (rgD rfl) (by decide) rfl rfl ?_
      refine p_aload 83 c183_82 rfl rfl ?_
      refine p_getX 86 (m ((pA (m 0 4)) + 10 + (x1).toNat) 1) c183_83 rfl (kM_1 (kMr (pA_is _) hx6644)) rfl ?_
      exact p_ireturn c183_86 (Hr _ _ hX6668 (hR.rg _ _) hR _)
    have hX6669 := hX6666.trans (if_neg hk6667)
    refine p_tswd 87 c183_27 gx2 (by omega) rfl ?_
    exact p_throw c183_87 (fun x n' => Ht _ _ hX6669 (Or.inl rfl) hR x n')
  · have hX6670 := hX.trans (if_pos (Classical.not_not.mp hb6640))
    exact p_throw c183_8 (fun x n' => Ht _ _ hX6670 (Or.inr rfl) hR x n')
def F184 (f : Nat) (x1 : Int) (x2 : Int) (m : yM) : Option (Int × yM) := (bT (F183 f x1 x2 m) (fun r6673 m6675 => (some (0, yup m6675 413 0 ((i2l r6673).toInt)))) (fun e' m6675 => (if e' = 9 then (some (2, m6675)) else (if e' = 11 then (some (1, m6675)) else none))))
set_option maxRecDepth 100000 in
theorem d184 {L : Nat} {xs : Nat → Int32} {k d n : Nat} {c : yS3} {f : Nat} {x1 : Int} {x2 : Int} {m : yM} (hk : k ≤ f) (gx1 : rg x1) (gx2 : rg x2) (hR : RM c m) : PC (gZ L xs) k d 184 [.ref 0, yI x1, yI x2, .ref 413] m n (qS c (F184 f x1 x2 m)) := by
  have hX : F184 f x1 x2 m = F184 f x1 x2 m := rfl
  have Hr : ∀ r m', F184 f x1 x2 m = some (r, m') → rg r → RM c m' → ∀ n' : Nat, (qS c (F184 f x1 x2 m)) (.inl (some (yI r))) m' n' := fun r m' e h1 h2 n' => ⟨r, rfl, h1, h2, e⟩
  refine PC.mk [some (.ref 0), some (yI x1), some (yI x2), some (.ref 413), none] kn184 rfl ?_
  refine p_aload 1 c184_0 rfl rfl ?_
  refine p_iconst 2 c184_1 rfl ?_
  refine p_aload 3 c184_2 rfl rfl ?_
  refine p_iload 4 c184_3 rfl rfl ?_
  refine p_iload 5 c184_4 rfl rfl ?_
  refine p_cTI 8 [.ref 0, yI x1, yI x2] [yI 0, .ref 413] c184_5 rfl rfl rfl (fun k' hk' d' => d183 (f := f) (by omega) gx1 gx2 hR) (fun r6673 m6675 hF6671 hg6672 hR6676 n6636 k6635 hk6635 => ?_) (fun e' q6680 m6675 n' hF6671 hE6678 hR6679 => ?_)
  · have hX6674 := hX.trans (bT_l hF6671)
    refine p_i2l 9 c184_8 rfl ?_
    refine p_laS 10 c184_9 rfl kl413 (rgD rfl) (fun hx6681 => ?_)
    have hR6682 := hR6676.up 413 0 (v := (i2l r6673).toInt) (nselD rfl) (rg_i2l _)
    refine p_goto 21 c184_10 rfl ?_
    refine p_iconst 22 c184_21 rfl ?_
    exact p_ireturn c184_22 (Hr _ _ hX6674 (rgD rfl) hR6682 _)
  · have hXe := hX.trans (bT_r hF6671)
    rcases hE6678 with rfl | rfl
    · have hX6683 := hXe.trans (if_pos rfl)
      refine ⟨fun pq hpq k6684 hk6684 => ?_, fun hno => absurd (r_kh184_5_9.symm.trans hno) (by simp)⟩
      have hpp : pq = 17 := by have := r_kh184_5_9.symm.trans hpq; simpa using this.symm
      subst hpp
      refine p_astore 19 c184_17 rfl rfl ?_
      refine p_iconst 20 c184_19 rfl ?_
      exact p_ireturn c184_20 (Hr _ _ hX6683 (rgD rfl) hR6679 _)
    · have hX6685 := (hXe.trans (if_neg (by decide))).trans (if_pos rfl)
      refine ⟨fun pq hpq k6686 hk6686 => ?_, fun hno => absurd (r_kh184_5_11.symm.trans hno) (by simp)⟩
      have hpp : pq = 13 := by have := r_kh184_5_11.symm.trans hpq; simpa using this.symm
      subst hpp
      refine p_astore 15 c184_13 rfl rfl ?_
      refine p_iconst 16 c184_15 rfl ?_
      exact p_ireturn c184_16 (Hr _ _ hX6685 (rgD rfl) hR6679 _)
def F185 (f : Nat) (x1 : Int) (x2 : Int) (m : yM) : Option (Int × yM) := (bI (F162 f (F170 x1 m) m) (fun r6704 m6706 => (if r6704 = 0 then (some (0, m6706)) else (bI (F23 f (F22 x2 0 4) 2 m6706) (fun r6719 m6721 => (if r6719 = 0 then (some (0, m6721)) else (if x2 = 4 then (some (m6721 396 (wr ((wr (10 * (m6721 376 18))) + x1)).toNat, m6721)) else (if wr (x2 - 2) < m6721 397 (wr ((wr (10 * (m6721 376 18))) + x1)).toNat then (some (wr ((m6721 398 (wr ((wr (10 * (m6721 376 18))) + x1)).toNat) + x2), m6721)) else (some ((-1), m6721))))))))))
set_option maxRecDepth 100000 in
theorem d185 {L : Nat} {xs : Nat → Int32} {k d n : Nat} {c : yS3} {f : Nat} {x1 : Int} {x2 : Int} {m : yM} (hk : k ≤ f) (gx1 : rg x1) (gx2 : rg x2) (hR : RM c m) : PC (gZ L xs) k d 185 [.ref 376, yI x1, yI x2] m n (qS c (F185 f x1 x2 m)) := by
  have hX : F185 f x1 x2 m = F185 f x1 x2 m := rfl
  have Hr : ∀ r m', F185 f x1 x2 m = some (r, m') → rg r → RM c m' → ∀ n' : Nat, (qS c (F185 f x1 x2 m)) (.inl (some (yI r))) m' n' := fun r m' e h1 h2 n' => ⟨r, rfl, h1, h2, e⟩
  refine PC.mk [some (.ref 376), some (yI x1), some (yI x2), none] kn185 rfl ?_
  refine p_aload 1 c185_0 rfl rfl ?_
  refine p_aload 2 c185_1 rfl rfl ?_
  refine p_iload 3 c185_2 rfl rfl ?_
  refine p_cX 6 [.ref 376, yI x1] [.ref 376] c185_3 rfl rfl rfl (fun k' hk' d' => d170 gx1 hR) (fun hg6699 n6698 k6697 hk6697 => ?_)
  refine p_cS 9 [.ref 376, yI (F170 x1 m)] [] c185_6 rfl rfl rfl (fun k' hk' d' => d162 (f := f) (by omega) hg6699 hR) (fun r6704 m6706 hF6702 hg6703 hR6707 n6701 k6700 hk6700 => ?_)
  have hX6705 := hX.trans (bI_s hF6702)
  refine p_if 14 12 c185_9 rfl rfl (yz_ne hg6703) (fun hb6708 k6709 hk6709 => ?_) (fun hb6708 k6710 hk6710 => ?_)
  · have hX6711 := hX6705.trans (if_neg hb6708)
    refine p_aload 15 c185_14 rfl rfl ?_
    refine p_iload 16 c185_15 rfl rfl ?_
    refine p_iconst 17 c185_16 rfl ?_
    refine p_iconst 18 c185_17 rfl ?_
    refine p_cX 21 [yI x2, yI 0, yI 4] [.ref 376] c185_18 rfl rfl rfl (fun k' hk' d' => d22 gx2 (rgD rfl) (rgD rfl) hR6707) (fun hg6714 n6713 k6712 hk6712 => ?_)
    refine p_iconst 22 c185_21 rfl ?_
    refine p_cS 25 [.ref 376, yI (F22 x2 0 4), yI 2] [] c185_22 rfl rfl rfl (fun k' hk' d' => d23 (f := f) (by omega) hg6714 (rgD rfl) hR6707) (fun r6719 m6721 hF6717 hg6718 hR6722 n6716 k6715 hk6715 => ?_)
    have hX6720 := hX6711.trans (bI_s hF6717)
    refine p_if 30 28 c185_25 rfl rfl (yz_ne hg6718) (fun hb6723 k6724 hk6724 => ?_) (fun hb6723 k6725 hk6725 => ?_)
    · have hX6726 := hX6720.trans (if_neg hb6723)
      refine p_iconst 32 c185_30 rfl ?_
      refine p_aload 33 c185_32 rfl rfl ?_
      refine p_getX 36 (m6721 376 18) c185_33 rfl kf376_18 rfl ?_
      refine p_imul 37 c185_36 rfl ?_
      refine p_iload 38 c185_37 rfl rfl ?_
      refine p_iadd 39 c185_38 rfl ?_
      refine p_istore 40 c185_39 rfl rfl ?_
      refine p_iload 41 c185_40 rfl rfl ?_
      refine p_iconst 42 c185_41 rfl ?_
      refine p_icmp 52 45 c185_42 rfl rfl (yc_ne gx2 (rgD rfl)) (fun hb6727 k6728 hk6728 => ?_) (fun hb6727 k6729 hk6729 => ?_)
      · have hX6730 := hX6726.trans (if_neg hb6727)
        refine p_iload 53 c185_52 rfl rfl ?_
        refine p_iconst 54 c185_53 rfl ?_
        refine p_isub 55 c185_54 rfl ?_
        refine p_aload 56 c185_55 rfl rfl ?_
        refine p_getR 59 c185_56 rfl kf376_34 ?_
        refine p_iload 60 c185_59 rfl rfl ?_
        refine p_iaX 61 (m6721 397 (wr ((wr (10 * (m6721 376 18))) + x1)).toNat) c185_60 rfl ka397 (rg_wr _) rfl (fun hx6731 => ?_)
        refine p_icmp 75 64 c185_61 rfl rfl ((yc_ge (rg_wr _) (hR6722.rg _ _)).trans Int.not_lt.symm) (fun hb6732 k6733 hk6733 => ?_) (fun hb6732 k6734 hk6734 => ?_)
        · have hX6735 := hX6730.trans (if_neg hb6732)
          refine p_iconst 76 c185_75 rfl ?_
          exact p_ireturn c185_76 (Hr _ _ hX6735 (rgD rfl) hR6722 _)
        · have hX6736 := hX6730.trans (if_pos (Classical.not_not.mp hb6732))
          refine p_aload 65 c185_64 rfl rfl ?_
          refine p_getR 68 c185_65 rfl kf376_35 ?_
          refine p_iload 69 c185_68 rfl rfl ?_
          refine p_iaX 70 (m6721 398 (wr ((wr (10 * (m6721 376 18))) + x1)).toNat) c185_69 rfl ka398 (rg_wr _) rfl (fun hx6737 => ?_)
          refine p_iload 71 c185_70 rfl rfl ?_
          refine p_iadd 72 c185_71 rfl ?_
          refine p_goto 76 c185_72 rfl ?_
          exact p_ireturn c185_76 (Hr _ _ hX6736 (rg_wr _) hR6722 _)
      · have hX6738 := hX6726.trans (if_pos (Classical.not_not.mp hb6727))
        refine p_aload 46 c185_45 rfl rfl ?_
        refine p_getR 49 c185_46 rfl kf376_33 ?_
        refine p_iload 50 c185_49 rfl rfl ?_
        refine p_iaX 51 (m6721 396 (wr ((wr (10 * (m6721 376 18))) + x1)).toNat) c185_50 rfl ka396 (rg_wr _) rfl (fun hx6739 => ?_)
        exact p_ireturn c185_51 (Hr _ _ hX6738 (hR6722.rg _ _) hR6722 _)
    · have hX6740 := hX6720.trans (if_pos (Classical.not_not.mp hb6723))
      refine p_iconst 29 c185_28 rfl ?_
      exact p_ireturn c185_29 (Hr _ _ hX6740 (rgD rfl) hR6722 _)
  · have hX6741 := hX6705.trans (if_pos (Classical.not_not.mp hb6708))
    refine p_iconst 13 c185_12 rfl ?_
    exact p_ireturn c185_13 (Hr _ _ hX6741 (rgD rfl) hR6707 _)
def B75_8_5 (f : Nat) (a0 : Nat) (x1 : Int) (x3 : Int) (x2 : Int) (m : yM) : Option ((Int × yM) ⊕ ((Int × yM) ⊕ (Unit × yM))) := (if x2 < x3 then (some (.inl ((wr (x2 + 1)), yup m a0 x2.toNat x1))) else (some (.inr (.inl (x2, m)))))
set_option maxRecDepth 100000 in
theorem tB75_8_5 {L : Nat} {xs : Nat → Int32} {Q : xO → yM → Nat → Prop} {k d n : Nat} {c : yS3} {f : Nat} {a0 : Nat} {x1 : Int} {x3 : Int} {x2 : Int} {m : yM} (hk : k ≤ f) (hr0 : yarr gSh 414 a0 = some (0, 8)) (hq0 : (10 ≤ a0 ∧ a0 < 72) ∨ (73 ≤ a0 ∧ a0 < 169) ∨ (171 ≤ a0 ∧ a0 < 219) ∨ (221 ≤ a0 ∧ a0 < 251) ∨ (252 ≤ a0 ∧ a0 < 256)) (gx1 : rg x1) (gx3 : rg x3) (gx2 : rg x2) (hR : RM c m) (Hn : ∀ (y0 : Int) (m' : yM) (n' : Nat), B75_8_5 f a0 x1 x3 x2 m = some (.inl (y0, m')) → rg y0 → RM c m' → ∀ k', k' < k → PW (gZ L xs) k' 75 d 5 [some (.ref a0), some (yI x1), some (yI y0), some (yI x3)] [] m' n' Q) (He : ∀ (y0 : Int) (m' : yM) (n' : Nat), B75_8_5 f a0 x1 x3 x2 m = some (.inr (.inl (y0, m'))) → rg y0 → RM c m' → ∀ k', k' ≤ k → PW (gZ L xs) k' 75 d 20 [some (.ref a0), some (yI x1), some (yI y0), some (yI x3)] [] m' n' Q) (Hr : ∀ m', B75_8_5 f a0 x1 x3 x2 m = some (.inr (.inr ((), m'))) → RM c m' → ∀ n', Q (.inl none) m' n') : PW (gZ L xs) k 75 d 5 [some (.ref a0), some (yI x1), some (yI x2), some (yI x3)] [] m n Q := by
  have hX : B75_8_5 f a0 x1 x3 x2 m = B75_8_5 f a0 x1 x3 x2 m := rfl
  refine p_iload 6 c75_5 rfl rfl ?_
  refine p_iload 7 c75_6 rfl rfl ?_
  refine p_icmp 20 10 c75_7 rfl rfl ((yc_ge gx2 gx3).trans Int.not_lt.symm) (fun hb6785 k6786 hk6786 => ?_) (fun hb6785 k6787 hk6787 => ?_)
  · have hX6788 := hX.trans (if_neg hb6785)
    exact He _ _ _ hX6788 gx2 hR _ (by omega)
  · have hX6789 := hX.trans (if_pos (Classical.not_not.mp hb6785))
    refine p_aload 11 c75_10 rfl rfl ?_
    refine p_iload 12 c75_11 rfl rfl ?_
    refine p_iload 13 c75_12 rfl rfl ?_
    refine p_iaS 14 c75_13 rfl hr0 gx2 x1 (nar0 gx1) (fun hx6790 => ?_)
    have hR6791 := hR.up a0 x2.toNat (v := x1) (nselA (by omega)) gx1
    refine p_iinc 17 c75_14 rfl rfl rfl ?_
    refine p_gotoD 5 c75_17 rfl (fun k6792 hk6792 => ?_)
    exact Hn _ _ _ hX6789 (rg_wr _) hR6791 _ (by omega)
def F75_8 (f : Nat) (a0 : Nat) (x1 : Int) (m : yM) : Option yM := (bL (yloop (fun (l : Int) ml => B75_8_5 f a0 x1 8 l ml) f 0 m) (fun l6793 m6799 => (some m6799)) (fun _ mr => some mr))
set_option maxRecDepth 100000 in
theorem d75_8 {L : Nat} {xs : Nat → Int32} {k d n : Nat} {c : yS3} {f : Nat} {a0 : Nat} {x1 : Int} {m : yM} (hk : k ≤ f) (hr0 : yarr gSh 414 a0 = some (0, 8)) (hq0 : (10 ≤ a0 ∧ a0 < 72) ∨ (73 ≤ a0 ∧ a0 < 169) ∨ (171 ≤ a0 ∧ a0 < 219) ∨ (221 ≤ a0 ∧ a0 < 251) ∨ (252 ≤ a0 ∧ a0 < 256)) (gx1 : rg x1) (hR : RM c m) : PC (gZ L xs) k d 75 [.ref a0, yI x1] m n (qV c (F75_8 f a0 x1 m)) := by
  have hX : F75_8 f a0 x1 m = F75_8 f a0 x1 m := rfl
  have Hr : ∀ m', F75_8 f a0 x1 m = some m' → RM c m' → ∀ n' : Nat, (qV c (F75_8 f a0 x1 m)) (.inl none) m' n' := fun m' e h n' => ⟨rfl, h, e⟩
  refine PC.mk [some (.ref a0), some (yI x1), none, none] kn75 rfl ?_
  refine p_iconst 1 c75_0 rfl ?_
  refine p_istore 2 c75_1 rfl rfl ?_
  refine p_aload 3 c75_2 rfl rfl ?_
  refine p_alen 4 c75_3 rfl hr0 ?_
  refine p_istore 5 c75_4 rfl rfl ?_
  refine PW.loop (K := k) (pce := 20) (fun (l : Int) ml => B75_8_5 f a0 x1 8 l ml) (fun (l : Int) j => [some (.ref a0), some (yI x1), some (yI l), some (yI 8)]) (fun (l : Int) => rg l) (RM c) (fun (r' : Unit) m' => RM c m' → ∀ n' : Nat, (qV c (F75_8 f a0 x1 m)) (.inl none) m' n') (fun k' hk' l j m' n' hl hI Hn' He' Hr' => tB75_8_5 (f := f) (by omega) hr0 (by omega) gx1 (rgD rfl) hl hI (fun y0 m2 n2 e h0 hR2 => Hn' y0 (fun q => ([none, none, none, none] : List (Option Value)).getD q none) m2 n2 e h0 hR2) (fun y0 m2 n2 e h0 hR2 => He' y0 (fun q => ([none, none, none, none] : List (Option Value)).getD q none) m2 n2 e h0 hR2) (fun m2 e => Hr' () m2 e)) f k (by omega) (Nat.le_refl _) 0 (fun q => ([some (.ref a0), some (yI x1), some (yI 0), some (yI 8)] : xL).getD q none) _ _ (rgD rfl) hR (fun l6793 j6796 m6799 n6798 e6795 hl6794 hR6800 k6797 hk6797 => ?_) (fun r' m' e' => ?_)
  · have hX6801 := hX.trans (bL_l e6795)
    exact p_return c75_20 (Hr _ hX6801 hR6800 _)
  · exact Hr m' (hX.trans (bL_r e'))
def F186 (f : Nat) (x1 : Int) (m : yM) : Option ((Int ⊕ Nat) × yM) := (if m 169 5 = 30 then (some (.inr 10, m)) else (if 0 ≤ (m 169 5) ∧ (m 169 5) < ((30 : Nat) : Int) then (bU (F75_8 f (221 + (m 169 5).toNat) ((-1)) (yup (yup m 169 5 (wr ((m 169 5) + 1))) 219 (m 169 5).toNat x1)) (fun m6806 => (some (.inl (m 169 5), m6806)))) else none))
set_option maxRecDepth 100000 in
theorem d186 {L : Nat} {xs : Nat → Int32} {k d n : Nat} {c : yS3} {f : Nat} {x1 : Int} {m : yM} (hk : k ≤ f) (gx1 : rg x1) (hR : RM c m) : PC (gZ L xs) k d 186 [.ref 169, yI x1] m n (qEI (fun e => e = 10) c (F186 f x1 m)) := by
  have hX : F186 f x1 m = F186 f x1 m := rfl
  have Hr : ∀ r m', F186 f x1 m = some (.inl r, m') → rg r → RM c m' → ∀ n' : Nat, (qEI (fun e => e = 10) c (F186 f x1 m)) (.inl (some (yI r))) m' n' := fun r m' e h1 h2 n' => Or.inl ⟨r, rfl, h1, h2, e⟩
  have Ht : ∀ e m', F186 f x1 m = some (.inr e, m') → (fun e => e = 10) e → RM c m' → ∀ x n' : Nat, (qEI (fun e => e = 10) c (F186 f x1 m)) (.inr (e, x)) m' n' := fun e m' e1 h1 h2 x n' => Or.inr ⟨e, x, rfl, h1, h2, e1⟩
  refine PC.mk [some (.ref 169), some (yI x1), none] kn186 rfl ?_
  refine p_aload 1 c186_0 rfl rfl ?_
  refine p_getX 4 (m 169 5) c186_1 rfl kf169_5 rfl ?_
  refine p_iconst 6 c186_4 rfl ?_
  refine p_icmp 17 9 c186_6 rfl rfl (yc_ne (hR.rg _ _) (rgD rfl)) (fun hb6774 k6775 hk6775 => ?_) (fun hb6774 k6776 hk6776 => ?_)
  · have hX6777 := hX.trans (if_neg hb6774)
    refine p_aload 18 c186_17 rfl rfl ?_
    refine p_getX 21 (m 169 5) c186_18 rfl kf169_5 rfl ?_
    refine p_istore 22 c186_21 rfl rfl ?_
    refine p_aload 23 c186_22 rfl rfl ?_
    refine p_dup 24 c186_23 rfl rfl ?_
    refine p_getX 27 (m 169 5) c186_24 rfl kf169_5 rfl ?_
    refine p_iconst 28 c186_27 rfl ?_
    refine p_iadd 29 c186_28 rfl ?_
    refine p_putI 32 c186_29 rfl kf169_5 ?_
    have hR6778 := hR.up 169 5 (v := wr ((m 169 5) + 1)) (nselD rfl) (rg_wr _)
    refine p_aload 33 c186_32 rfl rfl ?_
    refine p_getR 36 c186_33 rfl kf169_1 ?_
    refine p_iload 37 c186_36 rfl rfl ?_
    refine p_iload 38 c186_37 rfl rfl ?_
    refine p_iaS 39 c186_38 rfl ka219 (hR.rg _ _) x1 (nar0 gx1) (fun hx6779 => ?_)
    have hR6780 := hR6778.up 219 (m 169 5).toNat (v := x1) (nselA (by decide)) gx1
    refine p_aload 40 c186_39 rfl rfl ?_
    refine p_getR 43 c186_40 rfl kf169_2 ?_
    refine p_iload 44 c186_43 rfl rfl ?_
    refine p_aaX 45 c186_44 rfl kr220 (hR.rg _ _) (fun hx6781 => ?_)
    have hX6782 := hX6777.trans (if_pos hx6781)
    refine p_iconst 46 c186_45 rfl ?_
    refine p_cV 49 [.ref (221 + (m 169 5).toNat), yI ((-1))] [] c186_46 rfl rfl rfl (fun k' hk' d' => d75_8 (f := f) (by omega) (kR220 hx6781) (by omega) (rgD rfl) hR6780) (fun m6806 hF6802 hR6807 n6784 k6783 hk6783 => ?_)
    have hX6805 := hX6782.trans (bU_s hF6802)
    refine p_iload 50 c186_49 rfl rfl ?_
    exact p_ireturn c186_50 (Hr _ _ hX6805 (hR.rg _ _) hR6807 _)
  · have hX6808 := hX.trans (if_pos (Classical.not_not.mp hb6774))
    exact p_throw c186_9 (fun x n' => Ht _ _ hX6808 rfl hR x n')
def B75_48_5 (f : Nat) (a0 : Nat) (x1 : Int) (x3 : Int) (x2 : Int) (m : yM) : Option ((Int × yM) ⊕ ((Int × yM) ⊕ (Unit × yM))) := (if x2 < x3 then (some (.inl ((wr (x2 + 1)), yup m a0 x2.toNat x1))) else (some (.inr (.inl (x2, m)))))
set_option maxRecDepth 100000 in
theorem tB75_48_5 {L : Nat} {xs : Nat → Int32} {Q : xO → yM → Nat → Prop} {k d n : Nat} {c : yS3} {f : Nat} {a0 : Nat} {x1 : Int} {x3 : Int} {x2 : Int} {m : yM} (hk : k ≤ f) (hr0 : yarr gSh 414 a0 = some (0, 48)) (hq0 : (10 ≤ a0 ∧ a0 < 72) ∨ (73 ≤ a0 ∧ a0 < 169) ∨ (171 ≤ a0 ∧ a0 < 219) ∨ (221 ≤ a0 ∧ a0 < 251) ∨ (252 ≤ a0 ∧ a0 < 256)) (gx1 : rg x1) (gx3 : rg x3) (gx2 : rg x2) (hR : RM c m) (Hn : ∀ (y0 : Int) (m' : yM) (n' : Nat), B75_48_5 f a0 x1 x3 x2 m = some (.inl (y0, m')) → rg y0 → RM c m' → ∀ k', k' < k → PW (gZ L xs) k' 75 d 5 [some (.ref a0), some (yI x1), some (yI y0), some (yI x3)] [] m' n' Q) (He : ∀ (y0 : Int) (m' : yM) (n' : Nat), B75_48_5 f a0 x1 x3 x2 m = some (.inr (.inl (y0, m'))) → rg y0 → RM c m' → ∀ k', k' ≤ k → PW (gZ L xs) k' 75 d 20 [some (.ref a0), some (yI x1), some (yI y0), some (yI x3)] [] m' n' Q) (Hr : ∀ m', B75_48_5 f a0 x1 x3 x2 m = some (.inr (.inr ((), m'))) → RM c m' → ∀ n', Q (.inl none) m' n') : PW (gZ L xs) k 75 d 5 [some (.ref a0), some (yI x1), some (yI x2), some (yI x3)] [] m n Q := by
  have hX : B75_48_5 f a0 x1 x3 x2 m = B75_48_5 f a0 x1 x3 x2 m := rfl
  refine p_iload 6 c75_5 rfl rfl ?_
  refine p_iload 7 c75_6 rfl rfl ?_
  refine p_icmp 20 10 c75_7 rfl rfl ((yc_ge gx2 gx3).trans Int.not_lt.symm) (fun hb6831 k6832 hk6832 => ?_) (fun hb6831 k6833 hk6833 => ?_)
  · have hX6834 := hX.trans (if_neg hb6831)
    exact He _ _ _ hX6834 gx2 hR _ (by omega)
  · have hX6835 := hX.trans (if_pos (Classical.not_not.mp hb6831))
    refine p_aload 11 c75_10 rfl rfl ?_
    refine p_iload 12 c75_11 rfl rfl ?_
    refine p_iload 13 c75_12 rfl rfl ?_
    refine p_iaS 14 c75_13 rfl hr0 gx2 x1 (nar0 gx1) (fun hx6836 => ?_)
    have hR6837 := hR.up a0 x2.toNat (v := x1) (nselA (by omega)) gx1
    refine p_iinc 17 c75_14 rfl rfl rfl ?_
    refine p_gotoD 5 c75_17 rfl (fun k6838 hk6838 => ?_)
    exact Hn _ _ _ hX6835 (rg_wr _) hR6837 _ (by omega)
def F75_48 (f : Nat) (a0 : Nat) (x1 : Int) (m : yM) : Option yM := (bL (yloop (fun (l : Int) ml => B75_48_5 f a0 x1 48 l ml) f 0 m) (fun l6839 m6845 => (some m6845)) (fun _ mr => some mr))
set_option maxRecDepth 100000 in
theorem d75_48 {L : Nat} {xs : Nat → Int32} {k d n : Nat} {c : yS3} {f : Nat} {a0 : Nat} {x1 : Int} {m : yM} (hk : k ≤ f) (hr0 : yarr gSh 414 a0 = some (0, 48)) (hq0 : (10 ≤ a0 ∧ a0 < 72) ∨ (73 ≤ a0 ∧ a0 < 169) ∨ (171 ≤ a0 ∧ a0 < 219) ∨ (221 ≤ a0 ∧ a0 < 251) ∨ (252 ≤ a0 ∧ a0 < 256)) (gx1 : rg x1) (hR : RM c m) : PC (gZ L xs) k d 75 [.ref a0, yI x1] m n (qV c (F75_48 f a0 x1 m)) := by
  have hX : F75_48 f a0 x1 m = F75_48 f a0 x1 m := rfl
  have Hr : ∀ m', F75_48 f a0 x1 m = some m' → RM c m' → ∀ n' : Nat, (qV c (F75_48 f a0 x1 m)) (.inl none) m' n' := fun m' e h n' => ⟨rfl, h, e⟩
  refine PC.mk [some (.ref a0), some (yI x1), none, none] kn75 rfl ?_
  refine p_iconst 1 c75_0 rfl ?_
  refine p_istore 2 c75_1 rfl rfl ?_
  refine p_aload 3 c75_2 rfl rfl ?_
  refine p_alen 4 c75_3 rfl hr0 ?_
  refine p_istore 5 c75_4 rfl rfl ?_
  refine PW.loop (K := k) (pce := 20) (fun (l : Int) ml => B75_48_5 f a0 x1 48 l ml) (fun (l : Int) j => [some (.ref a0), some (yI x1), some (yI l), some (yI 48)]) (fun (l : Int) => rg l) (RM c) (fun (r' : Unit) m' => RM c m' → ∀ n' : Nat, (qV c (F75_48 f a0 x1 m)) (.inl none) m' n') (fun k' hk' l j m' n' hl hI Hn' He' Hr' => tB75_48_5 (f := f) (by omega) hr0 (by omega) gx1 (rgD rfl) hl hI (fun y0 m2 n2 e h0 hR2 => Hn' y0 (fun q => ([none, none, none, none] : List (Option Value)).getD q none) m2 n2 e h0 hR2) (fun y0 m2 n2 e h0 hR2 => He' y0 (fun q => ([none, none, none, none] : List (Option Value)).getD q none) m2 n2 e h0 hR2) (fun m2 e => Hr' () m2 e)) f k (by omega) (Nat.le_refl _) 0 (fun q => ([some (.ref a0), some (yI x1), some (yI 0), some (yI 48)] : xL).getD q none) _ _ (rgD rfl) hR (fun l6839 j6842 m6845 n6844 e6841 hl6840 hR6846 k6843 hk6843 => ?_) (fun r' m' e' => ?_)
  · have hX6847 := hX.trans (bL_l e6841)
    exact p_return c75_20 (Hr _ hX6847 hR6846 _)
  · exact Hr m' (hX.trans (bL_r e'))
def F187 (f : Nat) (x1 : Int) (m : yM) : Option ((Nat ⊕ Nat) × yM) := (if x1 < 4 then (if 0 ≤ x1 ∧ x1 < ((4 : Nat) : Int) then (bU (F75_48 f (252 + (x1).toNat) ((-1)) m) (fun m6852 => (if 0 ≤ x1 ∧ x1 < ((4 : Nat) : Int) then (some (.inl (252 + (x1).toNat), m6852)) else none))) else none) else (some (.inr 10, m)))
set_option maxRecDepth 100000 in
theorem d187 {L : Nat} {xs : Nat → Int32} {k d n : Nat} {c : yS3} {f : Nat} {x1 : Int} {m : yM} (hk : k ≤ f) (gx1 : rg x1) (hR : RM c m) : PC (gZ L xs) k d 187 [.ref 169, yI x1] m n (qEA (fun e => e = 10) c (fun a => yarr gSh 414 a = some (0, 48) ∧ (252 ≤ a ∧ a < 256)) (F187 f x1 m)) := by
  have hX : F187 f x1 m = F187 f x1 m := rfl
  have Hr : ∀ r m', F187 f x1 m = some (.inl r, m') → (fun a => yarr gSh 414 a = some (0, 48) ∧ (252 ≤ a ∧ a < 256)) r → RM c m' → ∀ n' : Nat, (qEA (fun e => e = 10) c (fun a => yarr gSh 414 a = some (0, 48) ∧ (252 ≤ a ∧ a < 256)) (F187 f x1 m)) (.inl (some (.ref r))) m' n' := fun r m' e h1 h2 n' => Or.inl ⟨r, rfl, h1, h2, e⟩
  have Ht : ∀ e m', F187 f x1 m = some (.inr e, m') → (fun e => e = 10) e → RM c m' → ∀ x n' : Nat, (qEA (fun e => e = 10) c (fun a => yarr gSh 414 a = some (0, 48) ∧ (252 ≤ a ∧ a < 256)) (F187 f x1 m)) (.inr (e, x)) m' n' := fun e m' e1 h1 h2 x n' => Or.inr ⟨e, x, rfl, h1, h2, e1⟩
  refine PC.mk [some (.ref 169), some (yI x1)] kn187 rfl ?_
  refine p_iload 1 c187_0 rfl rfl ?_
  refine p_iconst 2 c187_1 rfl ?_
  refine p_icmp 13 5 c187_2 rfl rfl (yc_lt gx1 (rgD rfl)) (fun hb6823 k6824 hk6824 => ?_) (fun hb6823 k6825 hk6825 => ?_)
  · have hX6826 := hX.trans (if_pos hb6823)
    refine p_aload 14 c187_13 rfl rfl ?_
    refine p_getR 17 c187_14 rfl kf169_3 ?_
    refine p_iload 18 c187_17 rfl rfl ?_
    refine p_aaX 19 c187_18 rfl kr251 gx1 (fun hx6827 => ?_)
    have hX6828 := hX6826.trans (if_pos hx6827)
    refine p_iconst 20 c187_19 rfl ?_
    refine p_cV 23 [.ref (252 + (x1).toNat), yI ((-1))] [] c187_20 rfl rfl rfl (fun k' hk' d' => d75_48 (f := f) (by omega) (kR251 hx6827) (by omega) (rgD rfl) hR) (fun m6852 hF6848 hR6853 n6830 k6829 hk6829 => ?_)
    have hX6851 := hX6828.trans (bU_s hF6848)
    refine p_aload 24 c187_23 rfl rfl ?_
    refine p_getR 27 c187_24 rfl kf169_3 ?_
    refine p_iload 28 c187_27 rfl rfl ?_
    refine p_aaX 29 c187_28 rfl kr251 gx1 (fun hx6854 => ?_)
    have hX6855 := hX6851.trans (if_pos hx6854)
    exact p_areturn c187_29 (Hr _ _ hX6855 ⟨(kR251 hx6854), by omega⟩ hR6853 _)
  · have hX6856 := hX.trans (if_neg hb6823)
    exact p_throw c187_5 (fun x n' => Ht _ _ hX6856 rfl hR x n')
def F188_48 (f : Nat) (a1 : Nat) (x2 : Int) (x3 : Int) (m : yM) : Option yM := (if x3 = (-1) then (some (yup m a1 x2.toNat x3)) else (if 0 ≤ x2 ∧ x2 < ((48 : Nat) : Int) then (some (yup (yup m a1 x2.toNat x3) (171 + (x2).toNat) (m 219 x3.toNat).toNat 1)) else none))
set_option maxRecDepth 100000 in
theorem d188_48 {L : Nat} {xs : Nat → Int32} {k d n : Nat} {c : yS3} {f : Nat} {a1 : Nat} {x2 : Int} {x3 : Int} {m : yM} (hk : k ≤ f) (hr1 : yarr gSh 414 a1 = some (0, 48)) (hq1 : (252 ≤ a1 ∧ a1 < 256)) (gx2 : rg x2) (gx3 : rg x3) (hR : RM c m) : PC (gZ L xs) k d 188 [.ref 169, .ref a1, yI x2, yI x3] m n (qV c (F188_48 f a1 x2 x3 m)) := by
  have hX : F188_48 f a1 x2 x3 m = F188_48 f a1 x2 x3 m := rfl
  have Hr : ∀ m', F188_48 f a1 x2 x3 m = some m' → RM c m' → ∀ n' : Nat, (qV c (F188_48 f a1 x2 x3 m)) (.inl none) m' n' := fun m' e h n' => ⟨rfl, h, e⟩
  refine PC.mk [some (.ref 169), some (.ref a1), some (yI x2), some (yI x3)] kn188 rfl ?_
  refine p_aload 1 c188_0 rfl rfl ?_
  refine p_iload 2 c188_1 rfl rfl ?_
  refine p_iload 3 c188_2 rfl rfl ?_
  refine p_iaS 4 c188_3 rfl hr1 gx2 x3 (nar0 gx3) (fun hx6873 => ?_)
  have hR6874 := hR.up a1 x2.toNat (v := x3) (nselA (by omega)) gx3
  refine p_iload 5 c188_4 rfl rfl ?_
  refine p_iconst 6 c188_5 rfl ?_
  refine p_icmp 23 9 c188_6 rfl rfl (yc_eq gx3 (rgD rfl)) (fun hb6875 k6876 hk6876 => ?_) (fun hb6875 k6877 hk6877 => ?_)
  · have hX6878 := hX.trans (if_pos hb6875)
    exact p_return c188_23 (Hr _ hX6878 hR6874 _)
  · have hX6879 := hX.trans (if_neg hb6875)
    refine p_aload 10 c188_9 rfl rfl ?_
    refine p_getR 13 c188_10 rfl kf169_0 ?_
    refine p_iload 14 c188_13 rfl rfl ?_
    refine p_aaX 15 c188_14 rfl kr170 gx2 (fun hx6880 => ?_)
    have hX6881 := hX6879.trans (if_pos hx6880)
    refine p_aload 16 c188_15 rfl rfl ?_
    refine p_getR 19 c188_16 rfl kf169_1 ?_
    refine p_iload 20 c188_19 rfl rfl ?_
    refine p_iaX 21 (m 219 x3.toNat) c188_20 rfl ka219 gx3 (yup_na (by omega)) (fun hx6882 => ?_)
    refine p_iconst 22 c188_21 rfl ?_
    refine p_iaS 23 c188_22 rfl (kR170 hx6880) (hR.rg _ _) 1 (nar0 (rgD rfl)) (fun hx6883 => ?_)
    have hR6884 := hR6874.up (171 + (x2).toNat) (m 219 x3.toNat).toNat (v := 1) (nselA (by omega)) (rgD rfl)
    exact p_return c188_23 (Hr _ hX6881 hR6884 _)
def F189 (f : Nat) (m : yM) : Option ((Unit ⊕ Nat) × yM) := (if m 169 6 = 200 then (some (.inr 10, m)) else (some (.inl (), yup m 169 6 (wr ((m 169 6) + 1)))))
set_option maxRecDepth 100000 in
theorem d189 {L : Nat} {xs : Nat → Int32} {k d n : Nat} {c : yS3} {f : Nat} {m : yM} (hk : k ≤ f) (hR : RM c m) : PC (gZ L xs) k d 189 [.ref 169] m n (qEV (fun e => e = 10) c (F189 f m)) := by
  have hX : F189 f m = F189 f m := rfl
  have Hr : ∀ m', F189 f m = some (.inl (), m') → RM c m' → ∀ n' : Nat, (qEV (fun e => e = 10) c (F189 f m)) (.inl none) m' n' := fun m' e h n' => Or.inl ⟨rfl, h, e⟩
  have Ht : ∀ e m', F189 f m = some (.inr e, m') → (fun e => e = 10) e → RM c m' → ∀ x n' : Nat, (qEV (fun e => e = 10) c (F189 f m)) (.inr (e, x)) m' n' := fun e m' e1 h1 h2 x n' => Or.inr ⟨e, x, rfl, h1, h2, e1⟩
  refine PC.mk [some (.ref 169)] kn189 rfl ?_
  refine p_aload 1 c189_0 rfl rfl ?_
  refine p_getX 4 (m 169 6) c189_1 rfl kf169_6 rfl ?_
  refine p_iconst 7 c189_4 rfl ?_
  refine p_icmp 18 10 c189_7 rfl rfl (yc_ne (hR.rg _ _) (rgD rfl)) (fun hb6907 k6908 hk6908 => ?_) (fun hb6907 k6909 hk6909 => ?_)
  · have hX6910 := hX.trans (if_neg hb6907)
    refine p_aload 19 c189_18 rfl rfl ?_
    refine p_dup 20 c189_19 rfl rfl ?_
    refine p_getX 23 (m 169 6) c189_20 rfl kf169_6 rfl ?_
    refine p_iconst 24 c189_23 rfl ?_
    refine p_iadd 25 c189_24 rfl ?_
    refine p_putI 28 c189_25 rfl kf169_6 ?_
    have hR6911 := hR.up 169 6 (v := wr ((m 169 6) + 1)) (nselD rfl) (rg_wr _)
    exact p_return c189_28 (Hr _ hX6910 hR6911 _)
  · have hX6912 := hX.trans (if_pos (Classical.not_not.mp hb6907))
    exact p_throw c189_10 (fun x n' => Ht _ _ hX6912 rfl hR x n')
def B190_13 (f : Nat) (rc : Int → Int → Int → yM → Option ((Int ⊕ Nat) × yM)) (A : Nat) (x1 : Int) (x2 : Int) (a3 : Nat) (x4 : Int) (m : yM) : Option ((Int × yM) ⊕ ((Int × yM) ⊕ ((Int ⊕ Nat) × yM))) := (if 200 < x4 then (some (.inr (.inl (x4, m)))) else (if 0 ≤ x2 ∧ x2 < ((4 : Nat) : Int) then (if m (252 + (x2).toNat) (m a3 3).toNat = (-1) then (some (.inr (.inl (x4, m)))) else (bT (rc (wr (x1 + 1)) (m a3 11) x2 m) (fun r6983 m6985 => (if r6983 = 0 then (bT (F189 f m6985) (fun _ m7001 => (some (.inl ((wr (x4 + 1)), m7001)))) (fun e' m7001 => (some (.inr (.inr (.inr e', m7001)))))) else (some (.inr (.inr (.inl 1, m6985)))))) (fun e' m6985 => (some (.inr (.inr (.inr e', m6985))))))) else none))
set_option maxRecDepth 100000 in
theorem tB190_13 {L : Nat} {xs : Nat → Int32} {Q : xO → yM → Nat → Prop} {k d n : Nat} {c : yS3} {f : Nat} {rc : Int → Int → Int → yM → Option ((Int ⊕ Nat) × yM)} {A : Nat} {x1 : Int} {x2 : Int} {a3 : Nat} {x4 : Int} {m : yM} (hk : k ≤ f) (hrc : ∀ k', k' < k → ∀ {d' : Nat} {x1 x2 x3 : Int} {m' : yM} {n' : Nat}, rg x1 → rg x2 → rg x3 → RM c m' → PC (gZ L xs) k' d' 197 [.ref 169, yI x1, yI x2, yI x3] m' n' (qEI (fun e => e = 10 ∨ e = 11 ∨ e = 12 ∨ e = 13) c (rc x1 x2 x3 m'))) (hc : c.2.2 = pX A) (hA : (A = 256 ∨ A = 316)) (gx1 : rg x1) (gx2 : rg x2) (hs3 : (276 ≤ a3 ∧ a3 < 316) ∨ (336 ≤ a3 ∧ a3 < 376)) (gx4 : rg x4) (hR : RM c m) (Hn : ∀ (y0 : Int) (m' : yM) (n' : Nat), B190_13 f rc A x1 x2 a3 x4 m = some (.inl (y0, m')) → rg y0 → RM c m' → ∀ k', k' < k → PW (gZ L xs) k' 190 d 13 [some (.ref 169), some (yI x1), some (yI x2), some (.ref a3), some (yI y0)] [] m' n' Q) (He : ∀ (y0 : Int) (m' : yM) (n' : Nat), B190_13 f rc A x1 x2 a3 x4 m = some (.inr (.inl (y0, m'))) → rg y0 → RM c m' → ∀ k', k' ≤ k → PW (gZ L xs) k' 190 d 63 [some (.ref 169), some (yI x1), some (yI x2), some (.ref a3), some (yI y0)] [] m' n' Q) (Hr : ∀ r m', B190_13 f rc A x1 x2 a3 x4 m = some (.inr (.inr (.inl r, m'))) → rg r → RM c m' → ∀ n', Q (.inl (some (yI r))) m' n') (Ht : ∀ e m', B190_13 f rc A x1 x2 a3 x4 m = some (.inr (.inr (.inr e, m'))) → (fun e => e = 10 ∨ e = 11 ∨ e = 12 ∨ e = 13) e → RM c m' → ∀ x n', Q (.inr (e, x)) m' n') : PW (gZ L xs) k 190 d 13 [some (.ref 169), some (yI x1), some (yI x2), some (.ref a3), some (yI x4)] [] m n Q := by
  have hX : B190_13 f rc A x1 x2 a3 x4 m = B190_13 f rc A x1 x2 a3 x4 m := rfl
  refine p_iload 15 c190_13 rfl rfl ?_
  refine p_iconst 18 c190_15 rfl ?_
  refine p_icmp 63 21 c190_18 rfl rfl (yc_gt gx4 (rgD rfl)) (fun hb6966 k6967 hk6967 => ?_) (fun hb6966 k6968 hk6968 => ?_)
  · have hX6969 := hX.trans (if_pos hb6966)
    exact He _ _ _ hX6969 gx4 hR _ (by omega)
  · have hX6970 := hX.trans (if_neg hb6966)
    refine p_aload 22 c190_21 rfl rfl ?_
    refine p_getR 25 c190_22 rfl kf169_3 ?_
    refine p_iload 26 c190_25 rfl rfl ?_
    refine p_aaX 27 c190_26 rfl kr251 gx2 (fun hx6971 => ?_)
    have hX6972 := hX6970.trans (if_pos hx6971)
    refine p_aload 28 c190_27 rfl rfl ?_
    refine p_getX 31 (m a3 3) c190_28 rfl (kS_3 hs3) rfl ?_
    refine p_iaX 32 (m (252 + (x2).toNat) (m a3 3).toNat) c190_31 rfl (kR251 hx6971) (hR.rg _ _) rfl (fun hx6973 => ?_)
    refine p_iconst 33 c190_32 rfl ?_
    refine p_icmp 63 36 c190_33 rfl rfl (yc_eq (hR.rg _ _) (rgD rfl)) (fun hb6974 k6975 hk6975 => ?_) (fun hb6974 k6976 hk6976 => ?_)
    · have hX6977 := hX6972.trans (if_pos hb6974)
      exact He _ _ _ hX6977 gx4 hR _ (by omega)
    · have hX6978 := hX6972.trans (if_neg hb6974)
      refine p_aload 37 c190_36 rfl rfl ?_
      refine p_iload 38 c190_37 rfl rfl ?_
      refine p_iconst 39 c190_38 rfl ?_
      refine p_iadd 40 c190_39 rfl ?_
      refine p_aload 41 c190_40 rfl rfl ?_
      refine p_getX 44 (m a3 11) c190_41 rfl (kS_11 hs3) rfl ?_
      refine p_iload 45 c190_44 rfl rfl ?_
      refine p_cTI 48 [.ref 169, yI (wr (x1 + 1)), yI (m a3 11), yI x2] [] c190_45 rfl rfl rfl (fun k' hk' d' => hrc k' (by omega) (rg_wr _) (hR.rg _ _) gx2 hR) (fun r6983 m6985 hF6981 hg6982 hR6986 n6980 k6979 hk6979 => ?_) (fun e' q6990 m6985 n' hF6981 hE6988 hR6989 => ?_)
      · have hX6984 := hX6978.trans (bT_l hF6981)
        refine p_if 53 51 c190_48 rfl rfl (yz_eq hg6982) (fun hb6991 k6992 hk6992 => ?_) (fun hb6991 k6993 hk6993 => ?_)
        · have hX6994 := hX6984.trans (if_pos hb6991)
          refine p_aload 54 c190_53 rfl rfl ?_
          refine p_cTV 57 [.ref 169] [] c190_54 rfl rfl rfl (fun k' hk' d' => d189 (f := f) (by omega) hR6986) (fun m7001 hF6997 hR7002 n6996 k6995 hk6995 => ?_) (fun e' q7006 m7001 n' hF6997 hE7004 hR7005 => ?_)
          · have hX7000 := hX6994.trans (bT_l hF6997)
            refine p_iinc 60 c190_57 rfl rfl rfl ?_
            refine p_gotoD 13 c190_60 rfl (fun k7007 hk7007 => ?_)
            exact Hn _ _ _ hX7000 (rg_wr _) hR7002 _ (by omega)
          · exact ⟨fun pq hpq => absurd ((khm rfl).symm.trans hpq) (by simp), fun _ => Ht e' m7001 (hX6994.trans (bT_r hF6997)) (by have q := hE7004; simp only at q ⊢; omega) hR7005 q7006 n'⟩
        · have hX7008 := hX6984.trans (if_neg hb6991)
          refine p_iconst 52 c190_51 rfl ?_
          exact p_ireturn c190_52 (Hr _ _ hX7008 (rgD rfl) hR6986 _)
      · exact ⟨fun pq hpq => absurd ((khm rfl).symm.trans hpq) (by simp), fun _ => Ht e' m6985 (hX6978.trans (bT_r hF6981)) hE6988 hR6989 q6990 n'⟩
def F190 (f : Nat) (rc : Int → Int → Int → yM → Option ((Int ⊕ Nat) × yM)) (A : Nat) (x1 : Int) (x2 : Int) (m : yM) : Option ((Int ⊕ Nat) × yM) := (if 0 ≤ x1 ∧ x1 < ((40 : Nat) : Int) then (bL (yloop (fun (l : Int) ml => B190_13 f rc A x1 x2 (A + 20 + (x1).toNat) l ml) f 0 m) (fun l7009 m7015 => (some (.inl 0, m7015))) (fun r mr => some (r, mr))) else none)
set_option maxRecDepth 100000 in
theorem d190 {L : Nat} {xs : Nat → Int32} {k d n : Nat} {c : yS3} {f : Nat} {rc : Int → Int → Int → yM → Option ((Int ⊕ Nat) × yM)} {A : Nat} {x1 : Int} {x2 : Int} {m : yM} (hk : k ≤ f) (hrc : ∀ k', k' < k → ∀ {d' : Nat} {x1 x2 x3 : Int} {m' : yM} {n' : Nat}, rg x1 → rg x2 → rg x3 → RM c m' → PC (gZ L xs) k' d' 197 [.ref 169, yI x1, yI x2, yI x3] m' n' (qEI (fun e => e = 10 ∨ e = 11 ∨ e = 12 ∨ e = 13) c (rc x1 x2 x3 m'))) (hc : c.2.2 = pX A) (hA : (A = 256 ∨ A = 316)) (gx1 : rg x1) (gx2 : rg x2) (hR : RM c m) : PC (gZ L xs) k d 190 [.ref 169, yI x1, yI x2] m n (qEI (fun e => e = 10 ∨ e = 11 ∨ e = 12 ∨ e = 13) c (F190 f rc A x1 x2 m)) := by
  have hX : F190 f rc A x1 x2 m = F190 f rc A x1 x2 m := rfl
  have Hr : ∀ r m', F190 f rc A x1 x2 m = some (.inl r, m') → rg r → RM c m' → ∀ n' : Nat, (qEI (fun e => e = 10 ∨ e = 11 ∨ e = 12 ∨ e = 13) c (F190 f rc A x1 x2 m)) (.inl (some (yI r))) m' n' := fun r m' e h1 h2 n' => Or.inl ⟨r, rfl, h1, h2, e⟩
  have Ht : ∀ e m', F190 f rc A x1 x2 m = some (.inr e, m') → (fun e => e = 10 ∨ e = 11 ∨ e = 12 ∨ e = 13) e → RM c m' → ∀ x n' : Nat, (qEI (fun e => e = 10 ∨ e = 11 ∨ e = 12 ∨ e = 13) c (F190 f rc A x1 x2 m)) (.inr (e, x)) m' n' := fun e m' e1 h1 h2 x n' => Or.inr ⟨e, x, rfl, h1, h2, e1⟩
  refine PC.mk [some (.ref 169), some (yI x1), some (yI x2), none, none] kn190 rfl ?_
  refine p_aload 1 c190_0 rfl rfl ?_
  refine p_getV 4 (.ref A) c190_1 rfl kf169_4 (pX_of hA hR.2.2.2.2.2 hc) ?_
  refine p_getR 7 c190_4 rfl (kP_6 hA) ?_
  refine p_iload 8 c190_7 rfl rfl ?_
  refine p_aaX 9 c190_8 rfl (kPr_7 hA) gx1 (fun hx6964 => ?_)
  have hX6965 := hX.trans (if_pos hx6964)
  refine p_astore 10 c190_9 rfl rfl ?_
  refine p_iconst 11 c190_10 rfl ?_
  refine p_istore 13 c190_11 rfl rfl ?_
  refine PW.loop (K := k) (pce := 63) (fun (l : Int) ml => B190_13 f rc A x1 x2 (A + 20 + (x1).toNat) l ml) (fun (l : Int) j => [some (.ref 169), some (yI x1), some (yI x2), some (.ref (A + 20 + (x1).toNat)), some (yI l)]) (fun (l : Int) => rg l) (RM c) (fun (r' : (Int ⊕ Nat)) m' => (∀ v, r' = .inl v → rg v → RM c m' → ∀ n' : Nat, (qEI (fun e => e = 10 ∨ e = 11 ∨ e = 12 ∨ e = 13) c (F190 f rc A x1 x2 m)) (.inl (some (yI v))) m' n') ∧ (∀ e, r' = .inr e → (fun e => e = 10 ∨ e = 11 ∨ e = 12 ∨ e = 13) e → RM c m' → ∀ x n' : Nat, (qEI (fun e => e = 10 ∨ e = 11 ∨ e = 12 ∨ e = 13) c (F190 f rc A x1 x2 m)) (.inr (e, x)) m' n')) (fun k' hk' l j m' n' hl hI Hn' He' Hr' => tB190_13 (f := f) (by omega) (fun k' h' => hrc k' (by omega)) hc hA gx1 gx2 (kSr hA hx6964) hl hI (fun y0 m2 n2 e h0 hR2 => Hn' y0 (fun q => ([none, none, none, none, none] : List (Option Value)).getD q none) m2 n2 e h0 hR2) (fun y0 m2 n2 e h0 hR2 => He' y0 (fun q => ([none, none, none, none, none] : List (Option Value)).getD q none) m2 n2 e h0 hR2) (fun v m2 e => (Hr' (.inl v) m2 e).1 v rfl) (fun v m2 e => (Hr' (.inr v) m2 e).2 v rfl)) f k (by omega) (Nat.le_refl _) 0 (fun q => ([some (.ref 169), some (yI x1), some (yI x2), some (.ref (A + 20 + (x1).toNat)), some (yI 0)] : xL).getD q none) _ _ (rgD rfl) hR (fun l7009 j7012 m7015 n7014 e7011 hl7010 hR7016 k7013 hk7013 => ?_) (fun r' m' e' => ?_)
  · have hX7017 := hX6965.trans (bL_l e7011)
    refine p_iconst 64 c190_63 rfl ?_
    exact p_ireturn c190_64 (Hr _ _ hX7017 (rgD rfl) hR7016 _)
  · exact ⟨fun v hv => Hr v m' ((hX6965.trans (bL_r e')).trans (by rw [hv])), fun v hv => Ht v m' ((hX6965.trans (bL_r e')).trans (by rw [hv]))⟩
def F191 (f : Nat) (A : Nat) (x1 : Int) (m : yM) : Option ((Int ⊕ Nat) × yM) := (if x1 = (-1) then (some (.inr 11, m)) else (some (.inl (m (A + 8) (m 219 x1.toNat).toNat), m)))
set_option maxRecDepth 100000 in
theorem d191 {L : Nat} {xs : Nat → Int32} {k d n : Nat} {c : yS3} {f : Nat} {A : Nat} {x1 : Int} {m : yM} (hk : k ≤ f) (hc : c.2.2 = pX A) (hA : (A = 256 ∨ A = 316)) (gx1 : rg x1) (hR : RM c m) : PC (gZ L xs) k d 191 [.ref 169, yI x1] m n (qEI (fun e => e = 11) c (F191 f A x1 m)) := by
  have hX : F191 f A x1 m = F191 f A x1 m := rfl
  have Hr : ∀ r m', F191 f A x1 m = some (.inl r, m') → rg r → RM c m' → ∀ n' : Nat, (qEI (fun e => e = 11) c (F191 f A x1 m)) (.inl (some (yI r))) m' n' := fun r m' e h1 h2 n' => Or.inl ⟨r, rfl, h1, h2, e⟩
  have Ht : ∀ e m', F191 f A x1 m = some (.inr e, m') → (fun e => e = 11) e → RM c m' → ∀ x n' : Nat, (qEI (fun e => e = 11) c (F191 f A x1 m)) (.inr (e, x)) m' n' := fun e m' e1 h1 h2 x n' => Or.inr ⟨e, x, rfl, h1, h2, e1⟩
  refine PC.mk [some (.ref 169), some (yI x1)] kn191 rfl ?_
  refine p_iload 1 c191_0 rfl rfl ?_
  refine p_iconst 2 c191_1 rfl ?_
  refine p_icmp 13 5 c191_2 rfl rfl (yc_ne gx1 (rgD rfl)) (fun hb7048 k7049 hk7049 => ?_) (fun hb7048 k7050 hk7050 => ?_)
  · have hX7051 := hX.trans (if_neg hb7048)
    refine p_aload 14 c191_13 rfl rfl ?_
    refine p_getV 17 (.ref A) c191_14 rfl kf169_4 (pX_of hA hR.2.2.2.2.2 hc) ?_
    refine p_getR 20 c191_17 rfl (kP_7 hA) ?_
    refine p_aload 21 c191_20 rfl rfl ?_
    refine p_getR 24 c191_21 rfl kf169_1 ?_
    refine p_iload 25 c191_24 rfl rfl ?_
    refine p_iaX 26 (m 219 x1.toNat) c191_25 rfl ka219 gx1 rfl (fun hx7052 => ?_)
    refine p_iaX 27 (m (A + 8) (m 219 x1.toNat).toNat) c191_26 rfl (kPa_8 hA) (hR.rg _ _) rfl (fun hx7053 => ?_)
    exact p_ireturn c191_27 (Hr _ _ hX7051 (hR.rg _ _) hR _)
  · have hX7054 := hX.trans (if_pos (Classical.not_not.mp hb7048))
    exact p_throw c191_5 (fun x n' => Ht _ _ hX7054 rfl hR x n')
def F192 (f : Nat) (A : Nat) (x1 : Int) (x2 : Int) (m : yM) : Option ((Int ⊕ Nat) × yM) := (bT (F191 f A x1 m) (fun r7057 m7059 => (if F47 A r7057 x2 m7059 = 0 then (some (.inr 13, m7059)) else (some (.inl x1, m7059)))) (fun e' m7059 => (some (.inr e', m7059))))
set_option maxRecDepth 100000 in
theorem d192 {L : Nat} {xs : Nat → Int32} {k d n : Nat} {c : yS3} {f : Nat} {A : Nat} {x1 : Int} {x2 : Int} {m : yM} (hk : k ≤ f) (hc : c.2.2 = pX A) (hA : (A = 256 ∨ A = 316)) (gx1 : rg x1) (gx2 : rg x2) (hR : RM c m) : PC (gZ L xs) k d 192 [.ref 169, yI x1, yI x2] m n (qEI (fun e => e = 11 ∨ e = 13) c (F192 f A x1 x2 m)) := by
  have hX : F192 f A x1 x2 m = F192 f A x1 x2 m := rfl
  have Hr : ∀ r m', F192 f A x1 x2 m = some (.inl r, m') → rg r → RM c m' → ∀ n' : Nat, (qEI (fun e => e = 11 ∨ e = 13) c (F192 f A x1 x2 m)) (.inl (some (yI r))) m' n' := fun r m' e h1 h2 n' => Or.inl ⟨r, rfl, h1, h2, e⟩
  have Ht : ∀ e m', F192 f A x1 x2 m = some (.inr e, m') → (fun e => e = 11 ∨ e = 13) e → RM c m' → ∀ x n' : Nat, (qEI (fun e => e = 11 ∨ e = 13) c (F192 f A x1 x2 m)) (.inr (e, x)) m' n' := fun e m' e1 h1 h2 x n' => Or.inr ⟨e, x, rfl, h1, h2, e1⟩
  refine PC.mk [some (.ref 169), some (yI x1), some (yI x2)] kn192 rfl ?_
  refine p_aload 1 c192_0 rfl rfl ?_
  refine p_getV 4 (.ref A) c192_1 rfl kf169_4 (pX_of hA hR.2.2.2.2.2 hc) ?_
  refine p_aload 5 c192_4 rfl rfl ?_
  refine p_iload 6 c192_5 rfl rfl ?_
  refine p_cTI 9 [.ref 169, yI x1] [.ref A] c192_6 rfl rfl rfl (fun k' hk' d' => d191 (f := f) (by omega) hc hA gx1 hR) (fun r7057 m7059 hF7055 hg7056 hR7060 n7047 k7046 hk7046 => ?_) (fun e' q7064 m7059 n' hF7055 hE7062 hR7063 => ?_)
  · have hX7058 := hX.trans (bT_l hF7055)
    refine p_iload 10 c192_9 rfl rfl ?_
    refine p_cX 13 [.ref A, yI r7057, yI x2] [] c192_10 rfl rfl rfl (fun k' hk' d' => d47 hA hg7056 gx2 hR7060) (fun hg7067 n7066 k7065 hk7065 => ?_)
    refine p_if 24 16 c192_13 rfl rfl (yz_ne hg7067) (fun hb7068 k7069 hk7069 => ?_) (fun hb7068 k7070 hk7070 => ?_)
    · have hX7071 := hX7058.trans (if_neg hb7068)
      refine p_iload 25 c192_24 rfl rfl ?_
      exact p_ireturn c192_25 (Hr _ _ hX7071 gx1 hR7060 _)
    · have hX7072 := hX7058.trans (if_pos (Classical.not_not.mp hb7068))
      exact p_throw c192_16 (fun x n' => Ht _ _ hX7072 (Or.inr rfl) hR7060 x n')
  · exact ⟨fun pq hpq => absurd ((khm rfl).symm.trans hpq) (by simp), fun _ => Ht e' m7059 (hX.trans (bT_r hF7055)) (by have q := hE7062; simp only at q ⊢; omega) hR7063 q7064 n'⟩
def J193_137 (f : Nat) (rc : Int → Int → Int → yM → Option ((Int ⊕ Nat) × yM)) (A : Nat) (a1 : Nat) (x2 : Int) (a3 : Nat) (a6 : Nat) (a7 : Nat) (m : yM) : Option ((Unit ⊕ Nat) × yM) := (bT (rc (m a6 4) (m a6 5) (wr (x2 + 1)) m) (fun r7156 m7158 => (if m7158 a1 2 = (-1) then (some (.inl (), m7158)) else (bU (F188_48 f a3 (m7158 a1 2) (m7158 a7 (m7158 a6 2).toNat) m7158) (fun m7176 => (some (.inl (), m7176)))))) (fun e' m7158 => (some (.inr e', m7158))))
set_option maxRecDepth 100000 in
theorem tJ193_137 {L : Nat} {xs : Nat → Int32} {Q : xO → yM → Nat → Prop} {k d n : Nat} {c : yS3} {f : Nat} {rc : Int → Int → Int → yM → Option ((Int ⊕ Nat) × yM)} {A : Nat} {a1 : Nat} {x2 : Int} {a3 : Nat} {a6 : Nat} {a7 : Nat} {m : yM} {j4 j5 : Option Value} (hk : k ≤ f) (hrc : ∀ k', k' < k → ∀ {d' : Nat} {x1 x2 x3 : Int} {m' : yM} {n' : Nat}, rg x1 → rg x2 → rg x3 → RM c m' → PC (gZ L xs) k' d' 197 [.ref 169, yI x1, yI x2, yI x3] m' n' (qEI (fun e => e = 10 ∨ e = 11 ∨ e = 12 ∨ e = 13) c (rc x1 x2 x3 m'))) (hc : c.2.2 = pX A) (hA : (A = 256 ∨ A = 316)) (hs1 : (276 ≤ a1 ∧ a1 < 316) ∨ (336 ≤ a1 ∧ a1 < 376)) (gx2 : rg x2) (hr3 : yarr gSh 414 a3 = some (0, 48)) (hq3 : (252 ≤ a3 ∧ a3 < 256)) (hm6 : (266 ≤ a6 ∧ a6 < 276) ∨ (326 ≤ a6 ∧ a6 < 336)) (hr7 : yarr gSh 414 a7 = some (0, 48)) (hq7 : (252 ≤ a7 ∧ a7 < 256)) (hR : RM c m) (Hr : ∀ m', J193_137 f rc A a1 x2 a3 a6 a7 m = some (.inl (), m') → RM c m' → ∀ n', Q (.inl none) m' n') (Ht : ∀ e m', J193_137 f rc A a1 x2 a3 a6 a7 m = some (.inr e, m') → (fun e => e = 10 ∨ e = 11 ∨ e = 12 ∨ e = 13) e → RM c m' → ∀ x n', Q (.inr (e, x)) m' n') : PW (gZ L xs) k 193 d 137 [some (.ref 169), some (.ref a1), some (yI x2), some (.ref a3), j4, j5, some (.ref a6), some (.ref a7)] [] m n Q := by
  have hX : J193_137 f rc A a1 x2 a3 a6 a7 m = J193_137 f rc A a1 x2 a3 a6 a7 m := rfl
  refine p_aload 138 c193_137 rfl rfl ?_
  refine p_aload 140 c193_138 rfl rfl ?_
  refine p_getX 143 (m a6 4) c193_140 rfl (kM_4 hm6) rfl ?_
  refine p_aload 145 c193_143 rfl rfl ?_
  refine p_getX 148 (m a6 5) c193_145 rfl (kM_5 hm6) rfl ?_
  refine p_iload 149 c193_148 rfl rfl ?_
  refine p_iconst 150 c193_149 rfl ?_
  refine p_iadd 151 c193_150 rfl ?_
  refine p_cTI 154 [.ref 169, yI (m a6 4), yI (m a6 5), yI (wr (x2 + 1))] [] c193_151 rfl rfl rfl (fun k' hk' d' => hrc k' (by omega) (hR.rg _ _) (hR.rg _ _) (rg_wr _) hR) (fun r7156 m7158 hF7154 hg7155 hR7159 n7153 k7152 hk7152 => ?_) (fun e' q7163 m7158 n' hF7154 hE7161 hR7162 => ?_)
  · have hX7157 := hX.trans (bT_l hF7154)
    refine p_pop 155 c193_154 rfl rfl ?_
    refine p_aload 156 c193_155 rfl rfl ?_
    refine p_getX 159 (m7158 a1 2) c193_156 rfl (kS_2 hs1) rfl ?_
    refine p_iconst 160 c193_159 rfl ?_
    refine p_icmp 180 163 c193_160 rfl rfl (yc_eq (hR7159.rg _ _) (rgD rfl)) (fun hb7164 k7165 hk7165 => ?_) (fun hb7164 k7166 hk7166 => ?_)
    · have hX7167 := hX7157.trans (if_pos hb7164)
      exact p_return c193_180 (Hr _ hX7167 hR7159 _)
    · have hX7168 := hX7157.trans (if_neg hb7164)
      refine p_aload 164 c193_163 rfl rfl ?_
      refine p_aload 165 c193_164 rfl rfl ?_
      refine p_aload 166 c193_165 rfl rfl ?_
      refine p_getX 169 (m7158 a1 2) c193_166 rfl (kS_2 hs1) rfl ?_
      refine p_aload 171 c193_169 rfl rfl ?_
      refine p_aload 173 c193_171 rfl rfl ?_
      refine p_getX 176 (m7158 a6 2) c193_173 rfl (kM_2 hm6) rfl ?_
      refine p_iaX 177 (m7158 a7 (m7158 a6 2).toNat) c193_176 rfl hr7 (hR7159.rg _ _) rfl (fun hx7169 => ?_)
      refine p_cV 180 [.ref 169, .ref a3, yI (m7158 a1 2), yI (m7158 a7 (m7158 a6 2).toNat)] [] c193_177 rfl rfl rfl (fun k' hk' d' => d188_48 (f := f) (by omega) hr3 (by omega) (hR7159.rg _ _) (hR7159.rg _ _) hR7159) (fun m7176 hF7172 hR7177 n7171 k7170 hk7170 => ?_)
      have hX7175 := hX7168.trans (bU_s hF7172)
      exact p_return c193_180 (Hr _ hX7175 hR7177 _)
  · exact ⟨fun pq hpq => absurd ((khm rfl).symm.trans hpq) (by simp), fun _ => Ht e' m7158 (hX.trans (bT_r hF7154)) hE7161 hR7162 q7163 n'⟩
def J193_111 (f : Nat) (rc : Int → Int → Int → yM → Option ((Int ⊕ Nat) × yM)) (A : Nat) (a1 : Nat) (x2 : Int) (a3 : Nat) (a6 : Nat) (a7 : Nat) (m : yM) : Option ((Unit ⊕ Nat) × yM) := (if 1 < m a1 8 then (bU (F188_48 f a7 (F87 a6 1 m) (m a3 (m a1 10).toNat) m) (fun m7189 => (J193_137 f rc A a1 x2 a3 a6 a7 m7189))) else (J193_137 f rc A a1 x2 a3 a6 a7 m))
set_option maxRecDepth 100000 in
theorem tJ193_111 {L : Nat} {xs : Nat → Int32} {Q : xO → yM → Nat → Prop} {k d n : Nat} {c : yS3} {f : Nat} {rc : Int → Int → Int → yM → Option ((Int ⊕ Nat) × yM)} {A : Nat} {a1 : Nat} {x2 : Int} {a3 : Nat} {a6 : Nat} {a7 : Nat} {m : yM} {j4 j5 : Option Value} (hk : k ≤ f) (hrc : ∀ k', k' < k → ∀ {d' : Nat} {x1 x2 x3 : Int} {m' : yM} {n' : Nat}, rg x1 → rg x2 → rg x3 → RM c m' → PC (gZ L xs) k' d' 197 [.ref 169, yI x1, yI x2, yI x3] m' n' (qEI (fun e => e = 10 ∨ e = 11 ∨ e = 12 ∨ e = 13) c (rc x1 x2 x3 m'))) (hc : c.2.2 = pX A) (hA : (A = 256 ∨ A = 316)) (hs1 : (276 ≤ a1 ∧ a1 < 316) ∨ (336 ≤ a1 ∧ a1 < 376)) (gx2 : rg x2) (hr3 : yarr gSh 414 a3 = some (0, 48)) (hq3 : (252 ≤ a3 ∧ a3 < 256)) (hm6 : (266 ≤ a6 ∧ a6 < 276) ∨ (326 ≤ a6 ∧ a6 < 336)) (hr7 : yarr gSh 414 a7 = some (0, 48)) (hq7 : (252 ≤ a7 ∧ a7 < 256)) (hR : RM c m) (Hr : ∀ m', J193_111 f rc A a1 x2 a3 a6 a7 m = some (.inl (), m') → RM c m' → ∀ n', Q (.inl none) m' n') (Ht : ∀ e m', J193_111 f rc A a1 x2 a3 a6 a7 m = some (.inr e, m') → (fun e => e = 10 ∨ e = 11 ∨ e = 12 ∨ e = 13) e → RM c m' → ∀ x n', Q (.inr (e, x)) m' n') : PW (gZ L xs) k 193 d 111 [some (.ref 169), some (.ref a1), some (yI x2), some (.ref a3), j4, j5, some (.ref a6), some (.ref a7)] [] m n Q := by
  have hX : J193_111 f rc A a1 x2 a3 a6 a7 m = J193_111 f rc A a1 x2 a3 a6 a7 m := rfl
  refine p_aload 112 c193_111 rfl rfl ?_
  refine p_getX 115 (m a1 8) c193_112 rfl (kS_8 hs1) rfl ?_
  refine p_iconst 116 c193_115 rfl ?_
  refine p_icmp 137 119 c193_116 rfl rfl ((yc_le (hR.rg _ _) (rgD rfl)).trans Int.not_lt.symm) (fun hb7148 k7149 hk7149 => ?_) (fun hb7148 k7150 hk7150 => ?_)
  · have hX7151 := hX.trans (if_neg hb7148)
    exact tJ193_137 (f := f) (by omega) (fun k' h' => hrc k' (by omega)) hc hA hs1 gx2 hr3 (by omega) hm6 hr7 (by omega) hR (fun m' e' => Hr m' (hX7151.trans e')) (fun r' m' e' => Ht r' m' (hX7151.trans e'))
  · have hX7178 := hX.trans (if_pos (Classical.not_not.mp hb7148))
    refine p_aload 120 c193_119 rfl rfl ?_
    refine p_aload 122 c193_120 rfl rfl ?_
    refine p_aload 124 c193_122 rfl rfl ?_
    refine p_iconst 125 c193_124 rfl ?_
    refine p_cX 128 [.ref a6, yI 1] [.ref a7, .ref 169] c193_125 rfl rfl rfl (fun k' hk' d' => d87 hm6 (rgD rfl) hR) (fun hg7181 n7180 k7179 hk7179 => ?_)
    refine p_aload 129 c193_128 rfl rfl ?_
    refine p_aload 130 c193_129 rfl rfl ?_
    refine p_getX 133 (m a1 10) c193_130 rfl (kS_10 hs1) rfl ?_
    refine p_iaX 134 (m a3 (m a1 10).toNat) c193_133 rfl hr3 (hR.rg _ _) rfl (fun hx7182 => ?_)
    refine p_cV 137 [.ref 169, .ref a7, yI (F87 a6 1 m), yI (m a3 (m a1 10).toNat)] [] c193_134 rfl rfl rfl (fun k' hk' d' => d188_48 (f := f) (by omega) hr7 (by omega) hg7181 (hR.rg _ _) hR) (fun m7189 hF7185 hR7190 n7184 k7183 hk7183 => ?_)
    have hX7188 := hX7178.trans (bU_s hF7185)
    exact tJ193_137 (f := f) (by omega) (fun k' h' => hrc k' (by omega)) hc hA hs1 gx2 hr3 (by omega) hm6 hr7 (by omega) hR7190 (fun m' e' => Hr m' (hX7188.trans e')) (fun r' m' e' => Ht r' m' (hX7188.trans e'))
def F193 (f : Nat) (rc : Int → Int → Int → yM → Option ((Int ⊕ Nat) × yM)) (A : Nat) (a1 : Nat) (x2 : Int) (m : yM) : Option ((Unit ⊕ Nat) × yM) := (if 0 ≤ x2 ∧ x2 < ((4 : Nat) : Int) then (bT (F191 f A (m (252 + (x2).toNat) (m a1 3).toNat) m) (fun r7100 m7102 => (bP (F72 f A r7100 (m7102 a1 4) (m7102 a1 8) m7102) (fun r7112 => (if r7112 = (-1) then (some (.inr 13, m7102)) else (if 0 ≤ r7112 ∧ r7112 < ((10 : Nat) : Int) then (bT (F187 f (wr (x2 + 1)) m7102) (fun r7124 m7126 => (if 252 ≤ r7124 ∧ r7124 < 256 then (bU (F188_48 f r7124 (F57 (A + 10 + (r7112).toNat) m7126) (m (252 + (x2).toNat) (m a1 3).toNat) m7126) (fun m7142 => (if 0 < m7142 a1 8 then (bU (F188_48 f r7124 (F87 (A + 10 + (r7112).toNat) 0 m7142) (m7142 (252 + (x2).toNat) (m7142 a1 9).toNat) m7142) (fun m7202 => (J193_111 f rc A a1 x2 (252 + (x2).toNat) (A + 10 + (r7112).toNat) r7124 m7202))) else (J193_111 f rc A a1 x2 (252 + (x2).toNat) (A + 10 + (r7112).toNat) r7124 m7142)))) else none)) (fun e' m7126 => (some (.inr e', m7126)))) else none))))) (fun e' m7102 => (some (.inr e', m7102)))) else none)
set_option maxRecDepth 100000 in
theorem d193 {L : Nat} {xs : Nat → Int32} {k d n : Nat} {c : yS3} {f : Nat} {rc : Int → Int → Int → yM → Option ((Int ⊕ Nat) × yM)} {A : Nat} {a1 : Nat} {x2 : Int} {m : yM} (hk : k ≤ f) (hrc : ∀ k', k' < k → ∀ {d' : Nat} {x1 x2 x3 : Int} {m' : yM} {n' : Nat}, rg x1 → rg x2 → rg x3 → RM c m' → PC (gZ L xs) k' d' 197 [.ref 169, yI x1, yI x2, yI x3] m' n' (qEI (fun e => e = 10 ∨ e = 11 ∨ e = 12 ∨ e = 13) c (rc x1 x2 x3 m'))) (hc : c.2.2 = pX A) (hA : (A = 256 ∨ A = 316)) (hs1 : (276 ≤ a1 ∧ a1 < 316) ∨ (336 ≤ a1 ∧ a1 < 376)) (gx2 : rg x2) (hR : RM c m) : PC (gZ L xs) k d 193 [.ref 169, .ref a1, yI x2] m n (qEV (fun e => e = 10 ∨ e = 11 ∨ e = 12 ∨ e = 13) c (F193 f rc A a1 x2 m)) := by
  have hX : F193 f rc A a1 x2 m = F193 f rc A a1 x2 m := rfl
  have Hr : ∀ m', F193 f rc A a1 x2 m = some (.inl (), m') → RM c m' → ∀ n' : Nat, (qEV (fun e => e = 10 ∨ e = 11 ∨ e = 12 ∨ e = 13) c (F193 f rc A a1 x2 m)) (.inl none) m' n' := fun m' e h n' => Or.inl ⟨rfl, h, e⟩
  have Ht : ∀ e m', F193 f rc A a1 x2 m = some (.inr e, m') → (fun e => e = 10 ∨ e = 11 ∨ e = 12 ∨ e = 13) e → RM c m' → ∀ x n' : Nat, (qEV (fun e => e = 10 ∨ e = 11 ∨ e = 12 ∨ e = 13) c (F193 f rc A a1 x2 m)) (.inr (e, x)) m' n' := fun e m' e1 h1 h2 x n' => Or.inr ⟨e, x, rfl, h1, h2, e1⟩
  refine PC.mk [some (.ref 169), some (.ref a1), some (yI x2), none, none, none, none, none] kn193 rfl ?_
  refine p_aload 1 c193_0 rfl rfl ?_
  refine p_getR 4 c193_1 rfl kf169_3 ?_
  refine p_iload 5 c193_4 rfl rfl ?_
  refine p_aaX 6 c193_5 rfl kr251 gx2 (fun hx7093 => ?_)
  have hX7094 := hX.trans (if_pos hx7093)
  refine p_astore 7 c193_6 rfl rfl ?_
  refine p_aload 8 c193_7 rfl rfl ?_
  refine p_aload 9 c193_8 rfl rfl ?_
  refine p_getX 12 (m a1 3) c193_9 rfl (kS_3 hs1) rfl ?_
  refine p_iaX 13 (m (252 + (x2).toNat) (m a1 3).toNat) c193_12 rfl (kR251 hx7093) (hR.rg _ _) rfl (fun hx7095 => ?_)
  refine p_istore 15 c193_13 rfl rfl ?_
  refine p_aload 16 c193_15 rfl rfl ?_
  refine p_getV 19 (.ref A) c193_16 rfl kf169_4 (pX_of hA hR.2.2.2.2.2 hc) ?_
  refine p_aload 20 c193_19 rfl rfl ?_
  refine p_iload 22 c193_20 rfl rfl ?_
  refine p_cTI 25 [.ref 169, yI (m (252 + (x2).toNat) (m a1 3).toNat)] [.ref A] c193_22 rfl rfl rfl (fun k' hk' d' => d191 (f := f) (by omega) hc hA (hR.rg _ _) hR) (fun r7100 m7102 hF7098 hg7099 hR7103 n7097 k7096 hk7096 => ?_) (fun e' q7107 m7102 n' hF7098 hE7105 hR7106 => ?_)
  · have hX7101 := hX7094.trans (bT_l hF7098)
    refine p_aload 26 c193_25 rfl rfl ?_
    refine p_getX 29 (m7102 a1 4) c193_26 rfl (kS_4 hs1) rfl ?_
    refine p_aload 30 c193_29 rfl rfl ?_
    refine p_getX 33 (m7102 a1 8) c193_30 rfl (kS_8 hs1) rfl ?_
    refine p_cO 36 [.ref A, yI r7100, yI (m7102 a1 4), yI (m7102 a1 8)] [] c193_33 rfl rfl rfl (fun k' hk' d' => d72 (f := f) (by omega) hA hg7099 (hR7103.rg _ _) (hR7103.rg _ _) hR7103) (fun r7112 hF7110 hg7111 n7109 k7108 hk7108 => ?_)
    have hX7113 := hX7101.trans (bP_s hF7110)
    refine p_istore 38 c193_36 rfl rfl ?_
    refine p_iload 40 c193_38 rfl rfl ?_
    refine p_iconst 41 c193_40 rfl ?_
    refine p_icmp 52 44 c193_41 rfl rfl (yc_ne hg7111 (rgD rfl)) (fun hb7114 k7115 hk7115 => ?_) (fun hb7114 k7116 hk7116 => ?_)
    · have hX7117 := hX7113.trans (if_neg hb7114)
      refine p_aload 53 c193_52 rfl rfl ?_
      refine p_getV 56 (.ref A) c193_53 rfl kf169_4 (pX_of hA hR7103.2.2.2.2.2 hc) ?_
      refine p_getR 59 c193_56 rfl (kP_5 hA) ?_
      refine p_iload 61 c193_59 rfl rfl ?_
      refine p_aaX 62 c193_61 rfl (kPr_6 hA) hg7111 (fun hx7118 => ?_)
      have hX7119 := hX7117.trans (if_pos hx7118)
      refine p_astore 64 c193_62 rfl rfl ?_
      refine p_aload 65 c193_64 rfl rfl ?_
      refine p_iload 66 c193_65 rfl rfl ?_
      refine p_iconst 67 c193_66 rfl ?_
      refine p_iadd 68 c193_67 rfl ?_
      refine p_cTA 71 [.ref 169, yI (wr (x2 + 1))] [] c193_68 rfl rfl rfl (fun k' hk' d' => d187 (f := f) (by omega) (rg_wr _) hR7103) (fun r7124 m7126 hF7122 hg7123 hR7127 n7121 k7120 hk7120 => ?_) (fun e' q7131 m7126 n' hF7122 hE7129 hR7130 => ?_)
      · have hX7125 := hX7119.trans (bT_l hF7122)
        have := hg7123.2
        have hX7132 := hX7125.trans (if_pos hg7123.2)
        refine p_astore 73 c193_71 rfl rfl ?_
        refine p_aload 74 c193_73 rfl rfl ?_
        refine p_aload 76 c193_74 rfl rfl ?_
        refine p_aload 78 c193_76 rfl rfl ?_
        refine p_cX 81 [.ref (A + 10 + (r7112).toNat)] [.ref r7124, .ref 169] c193_78 rfl rfl rfl (fun k' hk' d' => d57 (kMr hA hx7118) hR7127) (fun hg7135 n7134 k7133 hk7133 => ?_)
        refine p_iload 83 c193_81 rfl rfl ?_
        refine p_cV 86 [.ref 169, .ref r7124, yI (F57 (A + 10 + (r7112).toNat) m7126), yI (m (252 + (x2).toNat) (m a1 3).toNat)] [] c193_83 rfl rfl rfl (fun k' hk' d' => d188_48 (f := f) (by omega) hg7123.1 (by omega) hg7135 (hR.rg _ _) hR7127) (fun m7142 hF7138 hR7143 n7137 k7136 hk7136 => ?_)
        have hX7141 := hX7132.trans (bU_s hF7138)
        refine p_aload 87 c193_86 rfl rfl ?_
        refine p_getX 90 (m7142 a1 8) c193_87 rfl (kS_8 hs1) rfl ?_
        refine p_if 111 93 c193_90 rfl rfl ((yz_le (hR7143.rg _ _)).trans Int.not_lt.symm) (fun hb7144 k7145 hk7145 => ?_) (fun hb7144 k7146 hk7146 => ?_)
        · have hX7147 := hX7141.trans (if_neg hb7144)
          exact tJ193_111 (f := f) (by omega) (fun k' h' => hrc k' (by omega)) hc hA hs1 gx2 (kR251 hx7093) (by omega) (kMr hA hx7118) hg7123.1 (by omega) hR7143 (fun m' e' => Hr m' (hX7147.trans e')) (fun r' m' e' => Ht r' m' (hX7147.trans e'))
        · have hX7191 := hX7141.trans (if_pos (Classical.not_not.mp hb7144))
          refine p_aload 94 c193_93 rfl rfl ?_
          refine p_aload 96 c193_94 rfl rfl ?_
          refine p_aload 98 c193_96 rfl rfl ?_
          refine p_iconst 99 c193_98 rfl ?_
          refine p_cX 102 [.ref (A + 10 + (r7112).toNat), yI 0] [.ref r7124, .ref 169] c193_99 rfl rfl rfl (fun k' hk' d' => d87 (kMr hA hx7118) (rgD rfl) hR7143) (fun hg7194 n7193 k7192 hk7192 => ?_)
          refine p_aload 103 c193_102 rfl rfl ?_
          refine p_aload 104 c193_103 rfl rfl ?_
          refine p_getX 107 (m7142 a1 9) c193_104 rfl (kS_9 hs1) rfl ?_
          refine p_iaX 108 (m7142 (252 + (x2).toNat) (m7142 a1 9).toNat) c193_107 rfl (kR251 hx7093) (hR7143.rg _ _) rfl (fun hx7195 => ?_)
          refine p_cV 111 [.ref 169, .ref r7124, yI (F87 (A + 10 + (r7112).toNat) 0 m7142), yI (m7142 (252 + (x2).toNat) (m7142 a1 9).toNat)] [] c193_108 rfl rfl rfl (fun k' hk' d' => d188_48 (f := f) (by omega) hg7123.1 (by omega) hg7194 (hR7143.rg _ _) hR7143) (fun m7202 hF7198 hR7203 n7197 k7196 hk7196 => ?_)
          have hX7201 := hX7191.trans (bU_s hF7198)
          exact tJ193_111 (f := f) (by omega) (fun k' h' => hrc k' (by omega)) hc hA hs1 gx2 (kR251 hx7093) (by omega) (kMr hA hx7118) hg7123.1 (by omega) hR7203 (fun m' e' => Hr m' (hX7201.trans e')) (fun r' m' e' => Ht r' m' (hX7201.trans e'))
      · exact ⟨fun pq hpq => absurd ((khm rfl).symm.trans hpq) (by simp), fun _ => Ht e' m7126 (hX7119.trans (bT_r hF7122)) (by have q := hE7129; simp only at q ⊢; omega) hR7130 q7131 n'⟩
    · have hX7204 := hX7113.trans (if_pos (Classical.not_not.mp hb7114))
      exact p_throw c193_44 (fun x n' => Ht _ _ hX7204 (Or.inr (Or.inr (Or.inr rfl))) hR7103 x n')
  · exact ⟨fun pq hpq => absurd ((khm rfl).symm.trans hpq) (by simp), fun _ => Ht e' m7102 (hX7094.trans (bT_r hF7098)) (by have q := hE7105; simp only at q ⊢; omega) hR7106 q7107 n'⟩
def F194 (f : Nat) (A : Nat) (x1 : Int) (x2 : Int) (m : yM) : Option ((Int ⊕ Nat) × yM) := (if x2 = (-1) then (some (.inl x2, m)) else (bT (F191 f A x2 m) (fun r7250 m7252 => (bP (F81 f A r7250 x1 m7252) (fun r7262 => (if r7262 = 0 then (some (.inr 12, m7252)) else (some (.inl x2, m7252)))))) (fun e' m7252 => (some (.inr e', m7252)))))
set_option maxRecDepth 100000 in
theorem d194 {L : Nat} {xs : Nat → Int32} {k d n : Nat} {c : yS3} {f : Nat} {A : Nat} {x1 : Int} {x2 : Int} {m : yM} (hk : k ≤ f) (hc : c.2.2 = pX A) (hA : (A = 256 ∨ A = 316)) (gx1 : rg x1) (gx2 : rg x2) (hR : RM c m) : PC (gZ L xs) k d 194 [.ref 169, yI x1, yI x2] m n (qEI (fun e => e = 11 ∨ e = 12) c (F194 f A x1 x2 m)) := by
  have hX : F194 f A x1 x2 m = F194 f A x1 x2 m := rfl
  have Hr : ∀ r m', F194 f A x1 x2 m = some (.inl r, m') → rg r → RM c m' → ∀ n' : Nat, (qEI (fun e => e = 11 ∨ e = 12) c (F194 f A x1 x2 m)) (.inl (some (yI r))) m' n' := fun r m' e h1 h2 n' => Or.inl ⟨r, rfl, h1, h2, e⟩
  have Ht : ∀ e m', F194 f A x1 x2 m = some (.inr e, m') → (fun e => e = 11 ∨ e = 12) e → RM c m' → ∀ x n' : Nat, (qEI (fun e => e = 11 ∨ e = 12) c (F194 f A x1 x2 m)) (.inr (e, x)) m' n' := fun e m' e1 h1 h2 x n' => Or.inr ⟨e, x, rfl, h1, h2, e1⟩
  refine PC.mk [some (.ref 169), some (yI x1), some (yI x2)] kn194 rfl ?_
  refine p_iload 1 c194_0 rfl rfl ?_
  refine p_iconst 2 c194_1 rfl ?_
  refine p_icmp 29 5 c194_2 rfl rfl (yc_eq gx2 (rgD rfl)) (fun hb7241 k7242 hk7242 => ?_) (fun hb7241 k7243 hk7243 => ?_)
  · have hX7244 := hX.trans (if_pos hb7241)
    refine p_iload 30 c194_29 rfl rfl ?_
    exact p_ireturn c194_30 (Hr _ _ hX7244 gx2 hR _)
  · have hX7245 := hX.trans (if_neg hb7241)
    refine p_aload 6 c194_5 rfl rfl ?_
    refine p_getV 9 (.ref A) c194_6 rfl kf169_4 (pX_of hA hR.2.2.2.2.2 hc) ?_
    refine p_aload 10 c194_9 rfl rfl ?_
    refine p_iload 11 c194_10 rfl rfl ?_
    refine p_cTI 14 [.ref 169, yI x2] [.ref A] c194_11 rfl rfl rfl (fun k' hk' d' => d191 (f := f) (by omega) hc hA gx2 hR) (fun r7250 m7252 hF7248 hg7249 hR7253 n7247 k7246 hk7246 => ?_) (fun e' q7257 m7252 n' hF7248 hE7255 hR7256 => ?_)
    · have hX7251 := hX7245.trans (bT_l hF7248)
      refine p_iload 15 c194_14 rfl rfl ?_
      refine p_cO 18 [.ref A, yI r7250, yI x1] [] c194_15 rfl rfl rfl (fun k' hk' d' => d81 (f := f) (by omega) hA hg7249 gx1 hR7253) (fun r7262 hF7260 hg7261 n7259 k7258 hk7258 => ?_)
      have hX7263 := hX7251.trans (bP_s hF7260)
      refine p_if 29 21 c194_18 rfl rfl (yz_ne hg7261) (fun hb7264 k7265 hk7265 => ?_) (fun hb7264 k7266 hk7266 => ?_)
      · have hX7267 := hX7263.trans (if_neg hb7264)
        refine p_iload 30 c194_29 rfl rfl ?_
        exact p_ireturn c194_30 (Hr _ _ hX7267 gx2 hR7253 _)
      · have hX7268 := hX7263.trans (if_pos (Classical.not_not.mp hb7264))
        exact p_throw c194_21 (fun x n' => Ht _ _ hX7268 (Or.inr rfl) hR7253 x n')
    · exact ⟨fun pq hpq => absurd ((khm rfl).symm.trans hpq) (by simp), fun _ => Ht e' m7252 (hX7245.trans (bT_r hF7248)) (by have q := hE7255; simp only at q ⊢; omega) hR7256 q7257 n'⟩
def F195_48 (f : Nat) (A : Nat) (a1 : Nat) (a2 : Nat) (m : yM) : Option ((Int ⊕ Nat) × yM) := (if m a1 0 = 5 then (bT (F186 f (m a1 6) m) (fun r7224 m7226 => (some (.inl r7224, m7226))) (fun e' m7226 => (some (.inr e', m7226)))) else (if m a1 0 = 6 then (some (.inl ((-1)), m)) else (if m a1 0 = 7 then (bT (F194 f A (m a1 7) (m a2 (m a1 3).toNat) m) (fun r7271 m7273 => (some (.inl r7271, m7273))) (fun e' m7273 => (some (.inr e', m7273)))) else (if m a1 0 = 8 then (some (.inl (m a2 (m a1 3).toNat), m)) else (if m a1 0 = 9 then (bT (F192 f A (m a2 (m a1 3).toNat) (m a1 6) m) (fun r7291 m7293 => (if 0 ≤ r7291 ∧ r7291 < ((30 : Nat) : Int) then (some (.inl (m7293 (221 + (r7291).toNat) (m7293 a1 6).toNat), m7293)) else none)) (fun e' m7293 => (some (.inr e', m7293)))) else (some (.inl ((-1)), m)))))))
set_option maxRecDepth 100000 in
theorem d195_48 {L : Nat} {xs : Nat → Int32} {k d n : Nat} {c : yS3} {f : Nat} {A : Nat} {a1 : Nat} {a2 : Nat} {m : yM} (hk : k ≤ f) (hc : c.2.2 = pX A) (hA : (A = 256 ∨ A = 316)) (hs1 : (276 ≤ a1 ∧ a1 < 316) ∨ (336 ≤ a1 ∧ a1 < 376)) (hr2 : yarr gSh 414 a2 = some (0, 48)) (hq2 : (252 ≤ a2 ∧ a2 < 256)) (hR : RM c m) : PC (gZ L xs) k d 195 [.ref 169, .ref a1, .ref a2] m n (qEI (fun e => e = 10 ∨ e = 11 ∨ e = 12 ∨ e = 13) c (F195_48 f A a1 a2 m)) := by
  have hX : F195_48 f A a1 a2 m = F195_48 f A a1 a2 m := rfl
  have Hr : ∀ r m', F195_48 f A a1 a2 m = some (.inl r, m') → rg r → RM c m' → ∀ n' : Nat, (qEI (fun e => e = 10 ∨ e = 11 ∨ e = 12 ∨ e = 13) c (F195_48 f A a1 a2 m)) (.inl (some (yI r))) m' n' := fun r m' e h1 h2 n' => Or.inl ⟨r, rfl, h1, h2, e⟩
  have Ht : ∀ e m', F195_48 f A a1 a2 m = some (.inr e, m') → (fun e => e = 10 ∨ e = 11 ∨ e = 12 ∨ e = 13) e → RM c m' → ∀ x n' : Nat, (qEI (fun e => e = 10 ∨ e = 11 ∨ e = 12 ∨ e = 13) c (F195_48 f A a1 a2 m)) (.inr (e, x)) m' n' := fun e m' e1 h1 h2 x n' => Or.inr ⟨e, x, rfl, h1, h2, e1⟩
  refine PC.mk [some (.ref 169), some (.ref a1), some (.ref a2)] kn195 rfl ?_
  refine p_aload 1 c195_0 rfl rfl ?_
  refine p_getX 4 (m a1 0) c195_1 rfl (kS_0 hs1) rfl ?_
  by_cases hk7218 : m a1 0 = 5
  · have hX7219 := hX.trans (if_pos hk7218)
    refine p_top 5 hk7218 ?_
    refine p_tsw 40 c195_4 (rgD rfl) (by decide) rfl rfl ?_
    refine p_aload 41 c195_40 rfl rfl ?_
    refine p_aload 42 c195_41 rfl rfl ?_
    refine p_getX 45 (m a1 6) c195_42 rfl (kS_6 hs1) rfl ?_
    refine p_cTI 48 [.ref 169, yI (m a1 6)] [] c195_45 rfl rfl rfl (fun k' hk' d' => d186 (f := f) (by omega) (hR.rg _ _) hR) (fun r7224 m7226 hF7222 hg7223 hR7227 n7221 k7220 hk7220 => ?_) (fun e' q7231 m7226 n' hF7222 hE7229 hR7230 => ?_)
    · have hX7225 := hX7219.trans (bT_l hF7222)
      exact p_ireturn c195_48 (Hr _ _ hX7225 hg7223 hR7227 _)
    · exact ⟨fun pq hpq => absurd ((khm rfl).symm.trans hpq) (by simp), fun _ => Ht e' m7226 (hX7219.trans (bT_r hF7222)) (by have q := hE7229; simp only at q ⊢; omega) hR7230 q7231 n'⟩
  have hX7232 := hX.trans (if_neg hk7218)
  by_cases hk7233 : m a1 0 = 6
  · have hX7234 := hX7232.trans (if_pos hk7233)
    refine p_top 6 hk7233 ?_
    refine p_tsw 96 c195_4 (rgD rfl) (by decide) rfl rfl ?_
    refine p_iconst 97 c195_96 rfl ?_
    exact p_ireturn c195_97 (Hr _ _ hX7234 (rgD rfl) hR _)
  have hX7235 := hX7232.trans (if_neg hk7233)
  by_cases hk7236 : m a1 0 = 7
  · have hX7237 := hX7235.trans (if_pos hk7236)
    refine p_top 7 hk7236 ?_
    refine p_tsw 49 c195_4 (rgD rfl) (by decide) rfl rfl ?_
    refine p_aload 50 c195_49 rfl rfl ?_
    refine p_aload 51 c195_50 rfl rfl ?_
    refine p_getX 54 (m a1 7) c195_51 rfl (kS_7 hs1) rfl ?_
    refine p_aload 55 c195_54 rfl rfl ?_
    refine p_aload 56 c195_55 rfl rfl ?_
    refine p_getX 59 (m a1 3) c195_56 rfl (kS_3 hs1) rfl ?_
    refine p_iaX 60 (m a2 (m a1 3).toNat) c195_59 rfl hr2 (hR.rg _ _) rfl (fun hx7238 => ?_)
    refine p_cTI 63 [.ref 169, yI (m a1 7), yI (m a2 (m a1 3).toNat)] [] c195_60 rfl rfl rfl (fun k' hk' d' => d194 (f := f) (by omega) hc hA (hR.rg _ _) (hR.rg _ _) hR) (fun r7271 m7273 hF7269 hg7270 hR7274 n7240 k7239 hk7239 => ?_) (fun e' q7278 m7273 n' hF7269 hE7276 hR7277 => ?_)
    · have hX7272 := hX7237.trans (bT_l hF7269)
      exact p_ireturn c195_63 (Hr _ _ hX7272 hg7270 hR7274 _)
    · exact ⟨fun pq hpq => absurd ((khm rfl).symm.trans hpq) (by simp), fun _ => Ht e' m7273 (hX7237.trans (bT_r hF7269)) (by have q := hE7276; simp only at q ⊢; omega) hR7277 q7278 n'⟩
  have hX7279 := hX7235.trans (if_neg hk7236)
  by_cases hk7280 : m a1 0 = 8
  · have hX7281 := hX7279.trans (if_pos hk7280)
    refine p_top 8 hk7280 ?_
    refine p_tsw 64 c195_4 (rgD rfl) (by decide) rfl rfl ?_
    refine p_aload 65 c195_64 rfl rfl ?_
    refine p_aload 66 c195_65 rfl rfl ?_
    refine p_getX 69 (m a1 3) c195_66 rfl (kS_3 hs1) rfl ?_
    refine p_iaX 70 (m a2 (m a1 3).toNat) c195_69 rfl hr2 (hR.rg _ _) rfl (fun hx7282 => ?_)
    exact p_ireturn c195_70 (Hr _ _ hX7281 (hR.rg _ _) hR _)
  have hX7283 := hX7279.trans (if_neg hk7280)
  by_cases hk7284 : m a1 0 = 9
  · have hX7285 := hX7283.trans (if_pos hk7284)
    refine p_top 9 hk7284 ?_
    refine p_tsw 71 c195_4 (rgD rfl) (by decide) rfl rfl ?_
    refine p_aload 72 c195_71 rfl rfl ?_
    refine p_getR 75 c195_72 rfl kf169_2 ?_
    refine p_aload 76 c195_75 rfl rfl ?_
    refine p_aload 77 c195_76 rfl rfl ?_
    refine p_aload 78 c195_77 rfl rfl ?_
    refine p_getX 81 (m a1 3) c195_78 rfl (kS_3 hs1) rfl ?_
    refine p_iaX 82 (m a2 (m a1 3).toNat) c195_81 rfl hr2 (hR.rg _ _) rfl (fun hx7286 => ?_)
    refine p_aload 83 c195_82 rfl rfl ?_
    refine p_getX 86 (m a1 6) c195_83 rfl (kS_6 hs1) rfl ?_
    refine p_cTI 89 [.ref 169, yI (m a2 (m a1 3).toNat), yI (m a1 6)] [.ref 220] c195_86 rfl rfl rfl (fun k' hk' d' => d192 (f := f) (by omega) hc hA (hR.rg _ _) (hR.rg _ _) hR) (fun r7291 m7293 hF7289 hg7290 hR7294 n7288 k7287 hk7287 => ?_) (fun e' q7298 m7293 n' hF7289 hE7296 hR7297 => ?_)
    · have hX7292 := hX7285.trans (bT_l hF7289)
      refine p_aaX 90 c195_89 rfl kr220 hg7290 (fun hx7299 => ?_)
      have hX7300 := hX7292.trans (if_pos hx7299)
      refine p_aload 91 c195_90 rfl rfl ?_
      refine p_getX 94 (m7293 a1 6) c195_91 rfl (kS_6 hs1) rfl ?_
      refine p_iaX 95 (m7293 (221 + (r7291).toNat) (m7293 a1 6).toNat) c195_94 rfl (kR220 hx7299) (hR7294.rg _ _) rfl (fun hx7301 => ?_)
      exact p_ireturn c195_95 (Hr _ _ hX7300 (hR7294.rg _ _) hR7294 _)
    · exact ⟨fun pq hpq => absurd ((khm rfl).symm.trans hpq) (by simp), fun _ => Ht e' m7293 (hX7285.trans (bT_r hF7289)) (by have q := hE7296; simp only at q ⊢; omega) hR7297 q7298 n'⟩
  have hX7302 := hX7283.trans (if_neg hk7284)
  refine p_tswd 96 c195_4 (hR.rg _ _) (by omega) rfl ?_
  refine p_iconst 97 c195_96 rfl ?_
  exact p_ireturn c195_97 (Hr _ _ hX7302 (rgD rfl) hR _)
def F196 (f : Nat) (rc : Int → Int → Int → yM → Option ((Int ⊕ Nat) × yM)) (A : Nat) (x1 : Int) (x2 : Int) (m : yM) : Option ((Int ⊕ Nat) × yM) := (bT (F189 f m) (fun _ m6917 => (if 0 ≤ x1 ∧ x1 < ((40 : Nat) : Int) then (if 0 ≤ x2 ∧ x2 < ((4 : Nat) : Int) then (if m6917 (A + 20 + (x1).toNat) 0 = 0 then (if m6917 (252 + (x2).toNat) (m6917 (A + 20 + (x1).toNat) 3).toNat = (-1) then (bT (rc (m6917 (A + 20 + (x1).toNat) 11) (m6917 (A + 20 + (x1).toNat) 12) x2 m6917) (fun r6938 m6940 => (some (.inl r6938, m6940))) (fun e' m6940 => (some (.inr e', m6940)))) else (bT (rc (wr (x1 + 1)) (m6917 (A + 20 + (x1).toNat) 11) x2 m6917) (fun r6951 m6953 => (some (.inl r6951, m6953))) (fun e' m6953 => (some (.inr e', m6953))))) else (if m6917 (A + 20 + (x1).toNat) 0 = 1 then (bT (F190 f rc A x1 x2 m6917) (fun r7020 m7022 => (some (.inl r7020, m7022))) (fun e' m7022 => (some (.inr e', m7022)))) else (if m6917 (A + 20 + (x1).toNat) 0 = 2 then (bU (F188_48 f (252 + (x2).toNat) (m6917 (A + 20 + (x1).toNat) 2) (m6917 (252 + (x2).toNat) (m6917 (A + 20 + (x1).toNat) 3).toNat) m6917) (fun m7038 => (some (.inl 1, m7038)))) else (if m6917 (A + 20 + (x1).toNat) 0 = 3 then (bT (F192 f A (m6917 (252 + (x2).toNat) (m6917 (A + 20 + (x1).toNat) 2).toNat) (m6917 (A + 20 + (x1).toNat) 6) m6917) (fun r7075 m7077 => (if 0 ≤ r7075 ∧ r7075 < ((30 : Nat) : Int) then (some (.inl 0, yup m7077 (221 + (r7075).toNat) (m7077 (A + 20 + (x1).toNat) 6).toNat (m7077 (252 + (x2).toNat) (m7077 (A + 20 + (x1).toNat) 3).toNat))) else none)) (fun e' m7077 => (some (.inr e', m7077)))) else (if m6917 (A + 20 + (x1).toNat) 0 = 4 then (bT (F193 f rc A (A + 20 + (x1).toNat) x2 m6917) (fun _ m7209 => (some (.inl 0, m7209))) (fun e' m7209 => (some (.inr e', m7209)))) else (bT (F195_48 f A (A + 20 + (x1).toNat) (252 + (x2).toNat) m6917) (fun r7305 m7307 => (bU (F188_48 f (252 + (x2).toNat) (m6917 (A + 20 + (x1).toNat) 2) r7305 m7307) (fun m7319 => (some (.inl 0, m7319))))) (fun e' m7307 => (some (.inr e', m7307))))))))) else none) else none)) (fun e' m6917 => (some (.inr e', m6917))))
set_option maxRecDepth 100000 in
theorem d196 {L : Nat} {xs : Nat → Int32} {k d n : Nat} {c : yS3} {f : Nat} {rc : Int → Int → Int → yM → Option ((Int ⊕ Nat) × yM)} {A : Nat} {x1 : Int} {x2 : Int} {m : yM} (hk : k ≤ f) (hrc : ∀ k', k' < k → ∀ {d' : Nat} {x1 x2 x3 : Int} {m' : yM} {n' : Nat}, rg x1 → rg x2 → rg x3 → RM c m' → PC (gZ L xs) k' d' 197 [.ref 169, yI x1, yI x2, yI x3] m' n' (qEI (fun e => e = 10 ∨ e = 11 ∨ e = 12 ∨ e = 13) c (rc x1 x2 x3 m'))) (hc : c.2.2 = pX A) (hA : (A = 256 ∨ A = 316)) (gx1 : rg x1) (gx2 : rg x2) (hR : RM c m) : PC (gZ L xs) k d 196 [.ref 169, yI x1, yI x2] m n (qEI (fun e => e = 10 ∨ e = 11 ∨ e = 12 ∨ e = 13) c (F196 f rc A x1 x2 m)) := by
  have hX : F196 f rc A x1 x2 m = F196 f rc A x1 x2 m := rfl
  have Hr : ∀ r m', F196 f rc A x1 x2 m = some (.inl r, m') → rg r → RM c m' → ∀ n' : Nat, (qEI (fun e => e = 10 ∨ e = 11 ∨ e = 12 ∨ e = 13) c (F196 f rc A x1 x2 m)) (.inl (some (yI r))) m' n' := fun r m' e h1 h2 n' => Or.inl ⟨r, rfl, h1, h2, e⟩
  have Ht : ∀ e m', F196 f rc A x1 x2 m = some (.inr e, m') → (fun e => e = 10 ∨ e = 11 ∨ e = 12 ∨ e = 13) e → RM c m' → ∀ x n' : Nat, (qEI (fun e => e = 10 ∨ e = 11 ∨ e = 12 ∨ e = 13) c (F196 f rc A x1 x2 m)) (.inr (e, x)) m' n' := fun e m' e1 h1 h2 x n' => Or.inr ⟨e, x, rfl, h1, h2, e1⟩
  refine PC.mk [some (.ref 169), some (yI x1), some (yI x2), none, none] kn196 rfl ?_
  refine p_aload 1 c196_0 rfl rfl ?_
  refine p_cTV 4 [.ref 169] [] c196_1 rfl rfl rfl (fun k' hk' d' => d189 (f := f) (by omega) hR) (fun m6917 hF6913 hR6918 n6906 k6905 hk6905 => ?_) (fun e' q6922 m6917 n' hF6913 hE6920 hR6921 => ?_)
  · have hX6916 := hX.trans (bT_l hF6913)
    refine p_aload 5 c196_4 rfl rfl ?_
    refine p_getV 8 (.ref A) c196_5 rfl kf169_4 (pX_of hA hR6918.2.2.2.2.2 hc) ?_
    refine p_getR 11 c196_8 rfl (kP_6 hA) ?_
    refine p_iload 12 c196_11 rfl rfl ?_
    refine p_aaX 13 c196_12 rfl (kPr_7 hA) gx1 (fun hx6923 => ?_)
    have hX6924 := hX6916.trans (if_pos hx6923)
    refine p_astore 14 c196_13 rfl rfl ?_
    refine p_aload 15 c196_14 rfl rfl ?_
    refine p_getR 18 c196_15 rfl kf169_3 ?_
    refine p_iload 19 c196_18 rfl rfl ?_
    refine p_aaX 20 c196_19 rfl kr251 gx2 (fun hx6925 => ?_)
    have hX6926 := hX6924.trans (if_pos hx6925)
    refine p_astore 22 c196_20 rfl rfl ?_
    refine p_aload 23 c196_22 rfl rfl ?_
    refine p_getX 26 (m6917 (A + 20 + (x1).toNat) 0) c196_23 rfl (kS_0 (kSr hA hx6923)) rfl ?_
    by_cases hk6927 : m6917 (A + 20 + (x1).toNat) 0 = 0
    · have hX6928 := hX6926.trans (if_pos hk6927)
      refine p_top 0 hk6927 ?_
      refine p_tsw 60 c196_26 (rgD rfl) (by decide) rfl rfl ?_
      refine p_aload 62 c196_60 rfl rfl ?_
      refine p_aload 63 c196_62 rfl rfl ?_
      refine p_getX 66 (m6917 (A + 20 + (x1).toNat) 3) c196_63 rfl (kS_3 (kSr hA hx6923)) rfl ?_
      refine p_iaX 67 (m6917 (252 + (x2).toNat) (m6917 (A + 20 + (x1).toNat) 3).toNat) c196_66 rfl (kR251 hx6925) (hR6918.rg _ _) rfl (fun hx6929 => ?_)
      refine p_iconst 68 c196_67 rfl ?_
      refine p_icmp 86 71 c196_68 rfl rfl (yc_eq (hR6918.rg _ _) (rgD rfl)) (fun hb6930 k6931 hk6931 => ?_) (fun hb6930 k6932 hk6932 => ?_)
      · have hX6933 := hX6928.trans (if_pos hb6930)
        refine p_aload 87 c196_86 rfl rfl ?_
        refine p_aload 88 c196_87 rfl rfl ?_
        refine p_getX 91 (m6917 (A + 20 + (x1).toNat) 11) c196_88 rfl (kS_11 (kSr hA hx6923)) rfl ?_
        refine p_aload 92 c196_91 rfl rfl ?_
        refine p_getX 95 (m6917 (A + 20 + (x1).toNat) 12) c196_92 rfl (kS_12 (kSr hA hx6923)) rfl ?_
        refine p_iload 96 c196_95 rfl rfl ?_
        refine p_cTI 99 [.ref 169, yI (m6917 (A + 20 + (x1).toNat) 11), yI (m6917 (A + 20 + (x1).toNat) 12), yI x2] [] c196_96 rfl rfl rfl (fun k' hk' d' => hrc k' (by omega) (hR6918.rg _ _) (hR6918.rg _ _) gx2 hR6918) (fun r6938 m6940 hF6936 hg6937 hR6941 n6935 k6934 hk6934 => ?_) (fun e' q6945 m6940 n' hF6936 hE6943 hR6944 => ?_)
        · have hX6939 := hX6933.trans (bT_l hF6936)
          exact p_ireturn c196_99 (Hr _ _ hX6939 hg6937 hR6941 _)
        · exact ⟨fun pq hpq => absurd ((khm rfl).symm.trans hpq) (by simp), fun _ => Ht e' m6940 (hX6933.trans (bT_r hF6936)) hE6943 hR6944 q6945 n'⟩
      · have hX6946 := hX6928.trans (if_neg hb6930)
        refine p_aload 72 c196_71 rfl rfl ?_
        refine p_iload 73 c196_72 rfl rfl ?_
        refine p_iconst 74 c196_73 rfl ?_
        refine p_iadd 75 c196_74 rfl ?_
        refine p_aload 76 c196_75 rfl rfl ?_
        refine p_getX 79 (m6917 (A + 20 + (x1).toNat) 11) c196_76 rfl (kS_11 (kSr hA hx6923)) rfl ?_
        refine p_iload 80 c196_79 rfl rfl ?_
        refine p_cTI 83 [.ref 169, yI (wr (x1 + 1)), yI (m6917 (A + 20 + (x1).toNat) 11), yI x2] [] c196_80 rfl rfl rfl (fun k' hk' d' => hrc k' (by omega) (rg_wr _) (hR6918.rg _ _) gx2 hR6918) (fun r6951 m6953 hF6949 hg6950 hR6954 n6948 k6947 hk6947 => ?_) (fun e' q6958 m6953 n' hF6949 hE6956 hR6957 => ?_)
        · have hX6952 := hX6946.trans (bT_l hF6949)
          refine p_goto 99 c196_83 rfl ?_
          exact p_ireturn c196_99 (Hr _ _ hX6952 hg6950 hR6954 _)
        · exact ⟨fun pq hpq => absurd ((khm rfl).symm.trans hpq) (by simp), fun _ => Ht e' m6953 (hX6946.trans (bT_r hF6949)) hE6956 hR6957 q6958 n'⟩
    have hX6959 := hX6926.trans (if_neg hk6927)
    by_cases hk6960 : m6917 (A + 20 + (x1).toNat) 0 = 1
    · have hX6961 := hX6959.trans (if_pos hk6960)
      refine p_top 1 hk6960 ?_
      refine p_tsw 100 c196_26 (rgD rfl) (by decide) rfl rfl ?_
      refine p_aload 101 c196_100 rfl rfl ?_
      refine p_iload 102 c196_101 rfl rfl ?_
      refine p_iload 103 c196_102 rfl rfl ?_
      refine p_cTI 106 [.ref 169, yI x1, yI x2] [] c196_103 rfl rfl rfl (fun k' hk' d' => d190 (f := f) (by omega) (fun k' h' => hrc k' (by omega)) hc hA gx1 gx2 hR6918) (fun r7020 m7022 hF7018 hg7019 hR7023 n6963 k6962 hk6962 => ?_) (fun e' q7027 m7022 n' hF7018 hE7025 hR7026 => ?_)
      · have hX7021 := hX6961.trans (bT_l hF7018)
        exact p_ireturn c196_106 (Hr _ _ hX7021 hg7019 hR7023 _)
      · exact ⟨fun pq hpq => absurd ((khm rfl).symm.trans hpq) (by simp), fun _ => Ht e' m7022 (hX6961.trans (bT_r hF7018)) hE7025 hR7026 q7027 n'⟩
    have hX7028 := hX6959.trans (if_neg hk6960)
    by_cases hk7029 : m6917 (A + 20 + (x1).toNat) 0 = 2
    · have hX7030 := hX7028.trans (if_pos hk7029)
      refine p_top 2 hk7029 ?_
      refine p_tsw 107 c196_26 (rgD rfl) (by decide) rfl rfl ?_
      refine p_aload 108 c196_107 rfl rfl ?_
      refine p_aload 110 c196_108 rfl rfl ?_
      refine p_aload 111 c196_110 rfl rfl ?_
      refine p_getX 114 (m6917 (A + 20 + (x1).toNat) 2) c196_111 rfl (kS_2 (kSr hA hx6923)) rfl ?_
      refine p_aload 116 c196_114 rfl rfl ?_
      refine p_aload 117 c196_116 rfl rfl ?_
      refine p_getX 120 (m6917 (A + 20 + (x1).toNat) 3) c196_117 rfl (kS_3 (kSr hA hx6923)) rfl ?_
      refine p_iaX 121 (m6917 (252 + (x2).toNat) (m6917 (A + 20 + (x1).toNat) 3).toNat) c196_120 rfl (kR251 hx6925) (hR6918.rg _ _) rfl (fun hx7031 => ?_)
      refine p_cV 124 [.ref 169, .ref (252 + (x2).toNat), yI (m6917 (A + 20 + (x1).toNat) 2), yI (m6917 (252 + (x2).toNat) (m6917 (A + 20 + (x1).toNat) 3).toNat)] [] c196_121 rfl rfl rfl (fun k' hk' d' => d188_48 (f := f) (by omega) (kR251 hx6925) (by omega) (hR6918.rg _ _) (hR6918.rg _ _) hR6918) (fun m7038 hF7034 hR7039 n7033 k7032 hk7032 => ?_)
      have hX7037 := hX7030.trans (bU_s hF7034)
      refine p_iconst 125 c196_124 rfl ?_
      exact p_ireturn c196_125 (Hr _ _ hX7037 (rgD rfl) hR7039 _)
    have hX7040 := hX7028.trans (if_neg hk7029)
    by_cases hk7041 : m6917 (A + 20 + (x1).toNat) 0 = 3
    · have hX7042 := hX7040.trans (if_pos hk7041)
      refine p_top 3 hk7041 ?_
      refine p_tsw 126 c196_26 (rgD rfl) (by decide) rfl rfl ?_
      refine p_aload 127 c196_126 rfl rfl ?_
      refine p_getR 130 c196_127 rfl kf169_2 ?_
      refine p_aload 131 c196_130 rfl rfl ?_
      refine p_aload 133 c196_131 rfl rfl ?_
      refine p_aload 134 c196_133 rfl rfl ?_
      refine p_getX 137 (m6917 (A + 20 + (x1).toNat) 2) c196_134 rfl (kS_2 (kSr hA hx6923)) rfl ?_
      refine p_iaX 138 (m6917 (252 + (x2).toNat) (m6917 (A + 20 + (x1).toNat) 2).toNat) c196_137 rfl (kR251 hx6925) (hR6918.rg _ _) rfl (fun hx7043 => ?_)
      refine p_aload 139 c196_138 rfl rfl ?_
      refine p_getX 142 (m6917 (A + 20 + (x1).toNat) 6) c196_139 rfl (kS_6 (kSr hA hx6923)) rfl ?_
      refine p_cTI 145 [.ref 169, yI (m6917 (252 + (x2).toNat) (m6917 (A + 20 + (x1).toNat) 2).toNat), yI (m6917 (A + 20 + (x1).toNat) 6)] [.ref 220] c196_142 rfl rfl rfl (fun k' hk' d' => d192 (f := f) (by omega) hc hA (hR6918.rg _ _) (hR6918.rg _ _) hR6918) (fun r7075 m7077 hF7073 hg7074 hR7078 n7045 k7044 hk7044 => ?_) (fun e' q7082 m7077 n' hF7073 hE7080 hR7081 => ?_)
      · have hX7076 := hX7042.trans (bT_l hF7073)
        refine p_aaX 146 c196_145 rfl kr220 hg7074 (fun hx7083 => ?_)
        have hX7084 := hX7076.trans (if_pos hx7083)
        refine p_aload 147 c196_146 rfl rfl ?_
        refine p_getX 150 (m7077 (A + 20 + (x1).toNat) 6) c196_147 rfl (kS_6 (kSr hA hx6923)) rfl ?_
        refine p_aload 152 c196_150 rfl rfl ?_
        refine p_aload 153 c196_152 rfl rfl ?_
        refine p_getX 156 (m7077 (A + 20 + (x1).toNat) 3) c196_153 rfl (kS_3 (kSr hA hx6923)) rfl ?_
        refine p_iaX 157 (m7077 (252 + (x2).toNat) (m7077 (A + 20 + (x1).toNat) 3).toNat) c196_156 rfl (kR251 hx6925) (hR7078.rg _ _) rfl (fun hx7085 => ?_)
        refine p_iaS 158 c196_157 rfl (kR220 hx7083) (hR7078.rg _ _) (m7077 (252 + (x2).toNat) (m7077 (A + 20 + (x1).toNat) 3).toNat) (nar0 (hR7078.rg _ _)) (fun hx7086 => ?_)
        have hR7087 := hR7078.up (221 + (r7075).toNat) (m7077 (A + 20 + (x1).toNat) 6).toNat (v := m7077 (252 + (x2).toNat) (m7077 (A + 20 + (x1).toNat) 3).toNat) (nselA (by omega)) (hR7078.rg _ _)
        refine p_iconst 159 c196_158 rfl ?_
        exact p_ireturn c196_159 (Hr _ _ hX7084 (rgD rfl) hR7087 _)
      · exact ⟨fun pq hpq => absurd ((khm rfl).symm.trans hpq) (by simp), fun _ => Ht e' m7077 (hX7042.trans (bT_r hF7073)) (by have q := hE7080; simp only at q ⊢; omega) hR7081 q7082 n'⟩
    have hX7088 := hX7040.trans (if_neg hk7041)
    by_cases hk7089 : m6917 (A + 20 + (x1).toNat) 0 = 4
    · have hX7090 := hX7088.trans (if_pos hk7089)
      refine p_top 4 hk7089 ?_
      refine p_tsw 160 c196_26 (rgD rfl) (by decide) rfl rfl ?_
      refine p_aload 161 c196_160 rfl rfl ?_
      refine p_aload 162 c196_161 rfl rfl ?_
      refine p_iload 163 c196_162 rfl rfl ?_
      refine p_cTV 166 [.ref 169, .ref (A + 20 + (x1).toNat), yI x2] [] c196_163 rfl rfl rfl (fun k' hk' d' => d193 (f := f) (by omega) (fun k' h' => hrc k' (by omega)) hc hA (kSr hA hx6923) gx2 hR6918) (fun m7209 hF7205 hR7210 n7092 k7091 hk7091 => ?_) (fun e' q7214 m7209 n' hF7205 hE7212 hR7213 => ?_)
      · have hX7208 := hX7090.trans (bT_l hF7205)
        refine p_iconst 167 c196_166 rfl ?_
        exact p_ireturn c196_167 (Hr _ _ hX7208 (rgD rfl) hR7210 _)
      · exact ⟨fun pq hpq => absurd ((khm rfl).symm.trans hpq) (by simp), fun _ => Ht e' m7209 (hX7090.trans (bT_r hF7205)) hE7212 hR7213 q7214 n'⟩
    have hX7215 := hX7088.trans (if_neg hk7089)
    refine p_tswd 168 c196_26 (hR6918.rg _ _) (by omega) rfl ?_
    refine p_aload 169 c196_168 rfl rfl ?_
    refine p_aload 171 c196_169 rfl rfl ?_
    refine p_aload 172 c196_171 rfl rfl ?_
    refine p_getX 175 (m6917 (A + 20 + (x1).toNat) 2) c196_172 rfl (kS_2 (kSr hA hx6923)) rfl ?_
    refine p_aload 176 c196_175 rfl rfl ?_
    refine p_aload 177 c196_176 rfl rfl ?_
    refine p_aload 179 c196_177 rfl rfl ?_
    refine p_cTI 182 [.ref 169, .ref (A + 20 + (x1).toNat), .ref (252 + (x2).toNat)] [yI (m6917 (A + 20 + (x1).toNat) 2), .ref (252 + (x2).toNat), .ref 169] c196_179 rfl rfl rfl (fun k' hk' d' => d195_48 (f := f) (by omega) hc hA (kSr hA hx6923) (kR251 hx6925) (by omega) hR6918) (fun r7305 m7307 hF7303 hg7304 hR7308 n7217 k7216 hk7216 => ?_) (fun e' q7312 m7307 n' hF7303 hE7310 hR7311 => ?_)
    · have hX7306 := hX7215.trans (bT_l hF7303)
      refine p_cV 185 [.ref 169, .ref (252 + (x2).toNat), yI (m6917 (A + 20 + (x1).toNat) 2), yI r7305] [] c196_182 rfl rfl rfl (fun k' hk' d' => d188_48 (f := f) (by omega) (kR251 hx6925) (by omega) (hR6918.rg _ _) hg7304 hR7308) (fun m7319 hF7315 hR7320 n7314 k7313 hk7313 => ?_)
      have hX7318 := hX7306.trans (bU_s hF7315)
      refine p_iconst 186 c196_185 rfl ?_
      exact p_ireturn c196_186 (Hr _ _ hX7318 (rgD rfl) hR7320 _)
    · exact ⟨fun pq hpq => absurd ((khm rfl).symm.trans hpq) (by simp), fun _ => Ht e' m7307 (hX7215.trans (bT_r hF7303)) hE7310 hR7311 q7312 n'⟩
  · exact ⟨fun pq hpq => absurd ((khm rfl).symm.trans hpq) (by simp), fun _ => Ht e' m6917 (hX.trans (bT_r hF6913)) (by have q := hE6920; simp only at q ⊢; omega) hR6921 q6922 n'⟩
def B197_6 (f : Nat) (rc : Int → Int → Int → yM → Option ((Int ⊕ Nat) × yM)) (A : Nat) (x2 : Int) (x3 : Int) (x4 : Int) (x5 : Int) (m : yM) : Option (((Int × Int) × yM) ⊕ (((Int × Int) × yM) ⊕ ((Int ⊕ Nat) × yM))) := (if x5 < 40 then (if x4 < x2 then (bT (F196 f rc A x4 x3 m) (fun r7323 m7325 => (if r7323 = 0 then (if 0 ≤ x4 ∧ x4 < ((40 : Nat) : Int) then (some (.inl ((m7325 (A + 20 + (x4).toNat) 12, wr (x5 + 1)), m7325))) else none) else (some (.inr (.inr (.inl 1, m7325)))))) (fun e' m7325 => (some (.inr (.inr (.inr e', m7325)))))) else (some (.inr (.inl ((x4, x5), m))))) else (some (.inr (.inl ((x4, x5), m)))))
set_option maxRecDepth 100000 in
theorem tB197_6 {L : Nat} {xs : Nat → Int32} {Q : xO → yM → Nat → Prop} {k d n : Nat} {c : yS3} {f : Nat} {rc : Int → Int → Int → yM → Option ((Int ⊕ Nat) × yM)} {A : Nat} {x2 : Int} {x3 : Int} {x4 : Int} {x5 : Int} {m : yM} {j1 : Option Value} (hk : k ≤ f) (hrc : ∀ k', k' < k → ∀ {d' : Nat} {x1 x2 x3 : Int} {m' : yM} {n' : Nat}, rg x1 → rg x2 → rg x3 → RM c m' → PC (gZ L xs) k' d' 197 [.ref 169, yI x1, yI x2, yI x3] m' n' (qEI (fun e => e = 10 ∨ e = 11 ∨ e = 12 ∨ e = 13) c (rc x1 x2 x3 m'))) (hc : c.2.2 = pX A) (hA : (A = 256 ∨ A = 316)) (gx2 : rg x2) (gx3 : rg x3) (gx4 : rg x4) (gx5 : rg x5) (hR : RM c m) (Hn : ∀ (y0 y1 : Int) (z0 : Option Value) (m' : yM) (n' : Nat), B197_6 f rc A x2 x3 x4 x5 m = some (.inl ((y0, y1), m')) → rg y0 → rg y1 → RM c m' → ∀ k', k' < k → PW (gZ L xs) k' 197 d 6 [some (.ref 169), z0, some (yI x2), some (yI x3), some (yI y0), some (yI y1)] [] m' n' Q) (He : ∀ (y0 y1 : Int) (z0 : Option Value) (m' : yM) (n' : Nat), B197_6 f rc A x2 x3 x4 x5 m = some (.inr (.inl ((y0, y1), m'))) → rg y0 → rg y1 → RM c m' → ∀ k', k' ≤ k → PW (gZ L xs) k' 197 d 52 [some (.ref 169), z0, some (yI x2), some (yI x3), some (yI y0), some (yI y1)] [] m' n' Q) (Hr : ∀ r m', B197_6 f rc A x2 x3 x4 x5 m = some (.inr (.inr (.inl r, m'))) → rg r → RM c m' → ∀ n', Q (.inl (some (yI r))) m' n') (Ht : ∀ e m', B197_6 f rc A x2 x3 x4 x5 m = some (.inr (.inr (.inr e, m'))) → (fun e => e = 10 ∨ e = 11 ∨ e = 12 ∨ e = 13) e → RM c m' → ∀ x n', Q (.inr (e, x)) m' n') : PW (gZ L xs) k 197 d 6 [some (.ref 169), j1, some (yI x2), some (yI x3), some (yI x4), some (yI x5)] [] m n Q := by
  have hX : B197_6 f rc A x2 x3 x4 x5 m = B197_6 f rc A x2 x3 x4 x5 m := rfl
  refine p_iload 8 c197_6 rfl rfl ?_
  refine p_iconst 10 c197_8 rfl ?_
  refine p_icmp 52 13 c197_10 rfl rfl ((yc_ge gx5 (rgD rfl)).trans Int.not_lt.symm) (fun hb6893 k6894 hk6894 => ?_) (fun hb6893 k6895 hk6895 => ?_)
  · have hX6896 := hX.trans (if_neg hb6893)
    exact He _ _ _ _ _ hX6896 gx4 gx5 hR _ (by omega)
  · have hX6897 := hX.trans (if_pos (Classical.not_not.mp hb6893))
    refine p_iload 15 c197_13 rfl rfl ?_
    refine p_iload 16 c197_15 rfl rfl ?_
    refine p_icmp 52 19 c197_16 rfl rfl ((yc_ge gx4 gx2).trans Int.not_lt.symm) (fun hb6898 k6899 hk6899 => ?_) (fun hb6898 k6900 hk6900 => ?_)
    · have hX6901 := hX6897.trans (if_neg hb6898)
      exact He _ _ _ _ _ hX6901 gx4 gx5 hR _ (by omega)
    · have hX6902 := hX6897.trans (if_pos (Classical.not_not.mp hb6898))
      refine p_aload 20 c197_19 rfl rfl ?_
      refine p_iload 22 c197_20 rfl rfl ?_
      refine p_iload 23 c197_22 rfl rfl ?_
      refine p_cTI 26 [.ref 169, yI x4, yI x3] [] c197_23 rfl rfl rfl (fun k' hk' d' => d196 (f := f) (by omega) (fun k' h' => hrc k' (by omega)) hc hA gx4 gx3 hR) (fun r7323 m7325 hF7321 hg7322 hR7326 n6904 k6903 hk6903 => ?_) (fun e' q7330 m7325 n' hF7321 hE7328 hR7329 => ?_)
      · have hX7324 := hX6902.trans (bT_l hF7321)
        refine p_if 31 29 c197_26 rfl rfl (yz_eq hg7322) (fun hb7331 k7332 hk7332 => ?_) (fun hb7331 k7333 hk7333 => ?_)
        · have hX7334 := hX7324.trans (if_pos hb7331)
          refine p_aload 32 c197_31 rfl rfl ?_
          refine p_getV 35 (.ref A) c197_32 rfl kf169_4 (pX_of hA hR7326.2.2.2.2.2 hc) ?_
          refine p_getR 38 c197_35 rfl (kP_6 hA) ?_
          refine p_iload 40 c197_38 rfl rfl ?_
          refine p_aaX 41 c197_40 rfl (kPr_7 hA) gx4 (fun hx7335 => ?_)
          have hX7336 := hX7334.trans (if_pos hx7335)
          refine p_getX 44 (m7325 (A + 20 + (x4).toNat) 12) c197_41 rfl (kS_12 (kSr hA hx7335)) rfl ?_
          refine p_istore 46 c197_44 rfl rfl ?_
          refine p_iinc 49 c197_46 rfl rfl rfl ?_
          refine p_gotoD 6 c197_49 rfl (fun k7337 hk7337 => ?_)
          exact Hn _ _ _ _ _ hX7336 (hR7326.rg _ _) (rg_wr _) hR7326 _ (by omega)
        · have hX7338 := hX7324.trans (if_neg hb7331)
          refine p_iconst 30 c197_29 rfl ?_
          exact p_ireturn c197_30 (Hr _ _ hX7338 (rgD rfl) hR7326 _)
      · exact ⟨fun pq hpq => absurd ((khm rfl).symm.trans hpq) (by simp), fun _ => Ht e' m7325 (hX6902.trans (bT_r hF7321)) hE7328 hR7329 q7330 n'⟩
def G197 (f : Nat) (rc : Int → Int → Int → yM → Option ((Int ⊕ Nat) × yM)) (A : Nat) (x1 : Int) (x2 : Int) (x3 : Int) (m : yM) : Option ((Int ⊕ Nat) × yM) := (bL (yloop (fun (l : Int × Int) ml => B197_6 f rc A x2 x3 l.1 l.2 ml) f (x1, 0) m) (fun l7339 m7345 => (some (.inl 0, m7345))) (fun r mr => some (r, mr)))
set_option maxRecDepth 100000 in
theorem g197 {L : Nat} {xs : Nat → Int32} {k d n : Nat} {c : yS3} {f : Nat} {rc : Int → Int → Int → yM → Option ((Int ⊕ Nat) × yM)} {A : Nat} {x1 : Int} {x2 : Int} {x3 : Int} {m : yM} (hk : k ≤ f) (hrc : ∀ k', k' < k → ∀ {d' : Nat} {x1 x2 x3 : Int} {m' : yM} {n' : Nat}, rg x1 → rg x2 → rg x3 → RM c m' → PC (gZ L xs) k' d' 197 [.ref 169, yI x1, yI x2, yI x3] m' n' (qEI (fun e => e = 10 ∨ e = 11 ∨ e = 12 ∨ e = 13) c (rc x1 x2 x3 m'))) (hc : c.2.2 = pX A) (hA : (A = 256 ∨ A = 316)) (gx1 : rg x1) (gx2 : rg x2) (gx3 : rg x3) (hR : RM c m) : PC (gZ L xs) k d 197 [.ref 169, yI x1, yI x2, yI x3] m n (qEI (fun e => e = 10 ∨ e = 11 ∨ e = 12 ∨ e = 13) c (G197 f rc A x1 x2 x3 m)) := by
  have hX : G197 f rc A x1 x2 x3 m = G197 f rc A x1 x2 x3 m := rfl
  have Hr : ∀ r m', G197 f rc A x1 x2 x3 m = some (.inl r, m') → rg r → RM c m' → ∀ n' : Nat, (qEI (fun e => e = 10 ∨ e = 11 ∨ e = 12 ∨ e = 13) c (G197 f rc A x1 x2 x3 m)) (.inl (some (yI r))) m' n' := fun r m' e h1 h2 n' => Or.inl ⟨r, rfl, h1, h2, e⟩
  have Ht : ∀ e m', G197 f rc A x1 x2 x3 m = some (.inr e, m') → (fun e => e = 10 ∨ e = 11 ∨ e = 12 ∨ e = 13) e → RM c m' → ∀ x n' : Nat, (qEI (fun e => e = 10 ∨ e = 11 ∨ e = 12 ∨ e = 13) c (G197 f rc A x1 x2 x3 m)) (.inr (e, x)) m' n' := fun e m' e1 h1 h2 x n' => Or.inr ⟨e, x, rfl, h1, h2, e1⟩
  refine PC.mk [some (.ref 169), some (yI x1), some (yI x2), some (yI x3), none, none] kn197 rfl ?_
  refine p_iload 1 c197_0 rfl rfl ?_
  refine p_istore 3 c197_1 rfl rfl ?_
  refine p_iconst 4 c197_3 rfl ?_
  refine p_istore 6 c197_4 rfl rfl ?_
  refine PW.loop (K := k) (pce := 52) (fun (l : Int × Int) ml => B197_6 f rc A x2 x3 l.1 l.2 ml) (fun (l : Int × Int) j => [some (.ref 169), j 1, some (yI x2), some (yI x3), some (yI l.1), some (yI l.2)]) (fun (l : Int × Int) => rg l.1 ∧ rg l.2) (RM c) (fun (r' : (Int ⊕ Nat)) m' => (∀ v, r' = .inl v → rg v → RM c m' → ∀ n' : Nat, (qEI (fun e => e = 10 ∨ e = 11 ∨ e = 12 ∨ e = 13) c (G197 f rc A x1 x2 x3 m)) (.inl (some (yI v))) m' n') ∧ (∀ e, r' = .inr e → (fun e => e = 10 ∨ e = 11 ∨ e = 12 ∨ e = 13) e → RM c m' → ∀ x n' : Nat, (qEI (fun e => e = 10 ∨ e = 11 ∨ e = 12 ∨ e = 13) c (G197 f rc A x1 x2 x3 m)) (.inr (e, x)) m' n')) (fun k' hk' l j m' n' hl hI Hn' He' Hr' => tB197_6 (f := f) (by omega) (fun k' h' => hrc k' (by omega)) hc hA gx2 gx3 hl.1 hl.2 hI (fun y0 y1 y2 m2 n2 e h0 h1 hR2 => Hn' (y0, y1) (fun q => ([none, y2, none, none, none, none] : List (Option Value)).getD q none) m2 n2 e ⟨h0, h1⟩ hR2) (fun y0 y1 y2 m2 n2 e h0 h1 hR2 => He' (y0, y1) (fun q => ([none, y2, none, none, none, none] : List (Option Value)).getD q none) m2 n2 e ⟨h0, h1⟩ hR2) (fun v m2 e => (Hr' (.inl v) m2 e).1 v rfl) (fun v m2 e => (Hr' (.inr v) m2 e).2 v rfl)) f k (by omega) (Nat.le_refl _) (x1, 0) (fun q => ([some (.ref 169), some (yI x1), some (yI x2), some (yI x3), some (yI x1), some (yI 0)] : xL).getD q none) _ _ ⟨gx1, (rgD rfl)⟩ hR (fun l7339 j7342 m7345 n7344 e7341 hl7340 hR7346 k7343 hk7343 => ?_) (fun r' m' e' => ?_)
  · have hX7347 := hX.trans (bL_l e7341)
    refine p_iconst 53 c197_52 rfl ?_
    exact p_ireturn c197_53 (Hr _ _ hX7347 (rgD rfl) hR7346 _)
  · exact ⟨fun v hv => Hr v m' ((hX.trans (bL_r e')).trans (by rw [hv])), fun v hv => Ht v m' ((hX.trans (bL_r e')).trans (by rw [hv]))⟩
def F197 (f : Nat) (A : Nat) : Nat → Int → Int → Int → yM → Option ((Int ⊕ Nat) × yM)
  | 0 => fun _ _ _ _ => none
  | g + 1 => G197 f (F197 f A g) A
theorem d197 {L : Nat} {xs : Nat → Int32} {f A : Nat} {c : yS3} (hc : c.2.2 = pX A) (hA : (A = 256 ∨ A = 316)) : ∀ (g k : Nat), k ≤ f → k ≤ g → ∀ (d n : Nat) (x1 : Int) (x2 : Int) (x3 : Int) (m : yM), rg x1 → rg x2 → rg x3 → RM c m → PC (gZ L xs) k d 197 [.ref 169, yI x1, yI x2, yI x3] m n (qEI (fun e => e = 10 ∨ e = 11 ∨ e = 12 ∨ e = 13) c (F197 f A g x1 x2 x3 m))
  | 0, k, _, h => by
    intro d n x1 x2 x3 m _ _ _ _
    have e : k = 0 := by omega
    subst e
    exact PW.zero
  | g + 1, k, hk, hg => by
    intro d n x1 x2 x3 m gx1 gx2 gx3 hR
    exact g197 (f := f) hk (fun k' hk' {d'} {x0'} {x1'} {x2'} {m'} {n'} h0' h1' h2' hR' => d197 hc hA g k' (by omega) (by omega) d' n' x0' x1' x2' m' h0' h1' h2' hR') hc hA gx1 gx2 gx3 hR
end
