/-! FUNCTIONS OF THE METHODS: printed by wip/fn/dc.py -/
def B121_9 (f : Nat) (x1 : Int) (x3 : Int) (x4 : Int) (m : yM) : Option (Int ⊕ (Int ⊕ Int)) := (if x4 < 0 then (some (.inr (.inl x4))) else (if m 393 (wr ((wr ((wr (48 * x1)) + (wr (8 * x4)))) + x3)).toNat = 0 then (some (.inl (m 392 (wr ((wr (6 * x1)) + x4)).toNat))) else (some (.inr (.inr 1)))))
set_option maxRecDepth 100000 in
theorem tB121_9 {L : Nat} {xs : Nat → Int32} {Q : xO → yM → Nat → Prop} {k d n : Nat} {c : yS3} {f : Nat} {x1 : Int} {x3 : Int} {x4 : Int} {m : yM} {j2 : Option Value} (hk : k ≤ f) (gx1 : rg x1) (gx3 : rg x3) (gx4 : rg x4) (hR : RM c m) (Hn : ∀ (y0 : Int) (z0 : Option Value) (n' : Nat), B121_9 f x1 x3 x4 m = some (.inl y0) → rg y0 → ∀ k', k' < k → PW (gZ L xs) k' 121 d 9 [some (.ref 376), some (yI x1), z0, some (yI x3), some (yI y0)] [] m n' Q) (He : ∀ (y0 : Int) (z0 : Option Value) (n' : Nat), B121_9 f x1 x3 x4 m = some (.inr (.inl y0)) → rg y0 → ∀ k', k' ≤ k → PW (gZ L xs) k' 121 d 53 [some (.ref 376), some (yI x1), z0, some (yI x3), some (yI y0)] [] m n' Q) (Hr : ∀ r, B121_9 f x1 x3 x4 m = some (.inr (.inr r)) → rg r → ∀ n', Q (.inl (some (yI r))) m n') : PW (gZ L xs) k 121 d 9 [some (.ref 376), some (yI x1), j2, some (yI x3), some (yI x4)] [] m n Q := by
  have hX : B121_9 f x1 x3 x4 m = B121_9 f x1 x3 x4 m := rfl
  refine p_iload 11 c121_9 rfl rfl ?_
  refine p_if 53 14 c121_11 rfl rfl (yz_lt gx4) (fun hb4919 k4920 hk4920 => ?_) (fun hb4919 k4921 hk4921 => ?_)
  · have hX4922 := hX.trans (if_pos hb4919)
    exact He _ _ _ hX4922 gx4 _ (by omega)
  · have hX4923 := hX.trans (if_neg hb4919)
    refine p_aload 15 c121_14 rfl rfl ?_
    refine p_getR 18 c121_15 rfl kf376_30 ?_
    refine p_iconst 20 c121_18 rfl ?_
    refine p_iload 21 c121_20 rfl rfl ?_
    refine p_imul 22 c121_21 rfl ?_
    refine p_iconst 24 c121_22 rfl ?_
    refine p_iload 26 c121_24 rfl rfl ?_
    refine p_imul 27 c121_26 rfl ?_
    refine p_iadd 28 c121_27 rfl ?_
    refine p_iload 29 c121_28 rfl rfl ?_
    refine p_iadd 30 c121_29 rfl ?_
    refine p_iaX 31 (m 393 (wr ((wr ((wr (48 * x1)) + (wr (8 * x4)))) + x3)).toNat) c121_30 rfl ka393 (rg_wr _) rfl (fun hx4924 => ?_)
    refine p_if 36 34 c121_31 rfl rfl (yz_eq (hR.rg _ _)) (fun hb4925 k4926 hk4926 => ?_) (fun hb4925 k4927 hk4927 => ?_)
    · have hX4928 := hX4923.trans (if_pos hb4925)
      refine p_aload 37 c121_36 rfl rfl ?_
      refine p_getR 40 c121_37 rfl kf376_29 ?_
      refine p_iconst 42 c121_40 rfl ?_
      refine p_iload 43 c121_42 rfl rfl ?_
      refine p_imul 44 c121_43 rfl ?_
      refine p_iload 46 c121_44 rfl rfl ?_
      refine p_iadd 47 c121_46 rfl ?_
      refine p_iaX 48 (m 392 (wr ((wr (6 * x1)) + x4)).toNat) c121_47 rfl ka392 (rg_wr _) rfl (fun hx4929 => ?_)
      refine p_istore 50 c121_48 rfl rfl ?_
      refine p_gotoD 9 c121_50 rfl (fun k4930 hk4930 => ?_)
      exact Hn _ _ _ hX4928 (hR.rg _ _) _ (by omega)
    · have hX4931 := hX4923.trans (if_neg hb4925)
      refine p_iconst 35 c121_34 rfl ?_
      exact p_ireturn c121_35 (Hr _ hX4931 (rgD rfl) _)
def F121 (f : Nat) (x1 : Int) (x2 : Int) (x3 : Int) (m : yM) : Option Int := (if x3 < 0 then (some 0) else (bQ (ploop (fun (l : Int) => B121_9 f x1 x3 l m) f x2) (fun l4932 => (some 0)) (fun r => some r)))
set_option maxRecDepth 100000 in
theorem d121 {L : Nat} {xs : Nat → Int32} {k d n : Nat} {c : yS3} {f : Nat} {x1 : Int} {x2 : Int} {x3 : Int} {m : yM} (hk : k ≤ f) (gx1 : rg x1) (gx2 : rg x2) (gx3 : rg x3) (hR : RM c m) : PC (gZ L xs) k d 121 [.ref 376, yI x1, yI x2, yI x3] m n (qO m (F121 f x1 x2 x3 m)) := by
  have hX : F121 f x1 x2 x3 m = F121 f x1 x2 x3 m := rfl
  have Hr : ∀ r, F121 f x1 x2 x3 m = some r → rg r → ∀ n' : Nat, (qO m (F121 f x1 x2 x3 m)) (.inl (some (yI r))) m n' := fun r e h n' => ⟨r, rfl, h, rfl, e⟩
  refine PC.mk [some (.ref 376), some (yI x1), some (yI x2), some (yI x3), none] kn121 rfl ?_
  refine p_iload 1 c121_0 rfl rfl ?_
  refine p_if 6 4 c121_1 rfl rfl ((yz_ge gx3).trans Int.not_lt.symm) (fun hb4915 k4916 hk4916 => ?_) (fun hb4915 k4917 hk4917 => ?_)
  · have hX4918 := hX.trans (if_neg hb4915)
    refine p_iload 7 c121_6 rfl rfl ?_
    refine p_istore 9 c121_7 rfl rfl ?_
    refine PW.ploop (K := k4916) (pce := 53) (fun (l : Int) => B121_9 f x1 x3 l m) (fun (l : Int) j => [some (.ref 376), some (yI x1), j 2, some (yI x3), some (yI l)]) (fun (l : Int) => rg l) (fun r' => rg r' → ∀ n' : Nat, (qO m (F121 f x1 x2 x3 m)) (.inl (some (yI r'))) m n') (fun k' hk' l j n' hl Hn' He' Hr' => tB121_9 (f := f) (by omega) gx1 gx3 hl hR (fun y0 y1 n2 e h0 => Hn' y0 (fun q => ([none, none, y1, none, none] : List (Option Value)).getD q none) n2 e h0) (fun y0 y1 n2 e h0 => He' y0 (fun q => ([none, none, y1, none, none] : List (Option Value)).getD q none) n2 e h0) Hr') f k4916 (by omega) (Nat.le_refl _) x2 (fun q => ([some (.ref 376), some (yI x1), some (yI x2), some (yI x3), some (yI x2)] : xL).getD q none) _ gx2 (fun l4932 j4935 n4937 e4934 hl4933 k4936 hk4936 => ?_) (fun r' e' => ?_)
    · have hX4938 := hX4918.trans (bQ_l e4934)
      refine p_iconst 54 c121_53 rfl ?_
      exact p_ireturn c121_54 (Hr _ hX4938 (rgD rfl) _)
    · exact Hr r' (hX4918.trans (bQ_r e'))
  · have hX4939 := hX.trans (if_pos (Classical.not_not.mp hb4915))
    refine p_iconst 5 c121_4 rfl ?_
    exact p_ireturn c121_5 (Hr _ hX4939 (rgD rfl) _)
def B120_2 (f : Nat) (x1 : Int) (x2 : Int) (x3 : Int) (m : yM) : Option (Int ⊕ (Int ⊕ Int)) := (if x3 < m 385 x1.toNat then (if m 394 (wr ((wr (8 * x1)) + x3)).toNat = x2 then (some (.inr (.inr x3))) else (some (.inl (wr (x3 + 1))))) else (some (.inr (.inl x3))))
set_option maxRecDepth 100000 in
theorem tB120_2 {L : Nat} {xs : Nat → Int32} {Q : xO → yM → Nat → Prop} {k d n : Nat} {c : yS3} {f : Nat} {x1 : Int} {x2 : Int} {x3 : Int} {m : yM} (hk : k ≤ f) (gx1 : rg x1) (gx2 : rg x2) (gx3 : rg x3) (hR : RM c m) (Hn : ∀ (y0 : Int) (n' : Nat), B120_2 f x1 x2 x3 m = some (.inl y0) → rg y0 → ∀ k', k' < k → PW (gZ L xs) k' 120 d 2 [some (.ref 376), some (yI x1), some (yI x2), some (yI y0)] [] m n' Q) (He : ∀ (y0 : Int) (n' : Nat), B120_2 f x1 x2 x3 m = some (.inr (.inl y0)) → rg y0 → ∀ k', k' ≤ k → PW (gZ L xs) k' 120 d 35 [some (.ref 376), some (yI x1), some (yI x2), some (yI y0)] [] m n' Q) (Hr : ∀ r, B120_2 f x1 x2 x3 m = some (.inr (.inr r)) → rg r → ∀ n', Q (.inl (some (yI r))) m n') : PW (gZ L xs) k 120 d 2 [some (.ref 376), some (yI x1), some (yI x2), some (yI x3)] [] m n Q := by
  have hX : B120_2 f x1 x2 x3 m = B120_2 f x1 x2 x3 m := rfl
  refine p_iload 3 c120_2 rfl rfl ?_
  refine p_aload 4 c120_3 rfl rfl ?_
  refine p_getR 7 c120_4 rfl kf376_22 ?_
  refine p_iload 8 c120_7 rfl rfl ?_
  refine p_iaX 9 (m 385 x1.toNat) c120_8 rfl ka385 gx1 rfl (fun hx4963 => ?_)
  refine p_icmp 35 12 c120_9 rfl rfl ((yc_ge gx3 (hR.rg _ _)).trans Int.not_lt.symm) (fun hb4964 k4965 hk4965 => ?_) (fun hb4964 k4966 hk4966 => ?_)
  · have hX4967 := hX.trans (if_neg hb4964)
    exact He _ _ hX4967 gx3 _ (by omega)
  · have hX4968 := hX.trans (if_pos (Classical.not_not.mp hb4964))
    refine p_aload 13 c120_12 rfl rfl ?_
    refine p_getR 16 c120_13 rfl kf376_31 ?_
    refine p_iconst 18 c120_16 rfl ?_
    refine p_iload 19 c120_18 rfl rfl ?_
    refine p_imul 20 c120_19 rfl ?_
    refine p_iload 21 c120_20 rfl rfl ?_
    refine p_iadd 22 c120_21 rfl ?_
    refine p_iaX 23 (m 394 (wr ((wr (8 * x1)) + x3)).toNat) c120_22 rfl ka394 (rg_wr _) rfl (fun hx4969 => ?_)
    refine p_iload 24 c120_23 rfl rfl ?_
    refine p_icmp 29 27 c120_24 rfl rfl (yc_ne (hR.rg _ _) gx2) (fun hb4970 k4971 hk4971 => ?_) (fun hb4970 k4972 hk4972 => ?_)
    · have hX4973 := hX4968.trans (if_neg hb4970)
      refine p_iinc 32 c120_29 rfl rfl rfl ?_
      refine p_gotoD 2 c120_32 rfl (fun k4974 hk4974 => ?_)
      exact Hn _ _ hX4973 (rg_wr _) _ (by omega)
    · have hX4975 := hX4968.trans (if_pos (Classical.not_not.mp hb4970))
      refine p_iload 28 c120_27 rfl rfl ?_
      exact p_ireturn c120_28 (Hr _ hX4975 gx3 _)
def F120 (f : Nat) (x1 : Int) (x2 : Int) (m : yM) : Option Int := (bQ (ploop (fun (l : Int) => B120_2 f x1 x2 l m) f 0) (fun l4976 => (some ((-1)))) (fun r => some r))
set_option maxRecDepth 100000 in
theorem d120 {L : Nat} {xs : Nat → Int32} {k d n : Nat} {c : yS3} {f : Nat} {x1 : Int} {x2 : Int} {m : yM} (hk : k ≤ f) (gx1 : rg x1) (gx2 : rg x2) (hR : RM c m) : PC (gZ L xs) k d 120 [.ref 376, yI x1, yI x2] m n (qO m (F120 f x1 x2 m)) := by
  have hX : F120 f x1 x2 m = F120 f x1 x2 m := rfl
  have Hr : ∀ r, F120 f x1 x2 m = some r → rg r → ∀ n' : Nat, (qO m (F120 f x1 x2 m)) (.inl (some (yI r))) m n' := fun r e h n' => ⟨r, rfl, h, rfl, e⟩
  refine PC.mk [some (.ref 376), some (yI x1), some (yI x2), none] kn120 rfl ?_
  refine p_iconst 1 c120_0 rfl ?_
  refine p_istore 2 c120_1 rfl rfl ?_
  refine PW.ploop (K := k) (pce := 35) (fun (l : Int) => B120_2 f x1 x2 l m) (fun (l : Int) j => [some (.ref 376), some (yI x1), some (yI x2), some (yI l)]) (fun (l : Int) => rg l) (fun r' => rg r' → ∀ n' : Nat, (qO m (F120 f x1 x2 m)) (.inl (some (yI r'))) m n') (fun k' hk' l j n' hl Hn' He' Hr' => tB120_2 (f := f) (by omega) gx1 gx2 hl hR (fun y0 n2 e h0 => Hn' y0 (fun q => ([none, none, none, none] : List (Option Value)).getD q none) n2 e h0) (fun y0 n2 e h0 => He' y0 (fun q => ([none, none, none, none] : List (Option Value)).getD q none) n2 e h0) Hr') f k (by omega) (Nat.le_refl _) 0 (fun q => ([some (.ref 376), some (yI x1), some (yI x2), some (yI 0)] : xL).getD q none) _ (rgD rfl) (fun l4976 j4979 n4981 e4978 hl4977 k4980 hk4980 => ?_) (fun r' e' => ?_)
  · have hX4982 := hX.trans (bQ_l e4978)
    refine p_iconst 36 c120_35 rfl ?_
    exact p_ireturn c120_36 (Hr _ hX4982 (rgD rfl) _)
  · exact Hr r' (hX.trans (bQ_r e'))
def J122_128 (f : Nat) (x1 : Int) (x2 : Int) (x3 : Int) (m : yM) : Option yM := (bI (F118 f 59 (yup m 393 (wr ((wr ((wr (48 * x1)) + (wr (8 * x2)))) + x3)).toNat 1)) (fun r4895 m4897 => (if r4895 = 0 then (some m4897) else (some m4897))))
set_option maxRecDepth 100000 in
theorem tJ122_128 {L : Nat} {xs : Nat → Int32} {Q : xO → yM → Nat → Prop} {k d n : Nat} {c : yS3} {f : Nat} {x1 : Int} {x2 : Int} {x3 : Int} {m : yM} {j4 j5 : Option Value} (hk : k ≤ f) (gx1 : rg x1) (gx2 : rg x2) (gx3 : rg x3) (hR : RM c m) (Hr : ∀ m', J122_128 f x1 x2 x3 m = some m' → RM c m' → ∀ n', Q (.inl none) m' n') : PW (gZ L xs) k 122 d 128 [some (.ref 376), some (yI x1), some (yI x2), some (yI x3), j4, j5] [] m n Q := by
  have hX : J122_128 f x1 x2 x3 m = J122_128 f x1 x2 x3 m := rfl
  refine p_aload 129 c122_128 rfl rfl ?_
  refine p_getR 132 c122_129 rfl kf376_30 ?_
  refine p_iconst 134 c122_132 rfl ?_
  refine p_iload 135 c122_134 rfl rfl ?_
  refine p_imul 136 c122_135 rfl ?_
  refine p_iconst 138 c122_136 rfl ?_
  refine p_iload 139 c122_138 rfl rfl ?_
  refine p_imul 140 c122_139 rfl ?_
  refine p_iadd 141 c122_140 rfl ?_
  refine p_iload 142 c122_141 rfl rfl ?_
  refine p_iadd 143 c122_142 rfl ?_
  refine p_iconst 144 c122_143 rfl ?_
  refine p_iaS 145 c122_144 rfl ka393 (rg_wr _) 1 rfl (fun hx4889 => ?_)
  have hR4890 := hR.up 393 (wr ((wr ((wr (48 * x1)) + (wr (8 * x2)))) + x3)).toNat (v := 1) (nselA (by decide)) (rgD rfl)
  refine p_aload 146 c122_145 rfl rfl ?_
  refine p_iconst 148 c122_146 rfl ?_
  refine p_cS 151 [.ref 376, yI 59] [] c122_148 rfl rfl rfl (fun k' hk' d' => d118 (f := f) (by omega) (rgD rfl) hR4890) (fun r4895 m4897 hF4893 hg4894 hR4898 n4892 k4891 hk4891 => ?_)
  have hX4896 := hX.trans (bI_s hF4893)
  refine p_if 155 154 c122_151 rfl rfl (yz_ne hg4894) (fun hb4899 k4900 hk4900 => ?_) (fun hb4899 k4901 hk4901 => ?_)
  · have hX4902 := hX4896.trans (if_neg hb4899)
    exact p_return c122_155 (Hr _ hX4902 hR4898 _)
  · have hX4903 := hX4896.trans (if_pos (Classical.not_not.mp hb4899))
    exact p_return c122_154 (Hr _ hX4903 hR4898 _)
def J122_76 (f : Nat) (x1 : Int) (x2 : Int) (x3 : Int) (xs0 : Int) (m : yM) : Option yM := (bI (F105 f xs0 m) (fun r4877 m4879 => (if r4877 = 0 then (some m4879) else (if x3 < 0 then (J122_128 f x1 x2 (m4879 385 x1.toNat) (yup (yup m4879 394 (wr ((wr (8 * x1)) + (m4879 385 x1.toNat))).toNat (m 376 4)) 385 x1.toNat (wr ((m4879 385 x1.toNat) + 1)))) else (J122_128 f x1 x2 x3 m4879)))))
set_option maxRecDepth 100000 in
theorem tJ122_76 {L : Nat} {xs : Nat → Int32} {Q : xO → yM → Nat → Prop} {k d n : Nat} {c : yS3} {f : Nat} {x1 : Int} {x2 : Int} {x3 : Int} {xs0 : Int} {m : yM} {j4 j5 : Option Value} (hk : k ≤ f) (gx1 : rg x1) (gx2 : rg x2) (gx3 : rg x3) (gxs0 : rg xs0) (hR : RM c m) (Hr : ∀ m', J122_76 f x1 x2 x3 xs0 m = some m' → RM c m' → ∀ n', Q (.inl none) m' n') : PW (gZ L xs) k 122 d 76 [some (.ref 376), some (yI x1), some (yI x2), some (yI x3), j4, j5] [yI xs0] m n Q := by
  have hX : J122_76 f x1 x2 x3 xs0 m = J122_76 f x1 x2 x3 xs0 m := rfl
  refine p_istore 78 c122_76 rfl rfl ?_
  refine p_aload 79 c122_78 rfl rfl ?_
  refine p_getX 82 (m 376 4) c122_79 rfl kf376_4 rfl ?_
  refine p_istore 84 c122_82 rfl rfl ?_
  refine p_aload 85 c122_84 rfl rfl ?_
  refine p_iload 87 c122_85 rfl rfl ?_
  refine p_cS 90 [.ref 376, yI xs0] [] c122_87 rfl rfl rfl (fun k' hk' d' => d105 (f := f) (by omega) gxs0 hR) (fun r4877 m4879 hF4875 hg4876 hR4880 n4874 k4873 hk4873 => ?_)
  have hX4878 := hX.trans (bI_s hF4875)
  refine p_if 94 93 c122_90 rfl rfl (yz_ne hg4876) (fun hb4881 k4882 hk4882 => ?_) (fun hb4881 k4883 hk4883 => ?_)
  · have hX4884 := hX4878.trans (if_neg hb4881)
    refine p_iload 95 c122_94 rfl rfl ?_
    refine p_if 128 98 c122_95 rfl rfl ((yz_ge gx3).trans Int.not_lt.symm) (fun hb4885 k4886 hk4886 => ?_) (fun hb4885 k4887 hk4887 => ?_)
    · have hX4888 := hX4884.trans (if_neg hb4885)
      exact tJ122_128 (f := f) (by omega) gx1 gx2 gx3 hR4880 (fun m' e' => Hr m' (hX4888.trans e'))
    · have hX4904 := hX4884.trans (if_pos (Classical.not_not.mp hb4885))
      refine p_aload 99 c122_98 rfl rfl ?_
      refine p_getR 102 c122_99 rfl kf376_22 ?_
      refine p_iload 103 c122_102 rfl rfl ?_
      refine p_iaX 104 (m4879 385 x1.toNat) c122_103 rfl ka385 gx1 rfl (fun hx4905 => ?_)
      refine p_istore 105 c122_104 rfl rfl ?_
      refine p_aload 106 c122_105 rfl rfl ?_
      refine p_getR 109 c122_106 rfl kf376_31 ?_
      refine p_iconst 111 c122_109 rfl ?_
      refine p_iload 112 c122_111 rfl rfl ?_
      refine p_imul 113 c122_112 rfl ?_
      refine p_iload 114 c122_113 rfl rfl ?_
      refine p_iadd 115 c122_114 rfl ?_
      refine p_iload 117 c122_115 rfl rfl ?_
      refine p_iaS 118 c122_117 rfl ka394 (rg_wr _) (m 376 4) (nar0 (hR.rg _ _)) (fun hx4906 => ?_)
      have hR4907 := hR4880.up 394 (wr ((wr (8 * x1)) + (m4879 385 x1.toNat))).toNat (v := m 376 4) (nselA (by decide)) (hR.rg _ _)
      refine p_aload 119 c122_118 rfl rfl ?_
      refine p_getR 122 c122_119 rfl kf376_22 ?_
      refine p_iload 123 c122_122 rfl rfl ?_
      refine p_dup2 124 c122_123 rfl ⟨rfl, rfl⟩ ?_
      refine p_iaX 125 (m4879 385 x1.toNat) c122_124 rfl ka385 gx1 (yup_na (by decide)) (fun hx4908 => ?_)
      refine p_iconst 126 c122_125 rfl ?_
      refine p_iadd 127 c122_126 rfl ?_
      refine p_iaS 128 c122_127 rfl ka385 gx1 (wr ((m4879 385 x1.toNat) + 1)) (nar0 (rg_wr _)) (fun hx4909 => ?_)
      have hR4910 := hR4907.up 385 x1.toNat (v := wr ((m4879 385 x1.toNat) + 1)) (nselA (by decide)) (rg_wr _)
      exact tJ122_128 (f := f) (by omega) gx1 gx2 (hR4880.rg _ _) hR4910 (fun m' e' => Hr m' (hX4904.trans e'))
  · have hX4911 := hX4878.trans (if_pos (Classical.not_not.mp hb4881))
    exact p_return c122_93 (Hr _ hX4911 hR4880 _)
def J122_75 (f : Nat) (x1 : Int) (x2 : Int) (x3 : Int) (m : yM) : Option yM := (J122_76 f x1 x2 x3 0 m)
set_option maxRecDepth 100000 in
theorem tJ122_75 {L : Nat} {xs : Nat → Int32} {Q : xO → yM → Nat → Prop} {k d n : Nat} {c : yS3} {f : Nat} {x1 : Int} {x2 : Int} {x3 : Int} {m : yM} {j4 j5 : Option Value} (hk : k ≤ f) (gx1 : rg x1) (gx2 : rg x2) (gx3 : rg x3) (hR : RM c m) (Hr : ∀ m', J122_75 f x1 x2 x3 m = some m' → RM c m' → ∀ n', Q (.inl none) m' n') : PW (gZ L xs) k 122 d 75 [some (.ref 376), some (yI x1), some (yI x2), some (yI x3), j4, j5] [] m n Q := by
  have hX : J122_75 f x1 x2 x3 m = J122_75 f x1 x2 x3 m := rfl
  refine p_iconst 76 c122_75 rfl ?_
  exact tJ122_76 (f := f) (by omega) gx1 gx2 gx3 (rgD rfl) hR (fun m' e' => Hr m' (hX.trans e'))
def J122_71 (f : Nat) (x1 : Int) (x2 : Int) (x3 : Int) (m : yM) : Option yM := (J122_76 f x1 x2 x3 1 m)
set_option maxRecDepth 100000 in
theorem tJ122_71 {L : Nat} {xs : Nat → Int32} {Q : xO → yM → Nat → Prop} {k d n : Nat} {c : yS3} {f : Nat} {x1 : Int} {x2 : Int} {x3 : Int} {m : yM} {j4 j5 : Option Value} (hk : k ≤ f) (gx1 : rg x1) (gx2 : rg x2) (gx3 : rg x3) (hR : RM c m) (Hr : ∀ m', J122_71 f x1 x2 x3 m = some m' → RM c m' → ∀ n', Q (.inl none) m' n') : PW (gZ L xs) k 122 d 71 [some (.ref 376), some (yI x1), some (yI x2), some (yI x3), j4, j5] [] m n Q := by
  have hX : J122_71 f x1 x2 x3 m = J122_71 f x1 x2 x3 m := rfl
  refine p_iconst 72 c122_71 rfl ?_
  refine p_goto 76 c122_72 rfl ?_
  exact tJ122_76 (f := f) (by omega) gx1 gx2 gx3 (rgD rfl) hR (fun m' e' => Hr m' (hX.trans e'))
def J122_38 (f : Nat) (x1 : Int) (x2 : Int) (xs0 : Int) (m : yM) : Option yM := (if F115 m = 0 then (J122_75 f x1 x2 xs0 m) else (bP (F121 f x1 x2 xs0 m) (fun r4942 => (if r4942 = 0 then (if xs0 < 0 then (if m 385 x1.toNat < 8 then (J122_71 f x1 x2 xs0 m) else (J122_75 f x1 x2 xs0 m)) else (J122_71 f x1 x2 xs0 m)) else (J122_75 f x1 x2 xs0 m)))))
set_option maxRecDepth 100000 in
theorem tJ122_38 {L : Nat} {xs : Nat → Int32} {Q : xO → yM → Nat → Prop} {k d n : Nat} {c : yS3} {f : Nat} {x1 : Int} {x2 : Int} {xs0 : Int} {m : yM} {j3 j4 j5 : Option Value} (hk : k ≤ f) (gx1 : rg x1) (gx2 : rg x2) (gxs0 : rg xs0) (hR : RM c m) (Hr : ∀ m', J122_38 f x1 x2 xs0 m = some m' → RM c m' → ∀ n', Q (.inl none) m' n') : PW (gZ L xs) k 122 d 38 [some (.ref 376), some (yI x1), some (yI x2), j3, j4, j5] [yI xs0] m n Q := by
  have hX : J122_38 f x1 x2 xs0 m = J122_38 f x1 x2 xs0 m := rfl
  refine p_istore 39 c122_38 rfl rfl ?_
  refine p_aload 40 c122_39 rfl rfl ?_
  refine p_cX 43 [.ref 376] [] c122_40 rfl rfl rfl (fun k' hk' d' => d115 hR) (fun hg4868 n4867 k4866 hk4866 => ?_)
  refine p_if 75 46 c122_43 rfl rfl (yz_eq hg4868) (fun hb4869 k4870 hk4870 => ?_) (fun hb4869 k4871 hk4871 => ?_)
  · have hX4872 := hX.trans (if_pos hb4869)
    exact tJ122_75 (f := f) (by omega) gx1 gx2 gxs0 hR (fun m' e' => Hr m' (hX4872.trans e'))
  · have hX4912 := hX.trans (if_neg hb4869)
    refine p_aload 47 c122_46 rfl rfl ?_
    refine p_iload 48 c122_47 rfl rfl ?_
    refine p_iload 49 c122_48 rfl rfl ?_
    refine p_iload 50 c122_49 rfl rfl ?_
    refine p_cO 53 [.ref 376, yI x1, yI x2, yI xs0] [] c122_50 rfl rfl rfl (fun k' hk' d' => d121 (f := f) (by omega) gx1 gx2 gxs0 hR) (fun r4942 hF4940 hg4941 n4914 k4913 hk4913 => ?_)
    have hX4943 := hX4912.trans (bP_s hF4940)
    refine p_if 75 56 c122_53 rfl rfl (yz_ne hg4941) (fun hb4944 k4945 hk4945 => ?_) (fun hb4944 k4946 hk4946 => ?_)
    · have hX4947 := hX4943.trans (if_neg hb4944)
      exact tJ122_75 (f := f) (by omega) gx1 gx2 gxs0 hR (fun m' e' => Hr m' (hX4947.trans e'))
    · have hX4948 := hX4943.trans (if_pos (Classical.not_not.mp hb4944))
      refine p_iload 57 c122_56 rfl rfl ?_
      refine p_if 71 60 c122_57 rfl rfl ((yz_ge gxs0).trans Int.not_lt.symm) (fun hb4949 k4950 hk4950 => ?_) (fun hb4949 k4951 hk4951 => ?_)
      · have hX4952 := hX4948.trans (if_neg hb4949)
        exact tJ122_71 (f := f) (by omega) gx1 gx2 gxs0 hR (fun m' e' => Hr m' (hX4952.trans e'))
      · have hX4953 := hX4948.trans (if_pos (Classical.not_not.mp hb4949))
        refine p_aload 61 c122_60 rfl rfl ?_
        refine p_getR 64 c122_61 rfl kf376_22 ?_
        refine p_iload 65 c122_64 rfl rfl ?_
        refine p_iaX 66 (m 385 x1.toNat) c122_65 rfl ka385 gx1 rfl (fun hx4954 => ?_)
        refine p_iconst 68 c122_66 rfl ?_
        refine p_icmp 75 71 c122_68 rfl rfl ((yc_ge (hR.rg _ _) (rgD rfl)).trans Int.not_lt.symm) (fun hb4955 k4956 hk4956 => ?_) (fun hb4955 k4957 hk4957 => ?_)
        · have hX4958 := hX4953.trans (if_neg hb4955)
          exact tJ122_75 (f := f) (by omega) gx1 gx2 gxs0 hR (fun m' e' => Hr m' (hX4958.trans e'))
        · have hX4959 := hX4953.trans (if_pos (Classical.not_not.mp hb4955))
          exact tJ122_71 (f := f) (by omega) gx1 gx2 gxs0 hR (fun m' e' => Hr m' (hX4959.trans e'))
def F122 (f : Nat) (m : yM) : Option yM := (bU (F99 f m) (fun m4857 => (if F115 m4857 = 0 then (J122_38 f (F96 m) (wr ((m 383 (F96 m).toNat) - 1)) ((-1)) m4857) else (bP (F120 f (F96 m) (m4857 376 4) m4857) (fun r4985 => (J122_38 f (F96 m) (wr ((m 383 (F96 m).toNat) - 1)) r4985 m4857))))))
set_option maxRecDepth 100000 in
theorem d122 {L : Nat} {xs : Nat → Int32} {k d n : Nat} {c : yS3} {f : Nat} {m : yM} (hk : k ≤ f) (hR : RM c m) : PC (gZ L xs) k d 122 [.ref 376] m n (qV c (F122 f m)) := by
  have hX : F122 f m = F122 f m := rfl
  have Hr : ∀ m', F122 f m = some m' → RM c m' → ∀ n' : Nat, (qV c (F122 f m)) (.inl none) m' n' := fun m' e h n' => ⟨rfl, h, e⟩
  refine PC.mk [some (.ref 376), none, none, none, none, none] kn122 rfl ?_
  refine p_aload 1 c122_0 rfl rfl ?_
  refine p_cX 4 [.ref 376] [] c122_1 rfl rfl rfl (fun k' hk' d' => d96 hR) (fun hg4849 n4848 k4847 hk4847 => ?_)
  refine p_istore 5 c122_4 rfl rfl ?_
  refine p_aload 6 c122_5 rfl rfl ?_
  refine p_getR 9 c122_6 rfl kf376_20 ?_
  refine p_iload 10 c122_9 rfl rfl ?_
  refine p_iaX 11 (m 383 (F96 m).toNat) c122_10 rfl ka383 hg4849 rfl (fun hx4850 => ?_)
  refine p_iconst 12 c122_11 rfl ?_
  refine p_isub 13 c122_12 rfl ?_
  refine p_istore 14 c122_13 rfl rfl ?_
  refine p_aload 15 c122_14 rfl rfl ?_
  refine p_cV 18 [.ref 376] [] c122_15 rfl rfl rfl (fun k' hk' d' => d99 (f := f) (by omega) hR) (fun m4857 hF4853 hR4858 n4852 k4851 hk4851 => ?_)
  have hX4856 := hX.trans (bU_s hF4853)
  refine p_aload 19 c122_18 rfl rfl ?_
  refine p_cX 22 [.ref 376] [] c122_19 rfl rfl rfl (fun k' hk' d' => d115 hR4858) (fun hg4861 n4860 k4859 hk4859 => ?_)
  refine p_if 37 25 c122_22 rfl rfl (yz_eq hg4861) (fun hb4862 k4863 hk4863 => ?_) (fun hb4862 k4864 hk4864 => ?_)
  · have hX4865 := hX4856.trans (if_pos hb4862)
    refine p_iconst 38 c122_37 rfl ?_
    exact tJ122_38 (f := f) (by omega) hg4849 (rg_wr _) (rgD rfl) hR4858 (fun m' e' => Hr m' (hX4865.trans e'))
  · have hX4960 := hX4856.trans (if_neg hb4862)
    refine p_aload 26 c122_25 rfl rfl ?_
    refine p_iload 27 c122_26 rfl rfl ?_
    refine p_aload 28 c122_27 rfl rfl ?_
    refine p_getX 31 (m4857 376 4) c122_28 rfl kf376_4 rfl ?_
    refine p_cO 34 [.ref 376, yI (F96 m), yI (m4857 376 4)] [] c122_31 rfl rfl rfl (fun k' hk' d' => d120 (f := f) (by omega) hg4849 (hR4858.rg _ _) hR4858) (fun r4985 hF4983 hg4984 n4962 k4961 hk4961 => ?_)
    have hX4986 := hX4960.trans (bP_s hF4983)
    refine p_goto 38 c122_34 rfl ?_
    exact tJ122_38 (f := f) (by omega) hg4849 (rg_wr _) hg4984 hR4858 (fun m' e' => Hr m' (hX4986.trans e'))
def B140_4 (f : Nat) (m : yM) : Option ((Unit × yM) ⊕ ((Unit × yM) ⊕ (Unit × yM))) := (if m 376 8 < 0 then (if F117 125 m = 0 then (if F106 m = 0 then (if F107 m = 0 then (bU (F104 f m) (fun m3494 => (some (.inl ((), m3494))))) else (bU (F126 f m) (fun m3802 => (if m3802 376 8 < 0 then (bU (F139 f m3802) (fun m4841 => (some (.inl ((), m4841))))) else (some (.inl ((), m3802))))))) else (bU (F122 f m) (fun m4991 => (some (.inl ((), m4991)))))) else (some (.inr (.inl ((), m))))) else (some (.inr (.inl ((), m)))))
set_option maxRecDepth 100000 in
theorem tB140_4 {L : Nat} {xs : Nat → Int32} {Q : xO → yM → Nat → Prop} {k d n : Nat} {c : yS3} {f : Nat} {m : yM} (hk : k ≤ f) (hR : RM c m) (Hn : ∀ (m' : yM) (n' : Nat), B140_4 f m = some (.inl ((), m')) → RM c m' → ∀ k', k' < k → PW (gZ L xs) k' 140 d 4 [some (.ref 376)] [] m' n' Q) (He : ∀ (m' : yM) (n' : Nat), B140_4 f m = some (.inr (.inl ((), m'))) → RM c m' → ∀ k', k' ≤ k → PW (gZ L xs) k' 140 d 66 [some (.ref 376)] [] m' n' Q) (Hr : ∀ m', B140_4 f m = some (.inr (.inr ((), m'))) → RM c m' → ∀ n', Q (.inl none) m' n') : PW (gZ L xs) k 140 d 4 [some (.ref 376)] [] m n Q := by
  have hX : B140_4 f m = B140_4 f m := rfl
  refine p_aload 5 c140_4 rfl rfl ?_
  refine p_getX 8 (m 376 8) c140_5 rfl kf376_8 rfl ?_
  refine p_if 66 11 c140_8 rfl rfl ((yz_ge (hR.rg _ _)).trans Int.not_lt.symm) (fun hb3461 k3462 hk3462 => ?_) (fun hb3461 k3463 hk3463 => ?_)
  · have hX3464 := hX.trans (if_neg hb3461)
    exact He _ _ hX3464 hR _ (by omega)
  · have hX3465 := hX.trans (if_pos (Classical.not_not.mp hb3461))
    refine p_aload 12 c140_11 rfl rfl ?_
    refine p_iconst 14 c140_12 rfl ?_
    refine p_cX 17 [.ref 376, yI 125] [] c140_14 rfl rfl rfl (fun k' hk' d' => d117 (rgD rfl) hR) (fun hg3468 n3467 k3466 hk3466 => ?_)
    refine p_if 66 20 c140_17 rfl rfl (yz_ne hg3468) (fun hb3469 k3470 hk3470 => ?_) (fun hb3469 k3471 hk3471 => ?_)
    · have hX3472 := hX3465.trans (if_neg hb3469)
      exact He _ _ hX3472 hR _ (by omega)
    · have hX3473 := hX3465.trans (if_pos (Classical.not_not.mp hb3469))
      refine p_aload 21 c140_20 rfl rfl ?_
      refine p_cX 24 [.ref 376] [] c140_21 rfl rfl rfl (fun k' hk' d' => d106 hR) (fun hg3476 n3475 k3474 hk3474 => ?_)
      refine p_if 34 27 c140_24 rfl rfl (yz_eq hg3476) (fun hb3477 k3478 hk3478 => ?_) (fun hb3477 k3479 hk3479 => ?_)
      · have hX3480 := hX3473.trans (if_pos hb3477)
        refine p_aload 35 c140_34 rfl rfl ?_
        refine p_cX 38 [.ref 376] [] c140_35 rfl rfl rfl (fun k' hk' d' => d107 hR) (fun hg3483 n3482 k3481 hk3481 => ?_)
        refine p_if 59 41 c140_38 rfl rfl (yz_eq hg3483) (fun hb3484 k3485 hk3485 => ?_) (fun hb3484 k3486 hk3486 => ?_)
        · have hX3487 := hX3480.trans (if_pos hb3484)
          refine p_aload 60 c140_59 rfl rfl ?_
          refine p_cV 63 [.ref 376] [] c140_60 rfl rfl rfl (fun k' hk' d' => d104 (f := f) (by omega) hR) (fun m3494 hF3490 hR3495 n3489 k3488 hk3488 => ?_)
          have hX3493 := hX3487.trans (bU_s hF3490)
          refine p_gotoD 4 c140_63 rfl (fun k3496 hk3496 => ?_)
          exact Hn _ _ hX3493 hR3495 _ (by omega)
        · have hX3497 := hX3480.trans (if_neg hb3484)
          refine p_aload 42 c140_41 rfl rfl ?_
          refine p_cV 45 [.ref 376] [] c140_42 rfl rfl rfl (fun k' hk' d' => d126 (f := f) (by omega) hR) (fun m3802 hF3798 hR3803 n3499 k3498 hk3498 => ?_)
          have hX3801 := hX3497.trans (bU_s hF3798)
          refine p_aload 46 c140_45 rfl rfl ?_
          refine p_getX 49 (m3802 376 8) c140_46 rfl kf376_8 rfl ?_
          refine p_if 4 52 c140_49 rfl rfl ((yz_ge (hR3803.rg _ _)).trans Int.not_lt.symm) (fun hb3804 k3805 hk3805 => ?_) (fun hb3804 k3806 hk3806 => ?_)
          · have hX3807 := hX3801.trans (if_neg hb3804)
            exact Hn _ _ hX3807 hR3803 _ (by omega)
          · have hX3808 := hX3801.trans (if_pos (Classical.not_not.mp hb3804))
            refine p_aload 53 c140_52 rfl rfl ?_
            refine p_cV 56 [.ref 376] [] c140_53 rfl rfl rfl (fun k' hk' d' => d139 (f := f) (by omega) hR3803) (fun m4841 hF4837 hR4842 n3810 k3809 hk3809 => ?_)
            have hX4840 := hX3808.trans (bU_s hF4837)
            refine p_gotoD 4 c140_56 rfl (fun k4843 hk4843 => ?_)
            exact Hn _ _ hX4840 hR4842 _ (by omega)
      · have hX4844 := hX3473.trans (if_neg hb3477)
        refine p_aload 28 c140_27 rfl rfl ?_
        refine p_cV 31 [.ref 376] [] c140_28 rfl rfl rfl (fun k' hk' d' => d122 (f := f) (by omega) hR) (fun m4991 hF4987 hR4992 n4846 k4845 hk4845 => ?_)
        have hX4990 := hX4844.trans (bU_s hF4987)
        refine p_gotoD 4 c140_31 rfl (fun k4993 hk4993 => ?_)
        exact Hn _ _ hX4990 hR4992 _ (by omega)
def J140_66 (f : Nat) (m : yM) : Option yM := (if m 376 8 < 0 then (bU (F99 f m) (fun m5014 => (some m5014))) else (some m))
set_option maxRecDepth 100000 in
theorem tJ140_66 {L : Nat} {xs : Nat → Int32} {Q : xO → yM → Nat → Prop} {k d n : Nat} {c : yS3} {f : Nat} {m : yM} (hk : k ≤ f) (hR : RM c m) (Hr : ∀ m', J140_66 f m = some m' → RM c m' → ∀ n', Q (.inl none) m' n') : PW (gZ L xs) k 140 d 66 [some (.ref 376)] [] m n Q := by
  have hX : J140_66 f m = J140_66 f m := rfl
  refine p_aload 67 c140_66 rfl rfl ?_
  refine p_getX 70 (m 376 8) c140_67 rfl kf376_8 rfl ?_
  refine p_if 77 73 c140_70 rfl rfl ((yz_ge (hR.rg _ _)).trans Int.not_lt.symm) (fun hb5003 k5004 hk5004 => ?_) (fun hb5003 k5005 hk5005 => ?_)
  · have hX5006 := hX.trans (if_neg hb5003)
    exact p_return c140_77 (Hr _ hX5006 hR _)
  · have hX5007 := hX.trans (if_pos (Classical.not_not.mp hb5003))
    refine p_aload 74 c140_73 rfl rfl ?_
    refine p_cV 77 [.ref 376] [] c140_74 rfl rfl rfl (fun k' hk' d' => d99 (f := f) (by omega) hR) (fun m5014 hF5010 hR5015 n5009 k5008 hk5008 => ?_)
    have hX5013 := hX5007.trans (bU_s hF5010)
    exact p_return c140_77 (Hr _ hX5013 hR5015 _)
def F140 (f : Nat) (m : yM) : Option yM := (bU (F119 f m) (fun m3459 => (bL (yloop (fun (l : Unit) ml => B140_4 f ml) f () m3459) (fun _ m5000 => (J140_66 f m5000)) (fun _ mr => some mr))))
set_option maxRecDepth 100000 in
theorem d140 {L : Nat} {xs : Nat → Int32} {k d n : Nat} {c : yS3} {f : Nat} {m : yM} (hk : k ≤ f) (hR : RM c m) : PC (gZ L xs) k d 140 [.ref 376] m n (qV c (F140 f m)) := by
  have hX : F140 f m = F140 f m := rfl
  have Hr : ∀ m', F140 f m = some m' → RM c m' → ∀ n' : Nat, (qV c (F140 f m)) (.inl none) m' n' := fun m' e h n' => ⟨rfl, h, e⟩
  refine PC.mk [some (.ref 376)] kn140 rfl ?_
  refine p_aload 1 c140_0 rfl rfl ?_
  refine p_cV 4 [.ref 376] [] c140_1 rfl rfl rfl (fun k' hk' d' => d119 (f := f) (by omega) hR) (fun m3459 hF3455 hR3460 n3053 k3052 hk3052 => ?_)
  have hX3458 := hX.trans (bU_s hF3455)
  refine PW.loop (K := k3052) (pce := 66) (fun (l : Unit) ml => B140_4 f ml) (fun (l : Unit) j => [some (.ref 376)]) (fun (l : Unit) => True) (RM c) (fun (r' : Unit) m' => RM c m' → ∀ n' : Nat, (qV c (F140 f m)) (.inl none) m' n') (fun k' hk' l j m' n' hl hI Hn' He' Hr' => tB140_4 (f := f) (by omega) hI (fun  m2 n2 e  hR2 => Hn' () (fun q => ([none] : List (Option Value)).getD q none) m2 n2 e trivial hR2) (fun  m2 n2 e  hR2 => He' () (fun q => ([none] : List (Option Value)).getD q none) m2 n2 e trivial hR2) (fun m2 e => Hr' () m2 e)) f k3052 (by omega) (Nat.le_refl _) () (fun q => ([some (.ref 376)] : xL).getD q none) _ _ trivial hR3460 (fun l4994 j4997 m5000 n4999 e4996 hl4995 hR5001 k4998 hk4998 => ?_) (fun r' m' e' => ?_)
  · have hX5002 := hX3458.trans (bL_l e4996)
    exact tJ140_66 (f := f) (by omega) hR5001 (fun m' e' => Hr m' (hX5002.trans e'))
  · exact Hr m' (hX3458.trans (bL_r e'))
def F142 (f : Nat) (x1 : Int) (x2 : Int) (x3 : Int) (x4 : Int) (m : yM) : Option Int := (bP (F123 f x1 x2 x3 0 m) (fun r5174 => (if r5174 < 0 then (some ((-1))) else (if m 397 (wr ((wr (10 * x1)) + r5174)).toNat = x4 then (some r5174) else (some ((-1)))))))
set_option maxRecDepth 100000 in
theorem d142 {L : Nat} {xs : Nat → Int32} {k d n : Nat} {c : yS3} {f : Nat} {x1 : Int} {x2 : Int} {x3 : Int} {x4 : Int} {m : yM} (hk : k ≤ f) (gx1 : rg x1) (gx2 : rg x2) (gx3 : rg x3) (gx4 : rg x4) (hR : RM c m) : PC (gZ L xs) k d 142 [.ref 376, yI x1, yI x2, yI x3, yI x4] m n (qO m (F142 f x1 x2 x3 x4 m)) := by
  have hX : F142 f x1 x2 x3 x4 m = F142 f x1 x2 x3 x4 m := rfl
  have Hr : ∀ r, F142 f x1 x2 x3 x4 m = some r → rg r → ∀ n' : Nat, (qO m (F142 f x1 x2 x3 x4 m)) (.inl (some (yI r))) m n' := fun r e h n' => ⟨r, rfl, h, rfl, e⟩
  refine PC.mk [some (.ref 376), some (yI x1), some (yI x2), some (yI x3), some (yI x4), none] kn142 rfl ?_
  refine p_aload 1 c142_0 rfl rfl ?_
  refine p_iload 2 c142_1 rfl rfl ?_
  refine p_iload 3 c142_2 rfl rfl ?_
  refine p_iload 4 c142_3 rfl rfl ?_
  refine p_iconst 5 c142_4 rfl ?_
  refine p_cO 8 [.ref 376, yI x1, yI x2, yI x3, yI 0] [] c142_5 rfl rfl rfl (fun k' hk' d' => d123 (f := f) (by omega) gx1 gx2 gx3 (rgD rfl) hR) (fun r5174 hF5172 hg5173 n5171 k5170 hk5170 => ?_)
  have hX5175 := hX.trans (bP_s hF5172)
  refine p_istore 10 c142_8 rfl rfl ?_
  refine p_iload 12 c142_10 rfl rfl ?_
  refine p_if 37 15 c142_12 rfl rfl (yz_lt hg5173) (fun hb5176 k5177 hk5177 => ?_) (fun hb5176 k5178 hk5178 => ?_)
  · have hX5179 := hX5175.trans (if_pos hb5176)
    refine p_iconst 38 c142_37 rfl ?_
    exact p_ireturn c142_38 (Hr _ hX5179 (rgD rfl) _)
  · have hX5180 := hX5175.trans (if_neg hb5176)
    refine p_aload 16 c142_15 rfl rfl ?_
    refine p_getR 19 c142_16 rfl kf376_34 ?_
    refine p_iconst 21 c142_19 rfl ?_
    refine p_iload 22 c142_21 rfl rfl ?_
    refine p_imul 23 c142_22 rfl ?_
    refine p_iload 25 c142_23 rfl rfl ?_
    refine p_iadd 26 c142_25 rfl ?_
    refine p_iaX 27 (m 397 (wr ((wr (10 * x1)) + r5174)).toNat) c142_26 rfl ka397 (rg_wr _) rfl (fun hx5181 => ?_)
    refine p_iload 29 c142_27 rfl rfl ?_
    refine p_icmp 37 32 c142_29 rfl rfl (yc_ne (hR.rg _ _) gx4) (fun hb5182 k5183 hk5183 => ?_) (fun hb5182 k5184 hk5184 => ?_)
    · have hX5185 := hX5180.trans (if_neg hb5182)
      refine p_iconst 38 c142_37 rfl ?_
      exact p_ireturn c142_38 (Hr _ hX5185 (rgD rfl) _)
    · have hX5186 := hX5180.trans (if_pos (Classical.not_not.mp hb5182))
      refine p_iload 34 c142_32 rfl rfl ?_
      refine p_goto 38 c142_34 rfl ?_
      exact p_ireturn c142_38 (Hr _ hX5186 hg5173 _)
def F143 (f : Nat) (m : yM) : Option Int := (bP (F142 f (m 376 18) 0 (F101 103 111 0 0 0 0) 0 m) (fun r5189 => (some r5189)))
set_option maxRecDepth 100000 in
theorem d143 {L : Nat} {xs : Nat → Int32} {k d n : Nat} {c : yS3} {f : Nat} {m : yM} (hk : k ≤ f) (hR : RM c m) : PC (gZ L xs) k d 143 [.ref 376] m n (qO m (F143 f m)) := by
  have hX : F143 f m = F143 f m := rfl
  have Hr : ∀ r, F143 f m = some r → rg r → ∀ n' : Nat, (qO m (F143 f m)) (.inl (some (yI r))) m n' := fun r e h n' => ⟨r, rfl, h, rfl, e⟩
  refine PC.mk [some (.ref 376)] kn143 rfl ?_
  refine p_aload 1 c143_0 rfl rfl ?_
  refine p_aload 2 c143_1 rfl rfl ?_
  refine p_getX 5 (m 376 18) c143_2 rfl kf376_18 rfl ?_
  refine p_iconst 6 c143_5 rfl ?_
  refine p_iconst 8 c143_6 rfl ?_
  refine p_iconst 10 c143_8 rfl ?_
  refine p_iconst 11 c143_10 rfl ?_
  refine p_iconst 12 c143_11 rfl ?_
  refine p_iconst 13 c143_12 rfl ?_
  refine p_iconst 14 c143_13 rfl ?_
  refine p_cX 17 [yI 103, yI 111, yI 0, yI 0, yI 0, yI 0] [yI 0, yI (m 376 18), .ref 376] c143_14 rfl rfl rfl (fun k' hk' d' => d101 (rgD rfl) (rgD rfl) (rgD rfl) (rgD rfl) (rgD rfl) (rgD rfl) hR) (fun hg5167 n5166 k5165 hk5165 => ?_)
  refine p_iconst 18 c143_17 rfl ?_
  refine p_cO 21 [.ref 376, yI (m 376 18), yI 0, yI (F101 103 111 0 0 0 0), yI 0] [] c143_18 rfl rfl rfl (fun k' hk' d' => d142 (f := f) (by omega) (hR.rg _ _) (rgD rfl) hg5167 (rgD rfl) hR) (fun r5189 hF5187 hg5188 n5169 k5168 hk5168 => ?_)
  have hX5190 := hX.trans (bP_s hF5187)
  exact p_ireturn c143_21 (Hr _ hX5190 hg5188 _)
def F144 (x1 : Int) (m : yM) : Int := (if x1 < 0 then 0 else (if x1 < m 376 45 then 1 else 0))
set_option maxRecDepth 100000 in
theorem d144 {L : Nat} {xs : Nat → Int32} {k d n : Nat} {c : yS3} {x1 : Int} {m : yM} (gx1 : rg x1) (hR : RM c m) : PC (gZ L xs) k d 144 [.ref 376, yI x1] m n (qX m (F144 x1 m)) := by
  have hX : F144 x1 m = F144 x1 m := rfl
  have Hr : ∀ r, F144 x1 m = r → rg r → ∀ n' : Nat, (qX m (F144 x1 m)) (.inl (some (yI r))) m n' := fun r e h n' => by subst e; exact ⟨rfl, h, rfl⟩
  refine PC.mk [some (.ref 376), some (yI x1)] kn144 rfl ?_
  refine p_iload 1 c144_0 rfl rfl ?_
  refine p_if 16 4 c144_1 rfl rfl (yz_lt gx1) (fun hb5222 k5223 hk5223 => ?_) (fun hb5222 k5224 hk5224 => ?_)
  · have hX5225 := hX.trans (if_pos hb5222)
    refine p_iconst 17 c144_16 rfl ?_
    exact p_ireturn c144_17 (Hr _ hX5225 (rgD rfl) _)
  · have hX5226 := hX.trans (if_neg hb5222)
    refine p_iload 5 c144_4 rfl rfl ?_
    refine p_aload 6 c144_5 rfl rfl ?_
    refine p_getX 9 (m 376 45) c144_6 rfl kf376_45 rfl ?_
    refine p_icmp 16 12 c144_9 rfl rfl ((yc_ge gx1 (hR.rg _ _)).trans Int.not_lt.symm) (fun hb5227 k5228 hk5228 => ?_) (fun hb5227 k5229 hk5229 => ?_)
    · have hX5230 := hX5226.trans (if_neg hb5227)
      refine p_iconst 17 c144_16 rfl ?_
      exact p_ireturn c144_17 (Hr _ hX5230 (rgD rfl) _)
    · have hX5231 := hX5226.trans (if_pos (Classical.not_not.mp hb5227))
      refine p_iconst 13 c144_12 rfl ?_
      refine p_goto 17 c144_13 rfl ?_
      exact p_ireturn c144_17 (Hr _ hX5231 (rgD rfl) _)
def F145 (f : Nat) (x1 : Int) (x2 : Int) (m : yM) : Option yM := (if m 404 (wr ((wr (12 * x1)) + x2)).toNat < 0 then (some (yup (yup m 404 (wr ((wr (12 * x1)) + x2)).toNat (m 376 45)) 376 46 1)) else (some m))
set_option maxRecDepth 100000 in
theorem d145 {L : Nat} {xs : Nat → Int32} {k d n : Nat} {c : yS3} {f : Nat} {x1 : Int} {x2 : Int} {m : yM} (hk : k ≤ f) (gx1 : rg x1) (gx2 : rg x2) (hR : RM c m) : PC (gZ L xs) k d 145 [.ref 376, yI x1, yI x2] m n (qV c (F145 f x1 x2 m)) := by
  have hX : F145 f x1 x2 m = F145 f x1 x2 m := rfl
  have Hr : ∀ m', F145 f x1 x2 m = some m' → RM c m' → ∀ n' : Nat, (qV c (F145 f x1 x2 m)) (.inl none) m' n' := fun m' e h n' => ⟨rfl, h, e⟩
  refine PC.mk [some (.ref 376), some (yI x1), some (yI x2)] kn145 rfl ?_
  refine p_aload 1 c145_0 rfl rfl ?_
  refine p_getR 4 c145_1 rfl kf376_41 ?_
  refine p_iconst 6 c145_4 rfl ?_
  refine p_iload 7 c145_6 rfl rfl ?_
  refine p_imul 8 c145_7 rfl ?_
  refine p_iload 9 c145_8 rfl rfl ?_
  refine p_iadd 10 c145_9 rfl ?_
  refine p_iaX 11 (m 404 (wr ((wr (12 * x1)) + x2)).toNat) c145_10 rfl ka404 (rg_wr _) rfl (fun hx5354 => ?_)
  refine p_if 15 14 c145_11 rfl rfl (yz_lt (hR.rg _ _)) (fun hb5355 k5356 hk5356 => ?_) (fun hb5355 k5357 hk5357 => ?_)
  · have hX5358 := hX.trans (if_pos hb5355)
    refine p_aload 16 c145_15 rfl rfl ?_
    refine p_getR 19 c145_16 rfl kf376_41 ?_
    refine p_iconst 21 c145_19 rfl ?_
    refine p_iload 22 c145_21 rfl rfl ?_
    refine p_imul 23 c145_22 rfl ?_
    refine p_iload 24 c145_23 rfl rfl ?_
    refine p_iadd 25 c145_24 rfl ?_
    refine p_aload 26 c145_25 rfl rfl ?_
    refine p_getX 29 (m 376 45) c145_26 rfl kf376_45 rfl ?_
    refine p_iaS 30 c145_29 rfl ka404 (rg_wr _) (m 376 45) (nar0 (hR.rg _ _)) (fun hx5359 => ?_)
    have hR5360 := hR.up 404 (wr ((wr (12 * x1)) + x2)).toNat (v := m 376 45) (nselA (by decide)) (hR.rg _ _)
    refine p_aload 31 c145_30 rfl rfl ?_
    refine p_iconst 32 c145_31 rfl ?_
    refine p_putI 35 c145_32 rfl kf376_46 ?_
    have hR5361 := hR5360.up 376 46 (v := 1) (nselD rfl) (rgD rfl)
    exact p_return c145_35 (Hr _ hX5358 hR5361 _)
  · have hX5362 := hX.trans (if_neg hb5355)
    exact p_return c145_14 (Hr _ hX5362 hR _)
def J147_244 (f : Nat) (x1 : Int) (x2 : Int) (x3 : Int) (x4 : Int) (x5 : Int) (m : yM) : Option ((Int × yM) ⊕ ((Int × yM) ⊕ (Unit × yM))) := (some (.inl ((wr (x5 + 1)), m)))
set_option maxRecDepth 100000 in
theorem tJ147_244 {L : Nat} {xs : Nat → Int32} {Q : xO → yM → Nat → Prop} {k d n : Nat} {c : yS3} {f : Nat} {x1 : Int} {x2 : Int} {x3 : Int} {x4 : Int} {x5 : Int} {m : yM} {j6 j7 : Option Value} (hk : k ≤ f) (gx1 : rg x1) (gx2 : rg x2) (gx3 : rg x3) (gx4 : rg x4) (gx5 : rg x5) (hR : RM c m) (Hn : ∀ (y0 : Int) (z0 z1 : Option Value) (m' : yM) (n' : Nat), J147_244 f x1 x2 x3 x4 x5 m = some (.inl (y0, m')) → rg y0 → RM c m' → ∀ k', k' < k → PW (gZ L xs) k' 147 d 53 [some (.ref 376), some (yI x1), some (yI x2), some (yI x3), some (yI x4), some (yI y0), z0, z1] [] m' n' Q) (He : ∀ (y0 : Int) (z0 z1 : Option Value) (m' : yM) (n' : Nat), J147_244 f x1 x2 x3 x4 x5 m = some (.inr (.inl (y0, m'))) → rg y0 → RM c m' → ∀ k', k' ≤ k → PW (gZ L xs) k' 147 d 250 [some (.ref 376), some (yI x1), some (yI x2), some (yI x3), some (yI x4), some (yI y0), z0, z1] [] m' n' Q) (Hr : ∀ m', J147_244 f x1 x2 x3 x4 x5 m = some (.inr (.inr ((), m'))) → RM c m' → ∀ n', Q (.inl none) m' n') : PW (gZ L xs) k 147 d 244 [some (.ref 376), some (yI x1), some (yI x2), some (yI x3), some (yI x4), some (yI x5), j6, j7] [] m n Q := by
  have hX : J147_244 f x1 x2 x3 x4 x5 m = J147_244 f x1 x2 x3 x4 x5 m := rfl
  refine p_iinc 247 c147_244 rfl rfl rfl ?_
  refine p_gotoD 53 c147_247 rfl (fun k5292 hk5292 => ?_)
  exact Hn _ _ _ _ _ hX (rg_wr _) hR _ (by omega)
def J147_238 (f : Nat) (x1 : Int) (x2 : Int) (x3 : Int) (x4 : Int) (x5 : Int) (x6 : Int) (m : yM) : Option ((Int × yM) ⊕ ((Int × yM) ⊕ (Unit × yM))) := (some (.inl ((wr (x6 + 1)), m)))
set_option maxRecDepth 100000 in
theorem tJ147_238 {L : Nat} {xs : Nat → Int32} {Q : xO → yM → Nat → Prop} {k d n : Nat} {c : yS3} {f : Nat} {x1 : Int} {x2 : Int} {x3 : Int} {x4 : Int} {x5 : Int} {x6 : Int} {m : yM} {j7 : Option Value} (hk : k ≤ f) (gx1 : rg x1) (gx2 : rg x2) (gx3 : rg x3) (gx4 : rg x4) (gx5 : rg x5) (gx6 : rg x6) (hR : RM c m) (Hn : ∀ (y0 : Int) (z0 : Option Value) (m' : yM) (n' : Nat), J147_238 f x1 x2 x3 x4 x5 x6 m = some (.inl (y0, m')) → rg y0 → RM c m' → ∀ k', k' < k → PW (gZ L xs) k' 147 d 94 [some (.ref 376), some (yI x1), some (yI x2), some (yI x3), some (yI x4), some (yI x5), some (yI y0), z0] [] m' n' Q) (He : ∀ (y0 : Int) (z0 : Option Value) (m' : yM) (n' : Nat), J147_238 f x1 x2 x3 x4 x5 x6 m = some (.inr (.inl (y0, m'))) → rg y0 → RM c m' → ∀ k', k' ≤ k → PW (gZ L xs) k' 147 d 244 [some (.ref 376), some (yI x1), some (yI x2), some (yI x3), some (yI x4), some (yI x5), some (yI y0), z0] [] m' n' Q) (Hr : ∀ m', J147_238 f x1 x2 x3 x4 x5 x6 m = some (.inr (.inr ((), m'))) → RM c m' → ∀ n', Q (.inl none) m' n') : PW (gZ L xs) k 147 d 238 [some (.ref 376), some (yI x1), some (yI x2), some (yI x3), some (yI x4), some (yI x5), some (yI x6), j7] [] m n Q := by
  have hX : J147_238 f x1 x2 x3 x4 x5 x6 m = J147_238 f x1 x2 x3 x4 x5 x6 m := rfl
  refine p_iinc 241 c147_238 rfl rfl rfl ?_
  refine p_gotoD 94 c147_241 rfl (fun k5308 hk5308 => ?_)
  exact Hn _ _ _ _ hX (rg_wr _) hR _ (by omega)
def J147_155 (f : Nat) (x1 : Int) (x2 : Int) (x3 : Int) (x4 : Int) (x5 : Int) (x6 : Int) (x7 : Int) (m : yM) : Option ((Int × yM) ⊕ ((Int × yM) ⊕ (Unit × yM))) := (if x2 = 0 then (if F144 (m 404 (wr ((wr (12 * (m 403 (wr (x1 + 3)).toNat))) + x6)).toNat) m = 0 then (J147_238 f x1 x2 x3 x4 x5 x6 m) else (if m 405 x7.toNat < 0 then (bP (F121 f (m 376 18) (m 400 (wr ((wr (12 * (m 376 18))) + x5)).toNat) x3 m) (fun r5331 => (if r5331 = 0 then (J147_238 f x1 x2 x3 x4 x5 x6 m) else (J147_238 f x1 x2 x3 x4 x5 x6 (yup (yup m 405 x7.toNat (m 376 45)) 376 46 1))))) else (J147_238 f x1 x2 x3 x4 x5 x6 m))) else (J147_238 f x1 x2 x3 x4 x5 x6 m))
set_option maxRecDepth 100000 in
theorem tJ147_155 {L : Nat} {xs : Nat → Int32} {Q : xO → yM → Nat → Prop} {k d n : Nat} {c : yS3} {f : Nat} {x1 : Int} {x2 : Int} {x3 : Int} {x4 : Int} {x5 : Int} {x6 : Int} {x7 : Int} {m : yM} (hk : k ≤ f) (gx1 : rg x1) (gx2 : rg x2) (gx3 : rg x3) (gx4 : rg x4) (gx5 : rg x5) (gx6 : rg x6) (gx7 : rg x7) (hR : RM c m) (Hn : ∀ (y0 : Int) (z0 : Option Value) (m' : yM) (n' : Nat), J147_155 f x1 x2 x3 x4 x5 x6 x7 m = some (.inl (y0, m')) → rg y0 → RM c m' → ∀ k', k' < k → PW (gZ L xs) k' 147 d 94 [some (.ref 376), some (yI x1), some (yI x2), some (yI x3), some (yI x4), some (yI x5), some (yI y0), z0] [] m' n' Q) (He : ∀ (y0 : Int) (z0 : Option Value) (m' : yM) (n' : Nat), J147_155 f x1 x2 x3 x4 x5 x6 x7 m = some (.inr (.inl (y0, m'))) → rg y0 → RM c m' → ∀ k', k' ≤ k → PW (gZ L xs) k' 147 d 244 [some (.ref 376), some (yI x1), some (yI x2), some (yI x3), some (yI x4), some (yI x5), some (yI y0), z0] [] m' n' Q) (Hr : ∀ m', J147_155 f x1 x2 x3 x4 x5 x6 x7 m = some (.inr (.inr ((), m'))) → RM c m' → ∀ n', Q (.inl none) m' n') : PW (gZ L xs) k 147 d 155 [some (.ref 376), some (yI x1), some (yI x2), some (yI x3), some (yI x4), some (yI x5), some (yI x6), some (yI x7)] [] m n Q := by
  have hX : J147_155 f x1 x2 x3 x4 x5 x6 x7 m = J147_155 f x1 x2 x3 x4 x5 x6 x7 m := rfl
  refine p_iload 156 c147_155 rfl rfl ?_
  refine p_if 238 159 c147_156 rfl rfl (yz_ne gx2) (fun hb5304 k5305 hk5305 => ?_) (fun hb5304 k5306 hk5306 => ?_)
  · have hX5307 := hX.trans (if_neg hb5304)
    exact tJ147_238 (f := f) (by omega) gx1 gx2 gx3 gx4 gx5 gx6 hR (fun y0 y1 m' n' e' h0 hR' k' hk' => Hn y0 y1 m' n' (hX5307.trans e') h0 hR' k' (by omega)) (fun y0 y1 m' n' e' h0 hR' k' hk' => He y0 y1 m' n' (hX5307.trans e') h0 hR' k' (by omega)) (fun m' e' => Hr m' (hX5307.trans e'))
  · have hX5309 := hX.trans (if_pos (Classical.not_not.mp hb5304))
    refine p_aload 160 c147_159 rfl rfl ?_
    refine p_aload 161 c147_160 rfl rfl ?_
    refine p_getR 164 c147_161 rfl kf376_41 ?_
    refine p_iconst 166 c147_164 rfl ?_
    refine p_aload 167 c147_166 rfl rfl ?_
    refine p_getR 170 c147_167 rfl kf376_40 ?_
    refine p_iload 171 c147_170 rfl rfl ?_
    refine p_iconst 172 c147_171 rfl ?_
    refine p_iadd 173 c147_172 rfl ?_
    refine p_iaX 174 (m 403 (wr (x1 + 3)).toNat) c147_173 rfl ka403 (rg_wr _) rfl (fun hx5310 => ?_)
    refine p_imul 175 c147_174 rfl ?_
    refine p_iload 177 c147_175 rfl rfl ?_
    refine p_iadd 178 c147_177 rfl ?_
    refine p_iaX 179 (m 404 (wr ((wr (12 * (m 403 (wr (x1 + 3)).toNat))) + x6)).toNat) c147_178 rfl ka404 (rg_wr _) rfl (fun hx5311 => ?_)
    refine p_cX 182 [.ref 376, yI (m 404 (wr ((wr (12 * (m 403 (wr (x1 + 3)).toNat))) + x6)).toNat)] [] c147_179 rfl rfl rfl (fun k' hk' d' => d144 (hR.rg _ _) hR) (fun hg5314 n5313 k5312 hk5312 => ?_)
    refine p_if 238 185 c147_182 rfl rfl (yz_eq hg5314) (fun hb5315 k5316 hk5316 => ?_) (fun hb5315 k5317 hk5317 => ?_)
    · have hX5318 := hX5309.trans (if_pos hb5315)
      exact tJ147_238 (f := f) (by omega) gx1 gx2 gx3 gx4 gx5 gx6 hR (fun y0 y1 m' n' e' h0 hR' k' hk' => Hn y0 y1 m' n' (hX5318.trans e') h0 hR' k' (by omega)) (fun y0 y1 m' n' e' h0 hR' k' hk' => He y0 y1 m' n' (hX5318.trans e') h0 hR' k' (by omega)) (fun m' e' => Hr m' (hX5318.trans e'))
    · have hX5319 := hX5309.trans (if_neg hb5315)
      refine p_aload 186 c147_185 rfl rfl ?_
      refine p_getR 189 c147_186 rfl kf376_42 ?_
      refine p_iload 191 c147_189 rfl rfl ?_
      refine p_iaX 192 (m 405 x7.toNat) c147_191 rfl ka405 gx7 rfl (fun hx5320 => ?_)
      refine p_if 238 195 c147_192 rfl rfl ((yz_ge (hR.rg _ _)).trans Int.not_lt.symm) (fun hb5321 k5322 hk5322 => ?_) (fun hb5321 k5323 hk5323 => ?_)
      · have hX5324 := hX5319.trans (if_neg hb5321)
        exact tJ147_238 (f := f) (by omega) gx1 gx2 gx3 gx4 gx5 gx6 hR (fun y0 y1 m' n' e' h0 hR' k' hk' => Hn y0 y1 m' n' (hX5324.trans e') h0 hR' k' (by omega)) (fun y0 y1 m' n' e' h0 hR' k' hk' => He y0 y1 m' n' (hX5324.trans e') h0 hR' k' (by omega)) (fun m' e' => Hr m' (hX5324.trans e'))
      · have hX5325 := hX5319.trans (if_pos (Classical.not_not.mp hb5321))
        refine p_aload 196 c147_195 rfl rfl ?_
        refine p_aload 197 c147_196 rfl rfl ?_
        refine p_getX 200 (m 376 18) c147_197 rfl kf376_18 rfl ?_
        refine p_aload 201 c147_200 rfl rfl ?_
        refine p_getR 204 c147_201 rfl kf376_37 ?_
        refine p_iconst 206 c147_204 rfl ?_
        refine p_aload 207 c147_206 rfl rfl ?_
        refine p_getX 210 (m 376 18) c147_207 rfl kf376_18 rfl ?_
        refine p_imul 211 c147_210 rfl ?_
        refine p_iload 213 c147_211 rfl rfl ?_
        refine p_iadd 214 c147_213 rfl ?_
        refine p_iaX 215 (m 400 (wr ((wr (12 * (m 376 18))) + x5)).toNat) c147_214 rfl ka400 (rg_wr _) rfl (fun hx5326 => ?_)
        refine p_iload 216 c147_215 rfl rfl ?_
        refine p_cO 219 [.ref 376, yI (m 376 18), yI (m 400 (wr ((wr (12 * (m 376 18))) + x5)).toNat), yI x3] [] c147_216 rfl rfl rfl (fun k' hk' d' => d121 (f := f) (by omega) (hR.rg _ _) (hR.rg _ _) gx3 hR) (fun r5331 hF5329 hg5330 n5328 k5327 hk5327 => ?_)
        have hX5332 := hX5325.trans (bP_s hF5329)
        refine p_if 238 222 c147_219 rfl rfl (yz_eq hg5330) (fun hb5333 k5334 hk5334 => ?_) (fun hb5333 k5335 hk5335 => ?_)
        · have hX5336 := hX5332.trans (if_pos hb5333)
          exact tJ147_238 (f := f) (by omega) gx1 gx2 gx3 gx4 gx5 gx6 hR (fun y0 y1 m' n' e' h0 hR' k' hk' => Hn y0 y1 m' n' (hX5336.trans e') h0 hR' k' (by omega)) (fun y0 y1 m' n' e' h0 hR' k' hk' => He y0 y1 m' n' (hX5336.trans e') h0 hR' k' (by omega)) (fun m' e' => Hr m' (hX5336.trans e'))
        · have hX5337 := hX5332.trans (if_neg hb5333)
          refine p_aload 223 c147_222 rfl rfl ?_
          refine p_getR 226 c147_223 rfl kf376_42 ?_
          refine p_iload 228 c147_226 rfl rfl ?_
          refine p_aload 229 c147_228 rfl rfl ?_
          refine p_getX 232 (m 376 45) c147_229 rfl kf376_45 rfl ?_
          refine p_iaS 233 c147_232 rfl ka405 gx7 (m 376 45) (nar0 (hR.rg _ _)) (fun hx5338 => ?_)
          have hR5339 := hR.up 405 x7.toNat (v := m 376 45) (nselA (by decide)) (hR.rg _ _)
          refine p_aload 234 c147_233 rfl rfl ?_
          refine p_iconst 235 c147_234 rfl ?_
          refine p_putI 238 c147_235 rfl kf376_46 ?_
          have hR5340 := hR5339.up 376 46 (v := 1) (nselD rfl) (rgD rfl)
          exact tJ147_238 (f := f) (by omega) gx1 gx2 gx3 gx4 gx5 gx6 hR5340 (fun y0 y1 m' n' e' h0 hR' k' hk' => Hn y0 y1 m' n' (hX5337.trans e') h0 hR' k' (by omega)) (fun y0 y1 m' n' e' h0 hR' k' hk' => He y0 y1 m' n' (hX5337.trans e') h0 hR' k' (by omega)) (fun m' e' => Hr m' (hX5337.trans e'))
def B147_94 (f : Nat) (x1 : Int) (x2 : Int) (x3 : Int) (x4 : Int) (x5 : Int) (x6 : Int) (m : yM) : Option ((Int × yM) ⊕ ((Int × yM) ⊕ (Unit × yM))) := (if x6 < m 388 (m 376 18).toNat then (if x2 = 0 then (J147_155 f x1 x2 x3 x4 x5 x6 (wr ((wr ((wr (96 * x5)) + (wr (12 * x3)))) + x6)) m) else (if F144 (m 405 (wr ((wr ((wr (96 * x5)) + (wr (12 * x3)))) + x6)).toNat) m = 0 then (J147_155 f x1 x2 x3 x4 x5 x6 (wr ((wr ((wr (96 * x5)) + (wr (12 * x3)))) + x6)) m) else (bU (F145 f (m 403 (wr (x1 + 2)).toNat) x6 m) (fun m5367 => (J147_155 f x1 x2 x3 x4 x5 x6 (wr ((wr ((wr (96 * x5)) + (wr (12 * x3)))) + x6)) m5367))))) else (some (.inr (.inl (x6, m)))))
set_option maxRecDepth 100000 in
theorem tB147_94 {L : Nat} {xs : Nat → Int32} {Q : xO → yM → Nat → Prop} {k d n : Nat} {c : yS3} {f : Nat} {x1 : Int} {x2 : Int} {x3 : Int} {x4 : Int} {x5 : Int} {x6 : Int} {m : yM} {j7 : Option Value} (hk : k ≤ f) (gx1 : rg x1) (gx2 : rg x2) (gx3 : rg x3) (gx4 : rg x4) (gx5 : rg x5) (gx6 : rg x6) (hR : RM c m) (Hn : ∀ (y0 : Int) (z0 : Option Value) (m' : yM) (n' : Nat), B147_94 f x1 x2 x3 x4 x5 x6 m = some (.inl (y0, m')) → rg y0 → RM c m' → ∀ k', k' < k → PW (gZ L xs) k' 147 d 94 [some (.ref 376), some (yI x1), some (yI x2), some (yI x3), some (yI x4), some (yI x5), some (yI y0), z0] [] m' n' Q) (He : ∀ (y0 : Int) (z0 : Option Value) (m' : yM) (n' : Nat), B147_94 f x1 x2 x3 x4 x5 x6 m = some (.inr (.inl (y0, m'))) → rg y0 → RM c m' → ∀ k', k' ≤ k → PW (gZ L xs) k' 147 d 244 [some (.ref 376), some (yI x1), some (yI x2), some (yI x3), some (yI x4), some (yI x5), some (yI y0), z0] [] m' n' Q) (Hr : ∀ m', B147_94 f x1 x2 x3 x4 x5 x6 m = some (.inr (.inr ((), m'))) → RM c m' → ∀ n', Q (.inl none) m' n') : PW (gZ L xs) k 147 d 94 [some (.ref 376), some (yI x1), some (yI x2), some (yI x3), some (yI x4), some (yI x5), some (yI x6), j7] [] m n Q := by
  have hX : B147_94 f x1 x2 x3 x4 x5 x6 m = B147_94 f x1 x2 x3 x4 x5 x6 m := rfl
  refine p_iload 96 c147_94 rfl rfl ?_
  refine p_aload 97 c147_96 rfl rfl ?_
  refine p_getR 100 c147_97 rfl kf376_25 ?_
  refine p_aload 101 c147_100 rfl rfl ?_
  refine p_getX 104 (m 376 18) c147_101 rfl kf376_18 rfl ?_
  refine p_iaX 105 (m 388 (m 376 18).toNat) c147_104 rfl ka388 (hR.rg _ _) rfl (fun hx5294 => ?_)
  refine p_icmp 244 108 c147_105 rfl rfl ((yc_ge gx6 (hR.rg _ _)).trans Int.not_lt.symm) (fun hb5295 k5296 hk5296 => ?_) (fun hb5295 k5297 hk5297 => ?_)
  · have hX5298 := hX.trans (if_neg hb5295)
    exact He _ _ _ _ hX5298 gx6 hR _ (by omega)
  · have hX5299 := hX.trans (if_pos (Classical.not_not.mp hb5295))
    refine p_iconst 110 c147_108 rfl ?_
    refine p_iload 112 c147_110 rfl rfl ?_
    refine p_imul 113 c147_112 rfl ?_
    refine p_iconst 115 c147_113 rfl ?_
    refine p_iload 116 c147_115 rfl rfl ?_
    refine p_imul 117 c147_116 rfl ?_
    refine p_iadd 118 c147_117 rfl ?_
    refine p_iload 120 c147_118 rfl rfl ?_
    refine p_iadd 121 c147_120 rfl ?_
    refine p_istore 123 c147_121 rfl rfl ?_
    refine p_iload 124 c147_123 rfl rfl ?_
    refine p_if 155 127 c147_124 rfl rfl (yz_eq gx2) (fun hb5300 k5301 hk5301 => ?_) (fun hb5300 k5302 hk5302 => ?_)
    · have hX5303 := hX5299.trans (if_pos hb5300)
      exact tJ147_155 (f := f) (by omega) gx1 gx2 gx3 gx4 gx5 gx6 (rg_wr _) hR (fun y0 y1 m' n' e' h0 hR' k' hk' => Hn y0 y1 m' n' (hX5303.trans e') h0 hR' k' (by omega)) (fun y0 y1 m' n' e' h0 hR' k' hk' => He y0 y1 m' n' (hX5303.trans e') h0 hR' k' (by omega)) (fun m' e' => Hr m' (hX5303.trans e'))
    · have hX5341 := hX5299.trans (if_neg hb5300)
      refine p_aload 128 c147_127 rfl rfl ?_
      refine p_aload 129 c147_128 rfl rfl ?_
      refine p_getR 132 c147_129 rfl kf376_42 ?_
      refine p_iload 134 c147_132 rfl rfl ?_
      refine p_iaX 135 (m 405 (wr ((wr ((wr (96 * x5)) + (wr (12 * x3)))) + x6)).toNat) c147_134 rfl ka405 (rg_wr _) rfl (fun hx5342 => ?_)
      refine p_cX 138 [.ref 376, yI (m 405 (wr ((wr ((wr (96 * x5)) + (wr (12 * x3)))) + x6)).toNat)] [] c147_135 rfl rfl rfl (fun k' hk' d' => d144 (hR.rg _ _) hR) (fun hg5345 n5344 k5343 hk5343 => ?_)
      refine p_if 155 141 c147_138 rfl rfl (yz_eq hg5345) (fun hb5346 k5347 hk5347 => ?_) (fun hb5346 k5348 hk5348 => ?_)
      · have hX5349 := hX5341.trans (if_pos hb5346)
        exact tJ147_155 (f := f) (by omega) gx1 gx2 gx3 gx4 gx5 gx6 (rg_wr _) hR (fun y0 y1 m' n' e' h0 hR' k' hk' => Hn y0 y1 m' n' (hX5349.trans e') h0 hR' k' (by omega)) (fun y0 y1 m' n' e' h0 hR' k' hk' => He y0 y1 m' n' (hX5349.trans e') h0 hR' k' (by omega)) (fun m' e' => Hr m' (hX5349.trans e'))
      · have hX5350 := hX5341.trans (if_neg hb5346)
        refine p_aload 142 c147_141 rfl rfl ?_
        refine p_aload 143 c147_142 rfl rfl ?_
        refine p_getR 146 c147_143 rfl kf376_40 ?_
        refine p_iload 147 c147_146 rfl rfl ?_
        refine p_iconst 148 c147_147 rfl ?_
        refine p_iadd 149 c147_148 rfl ?_
        refine p_iaX 150 (m 403 (wr (x1 + 2)).toNat) c147_149 rfl ka403 (rg_wr _) rfl (fun hx5351 => ?_)
        refine p_iload 152 c147_150 rfl rfl ?_
        refine p_cV 155 [.ref 376, yI (m 403 (wr (x1 + 2)).toNat), yI x6] [] c147_152 rfl rfl rfl (fun k' hk' d' => d145 (f := f) (by omega) (hR.rg _ _) gx6 hR) (fun m5367 hF5363 hR5368 n5353 k5352 hk5352 => ?_)
        have hX5366 := hX5350.trans (bU_s hF5363)
        exact tJ147_155 (f := f) (by omega) gx1 gx2 gx3 gx4 gx5 gx6 (rg_wr _) hR5368 (fun y0 y1 m' n' e' h0 hR' k' hk' => Hn y0 y1 m' n' (hX5366.trans e') h0 hR' k' (by omega)) (fun y0 y1 m' n' e' h0 hR' k' hk' => He y0 y1 m' n' (hX5366.trans e') h0 hR' k' (by omega)) (fun m' e' => Hr m' (hX5366.trans e'))
def B147_53 (f : Nat) (x1 : Int) (x2 : Int) (x3 : Int) (x4 : Int) (x5 : Int) (m : yM) : Option ((Int × yM) ⊕ ((Int × yM) ⊕ (Unit × yM))) := (if x5 < m 388 (m 376 18).toNat then (if x3 < 0 then (some (.inr (.inl (x5, m)))) else (if F144 (m 404 (wr ((wr (12 * x4)) + x5)).toNat) m = 0 then (J147_244 f x1 x2 x3 x4 x5 m) else (bL (yloop (fun (l : Int) ml => B147_94 f x1 x2 x3 x4 x5 l ml) f 0 m) (fun l5369 m5375 => (J147_244 f x1 x2 x3 x4 x5 m5375)) (fun _ mr => some (.inr (.inr ((), mr))))))) else (some (.inr (.inl (x5, m)))))
set_option maxRecDepth 100000 in
theorem tB147_53 {L : Nat} {xs : Nat → Int32} {Q : xO → yM → Nat → Prop} {k d n : Nat} {c : yS3} {f : Nat} {x1 : Int} {x2 : Int} {x3 : Int} {x4 : Int} {x5 : Int} {m : yM} {j6 j7 : Option Value} (hk : k ≤ f) (gx1 : rg x1) (gx2 : rg x2) (gx3 : rg x3) (gx4 : rg x4) (gx5 : rg x5) (hR : RM c m) (Hn : ∀ (y0 : Int) (z0 z1 : Option Value) (m' : yM) (n' : Nat), B147_53 f x1 x2 x3 x4 x5 m = some (.inl (y0, m')) → rg y0 → RM c m' → ∀ k', k' < k → PW (gZ L xs) k' 147 d 53 [some (.ref 376), some (yI x1), some (yI x2), some (yI x3), some (yI x4), some (yI y0), z0, z1] [] m' n' Q) (He : ∀ (y0 : Int) (z0 z1 : Option Value) (m' : yM) (n' : Nat), B147_53 f x1 x2 x3 x4 x5 m = some (.inr (.inl (y0, m'))) → rg y0 → RM c m' → ∀ k', k' ≤ k → PW (gZ L xs) k' 147 d 250 [some (.ref 376), some (yI x1), some (yI x2), some (yI x3), some (yI x4), some (yI y0), z0, z1] [] m' n' Q) (Hr : ∀ m', B147_53 f x1 x2 x3 x4 x5 m = some (.inr (.inr ((), m'))) → RM c m' → ∀ n', Q (.inl none) m' n') : PW (gZ L xs) k 147 d 53 [some (.ref 376), some (yI x1), some (yI x2), some (yI x3), some (yI x4), some (yI x5), j6, j7] [] m n Q := by
  have hX : B147_53 f x1 x2 x3 x4 x5 m = B147_53 f x1 x2 x3 x4 x5 m := rfl
  refine p_iload 55 c147_53 rfl rfl ?_
  refine p_aload 56 c147_55 rfl rfl ?_
  refine p_getR 59 c147_56 rfl kf376_25 ?_
  refine p_aload 60 c147_59 rfl rfl ?_
  refine p_getX 63 (m 376 18) c147_60 rfl kf376_18 rfl ?_
  refine p_iaX 64 (m 388 (m 376 18).toNat) c147_63 rfl ka388 (hR.rg _ _) rfl (fun hx5273 => ?_)
  refine p_icmp 250 67 c147_64 rfl rfl ((yc_ge gx5 (hR.rg _ _)).trans Int.not_lt.symm) (fun hb5274 k5275 hk5275 => ?_) (fun hb5274 k5276 hk5276 => ?_)
  · have hX5277 := hX.trans (if_neg hb5274)
    exact He _ _ _ _ _ hX5277 gx5 hR _ (by omega)
  · have hX5278 := hX.trans (if_pos (Classical.not_not.mp hb5274))
    refine p_iload 68 c147_67 rfl rfl ?_
    refine p_if 250 71 c147_68 rfl rfl (yz_lt gx3) (fun hb5279 k5280 hk5280 => ?_) (fun hb5279 k5281 hk5281 => ?_)
    · have hX5282 := hX5278.trans (if_pos hb5279)
      exact He _ _ _ _ _ hX5282 gx5 hR _ (by omega)
    · have hX5283 := hX5278.trans (if_neg hb5279)
      refine p_aload 72 c147_71 rfl rfl ?_
      refine p_aload 73 c147_72 rfl rfl ?_
      refine p_getR 76 c147_73 rfl kf376_41 ?_
      refine p_iconst 78 c147_76 rfl ?_
      refine p_iload 80 c147_78 rfl rfl ?_
      refine p_imul 81 c147_80 rfl ?_
      refine p_iload 83 c147_81 rfl rfl ?_
      refine p_iadd 84 c147_83 rfl ?_
      refine p_iaX 85 (m 404 (wr ((wr (12 * x4)) + x5)).toNat) c147_84 rfl ka404 (rg_wr _) rfl (fun hx5284 => ?_)
      refine p_cX 88 [.ref 376, yI (m 404 (wr ((wr (12 * x4)) + x5)).toNat)] [] c147_85 rfl rfl rfl (fun k' hk' d' => d144 (hR.rg _ _) hR) (fun hg5287 n5286 k5285 hk5285 => ?_)
      refine p_if 244 91 c147_88 rfl rfl (yz_eq hg5287) (fun hb5288 k5289 hk5289 => ?_) (fun hb5288 k5290 hk5290 => ?_)
      · have hX5291 := hX5283.trans (if_pos hb5288)
        exact tJ147_244 (f := f) (by omega) gx1 gx2 gx3 gx4 gx5 hR (fun y0 y1 y2 m' n' e' h0 hR' k' hk' => Hn y0 y1 y2 m' n' (hX5291.trans e') h0 hR' k' (by omega)) (fun y0 y1 y2 m' n' e' h0 hR' k' hk' => He y0 y1 y2 m' n' (hX5291.trans e') h0 hR' k' (by omega)) (fun m' e' => Hr m' (hX5291.trans e'))
      · have hX5293 := hX5283.trans (if_neg hb5288)
        refine p_iconst 92 c147_91 rfl ?_
        refine p_istore 94 c147_92 rfl rfl ?_
        refine PW.loop (K := k5290) (pce := 244) (fun (l : Int) ml => B147_94 f x1 x2 x3 x4 x5 l ml) (fun (l : Int) j => [some (.ref 376), some (yI x1), some (yI x2), some (yI x3), some (yI x4), some (yI x5), some (yI l), j 7]) (fun (l : Int) => rg l) (RM c) (fun (r' : Unit) m' => RM c m' → ∀ n' : Nat, Q (.inl none) m' n') (fun k' hk' l j m' n' hl hI Hn' He' Hr' => tB147_94 (f := f) (by omega) gx1 gx2 gx3 gx4 gx5 hl hI (fun y0 y1 m2 n2 e h0 hR2 => Hn' y0 (fun q => ([none, none, none, none, none, none, none, y1] : List (Option Value)).getD q none) m2 n2 e h0 hR2) (fun y0 y1 m2 n2 e h0 hR2 => He' y0 (fun q => ([none, none, none, none, none, none, none, y1] : List (Option Value)).getD q none) m2 n2 e h0 hR2) (fun m2 e => Hr' () m2 e)) f k5290 (by omega) (Nat.le_refl _) 0 (fun q => ([some (.ref 376), some (yI x1), some (yI x2), some (yI x3), some (yI x4), some (yI x5), some (yI 0), j7] : xL).getD q none) _ _ (rgD rfl) hR (fun l5369 j5372 m5375 n5374 e5371 hl5370 hR5376 k5373 hk5373 => ?_) (fun r' m' e' => ?_)
        · have hX5377 := hX5293.trans (bL_l e5371)
          exact tJ147_244 (f := f) (by omega) gx1 gx2 gx3 gx4 gx5 hR5376 (fun y0 y1 y2 m' n' e' h0 hR' k' hk' => Hn y0 y1 y2 m' n' (hX5377.trans e') h0 hR' k' (by omega)) (fun y0 y1 y2 m' n' e' h0 hR' k' hk' => He y0 y1 y2 m' n' (hX5377.trans e') h0 hR' k' (by omega)) (fun m' e' => Hr m' (hX5377.trans e'))
        · exact Hr m' (hX5293.trans (bL_r e'))
def J147_48 (f : Nat) (x1 : Int) (x2 : Int) (x3 : Int) (xs0 : Int) (m : yM) : Option yM := (bL (yloop (fun (l : Int) ml => B147_53 f x1 x2 x3 xs0 l ml) f 0 m) (fun l5378 m5384 => (some m5384)) (fun _ mr => some mr))
set_option maxRecDepth 100000 in
theorem tJ147_48 {L : Nat} {xs : Nat → Int32} {Q : xO → yM → Nat → Prop} {k d n : Nat} {c : yS3} {f : Nat} {x1 : Int} {x2 : Int} {x3 : Int} {xs0 : Int} {m : yM} {j4 j5 j6 j7 : Option Value} (hk : k ≤ f) (gx1 : rg x1) (gx2 : rg x2) (gx3 : rg x3) (gxs0 : rg xs0) (hR : RM c m) (Hr : ∀ m', J147_48 f x1 x2 x3 xs0 m = some m' → RM c m' → ∀ n', Q (.inl none) m' n') : PW (gZ L xs) k 147 d 48 [some (.ref 376), some (yI x1), some (yI x2), some (yI x3), j4, j5, j6, j7] [yI xs0] m n Q := by
  have hX : J147_48 f x1 x2 x3 xs0 m = J147_48 f x1 x2 x3 xs0 m := rfl
  refine p_istore 50 c147_48 rfl rfl ?_
  refine p_iconst 51 c147_50 rfl ?_
  refine p_istore 53 c147_51 rfl rfl ?_
  refine PW.loop (K := k) (pce := 250) (fun (l : Int) ml => B147_53 f x1 x2 x3 xs0 l ml) (fun (l : Int) j => [some (.ref 376), some (yI x1), some (yI x2), some (yI x3), some (yI xs0), some (yI l), j 6, j 7]) (fun (l : Int) => rg l) (RM c) (fun (r' : Unit) m' => RM c m' → ∀ n' : Nat, Q (.inl none) m' n') (fun k' hk' l j m' n' hl hI Hn' He' Hr' => tB147_53 (f := f) (by omega) gx1 gx2 gx3 gxs0 hl hI (fun y0 y1 y2 m2 n2 e h0 hR2 => Hn' y0 (fun q => ([none, none, none, none, none, none, y1, y2] : List (Option Value)).getD q none) m2 n2 e h0 hR2) (fun y0 y1 y2 m2 n2 e h0 hR2 => He' y0 (fun q => ([none, none, none, none, none, none, y1, y2] : List (Option Value)).getD q none) m2 n2 e h0 hR2) (fun m2 e => Hr' () m2 e)) f k (by omega) (Nat.le_refl _) 0 (fun q => ([some (.ref 376), some (yI x1), some (yI x2), some (yI x3), some (yI xs0), some (yI 0), j6, j7] : xL).getD q none) _ _ (rgD rfl) hR (fun l5378 j5381 m5384 n5383 e5380 hl5379 hR5385 k5382 hk5382 => ?_) (fun r' m' e' => ?_)
  · have hX5386 := hX.trans (bL_l e5380)
    exact p_return c147_250 (Hr _ hX5386 hR5385 _)
  · exact Hr m' (hX.trans (bL_r e'))
def J147_15 (f : Nat) (x1 : Int) (xs0 : Int) (m : yM) : Option yM := (if xs0 = 0 then (J147_48 f x1 xs0 (m 403 (wr (x1 + 4)).toNat) (m 403 (wr (x1 + 2)).toNat) m) else (J147_48 f x1 xs0 (m 403 (wr (x1 + 4)).toNat) (m 403 (wr (x1 + 3)).toNat) m))
set_option maxRecDepth 100000 in
theorem tJ147_15 {L : Nat} {xs : Nat → Int32} {Q : xO → yM → Nat → Prop} {k d n : Nat} {c : yS3} {f : Nat} {x1 : Int} {xs0 : Int} {m : yM} {j2 j3 j4 j5 j6 j7 : Option Value} (hk : k ≤ f) (gx1 : rg x1) (gxs0 : rg xs0) (hR : RM c m) (Hr : ∀ m', J147_15 f x1 xs0 m = some m' → RM c m' → ∀ n', Q (.inl none) m' n') : PW (gZ L xs) k 147 d 15 [some (.ref 376), some (yI x1), j2, j3, j4, j5, j6, j7] [yI xs0] m n Q := by
  have hX : J147_15 f x1 xs0 m = J147_15 f x1 xs0 m := rfl
  refine p_istore 16 c147_15 rfl rfl ?_
  refine p_aload 17 c147_16 rfl rfl ?_
  refine p_getR 20 c147_17 rfl kf376_40 ?_
  refine p_iload 21 c147_20 rfl rfl ?_
  refine p_iconst 22 c147_21 rfl ?_
  refine p_iadd 23 c147_22 rfl ?_
  refine p_iaX 24 (m 403 (wr (x1 + 4)).toNat) c147_23 rfl ka403 (rg_wr _) rfl (fun hx5267 => ?_)
  refine p_istore 25 c147_24 rfl rfl ?_
  refine p_iload 26 c147_25 rfl rfl ?_
  refine p_if 40 29 c147_26 rfl rfl (yz_eq gxs0) (fun hb5268 k5269 hk5269 => ?_) (fun hb5268 k5270 hk5270 => ?_)
  · have hX5271 := hX.trans (if_pos hb5268)
    refine p_aload 41 c147_40 rfl rfl ?_
    refine p_getR 44 c147_41 rfl kf376_40 ?_
    refine p_iload 45 c147_44 rfl rfl ?_
    refine p_iconst 46 c147_45 rfl ?_
    refine p_iadd 47 c147_46 rfl ?_
    refine p_iaX 48 (m 403 (wr (x1 + 2)).toNat) c147_47 rfl ka403 (rg_wr _) rfl (fun hx5272 => ?_)
    exact tJ147_48 (f := f) (by omega) gx1 gxs0 (hR.rg _ _) (hR.rg _ _) hR (fun m' e' => Hr m' (hX5271.trans e'))
  · have hX5387 := hX.trans (if_neg hb5268)
    refine p_aload 30 c147_29 rfl rfl ?_
    refine p_getR 33 c147_30 rfl kf376_40 ?_
    refine p_iload 34 c147_33 rfl rfl ?_
    refine p_iconst 35 c147_34 rfl ?_
    refine p_iadd 36 c147_35 rfl ?_
    refine p_iaX 37 (m 403 (wr (x1 + 3)).toNat) c147_36 rfl ka403 (rg_wr _) rfl (fun hx5388 => ?_)
    refine p_goto 48 c147_37 rfl ?_
    exact tJ147_48 (f := f) (by omega) gx1 gxs0 (hR.rg _ _) (hR.rg _ _) hR (fun m' e' => Hr m' (hX5387.trans e'))
def F147 (f : Nat) (x1 : Int) (m : yM) : Option yM := (if m 403 x1.toNat = 4 then (J147_15 f x1 1 m) else (J147_15 f x1 0 m))
set_option maxRecDepth 100000 in
theorem d147 {L : Nat} {xs : Nat → Int32} {k d n : Nat} {c : yS3} {f : Nat} {x1 : Int} {m : yM} (hk : k ≤ f) (gx1 : rg x1) (hR : RM c m) : PC (gZ L xs) k d 147 [.ref 376, yI x1] m n (qV c (F147 f x1 m)) := by
  have hX : F147 f x1 m = F147 f x1 m := rfl
  have Hr : ∀ m', F147 f x1 m = some m' → RM c m' → ∀ n' : Nat, (qV c (F147 f x1 m)) (.inl none) m' n' := fun m' e h n' => ⟨rfl, h, e⟩
  refine PC.mk [some (.ref 376), some (yI x1), none, none, none, none, none, none] kn147 rfl ?_
  refine p_aload 1 c147_0 rfl rfl ?_
  refine p_getR 4 c147_1 rfl kf376_40 ?_
  refine p_iload 5 c147_4 rfl rfl ?_
  refine p_iaX 6 (m 403 x1.toNat) c147_5 rfl ka403 gx1 rfl (fun hx5262 => ?_)
  refine p_iconst 7 c147_6 rfl ?_
  refine p_icmp 14 10 c147_7 rfl rfl (yc_ne (hR.rg _ _) (rgD rfl)) (fun hb5263 k5264 hk5264 => ?_) (fun hb5263 k5265 hk5265 => ?_)
  · have hX5266 := hX.trans (if_neg hb5263)
    refine p_iconst 15 c147_14 rfl ?_
    exact tJ147_15 (f := f) (by omega) gx1 (rgD rfl) hR (fun m' e' => Hr m' (hX5266.trans e'))
  · have hX5389 := hX.trans (if_pos (Classical.not_not.mp hb5263))
    refine p_iconst 11 c147_10 rfl ?_
    refine p_goto 15 c147_11 rfl ?_
    exact tJ147_15 (f := f) (by omega) gx1 (rgD rfl) hR (fun m' e' => Hr m' (hX5389.trans e'))
def B149_3 (f : Nat) (x1 : Int) (x3 : Int) (x4 : Int) (m : yM) : Option (Int ⊕ (Int ⊕ Int)) := (if x4 < 0 then (some (.inr (.inl x4))) else (if x4 = x3 then (some (.inr (.inl x4))) else (some (.inl (m 392 (wr ((wr (6 * x1)) + x4)).toNat)))))
set_option maxRecDepth 100000 in
theorem tB149_3 {L : Nat} {xs : Nat → Int32} {Q : xO → yM → Nat → Prop} {k d n : Nat} {c : yS3} {f : Nat} {x1 : Int} {x3 : Int} {x4 : Int} {m : yM} {j2 : Option Value} (hk : k ≤ f) (gx1 : rg x1) (gx3 : rg x3) (gx4 : rg x4) (hR : RM c m) (Hn : ∀ (y0 : Int) (z0 : Option Value) (n' : Nat), B149_3 f x1 x3 x4 m = some (.inl y0) → rg y0 → ∀ k', k' < k → PW (gZ L xs) k' 149 d 3 [some (.ref 376), some (yI x1), z0, some (yI x3), some (yI y0)] [] m n' Q) (He : ∀ (y0 : Int) (z0 : Option Value) (n' : Nat), B149_3 f x1 x3 x4 m = some (.inr (.inl y0)) → rg y0 → ∀ k', k' ≤ k → PW (gZ L xs) k' 149 d 31 [some (.ref 376), some (yI x1), z0, some (yI x3), some (yI y0)] [] m n' Q) (Hr : ∀ r, B149_3 f x1 x3 x4 m = some (.inr (.inr r)) → rg r → ∀ n', Q (.inl (some (yI r))) m n') : PW (gZ L xs) k 149 d 3 [some (.ref 376), some (yI x1), j2, some (yI x3), some (yI x4)] [] m n Q := by
  have hX : B149_3 f x1 x3 x4 m = B149_3 f x1 x3 x4 m := rfl
  refine p_iload 5 c149_3 rfl rfl ?_
  refine p_if 31 8 c149_5 rfl rfl (yz_lt gx4) (fun hb5431 k5432 hk5432 => ?_) (fun hb5431 k5433 hk5433 => ?_)
  · have hX5434 := hX.trans (if_pos hb5431)
    exact He _ _ _ hX5434 gx4 _ (by omega)
  · have hX5435 := hX.trans (if_neg hb5431)
    refine p_iload 10 c149_8 rfl rfl ?_
    refine p_iload 11 c149_10 rfl rfl ?_
    refine p_icmp 31 14 c149_11 rfl rfl (yc_eq gx4 gx3) (fun hb5436 k5437 hk5437 => ?_) (fun hb5436 k5438 hk5438 => ?_)
    · have hX5439 := hX5435.trans (if_pos hb5436)
      exact He _ _ _ hX5439 gx4 _ (by omega)
    · have hX5440 := hX5435.trans (if_neg hb5436)
      refine p_aload 15 c149_14 rfl rfl ?_
      refine p_getR 18 c149_15 rfl kf376_29 ?_
      refine p_iconst 20 c149_18 rfl ?_
      refine p_iload 21 c149_20 rfl rfl ?_
      refine p_imul 22 c149_21 rfl ?_
      refine p_iload 24 c149_22 rfl rfl ?_
      refine p_iadd 25 c149_24 rfl ?_
      refine p_iaX 26 (m 392 (wr ((wr (6 * x1)) + x4)).toNat) c149_25 rfl ka392 (rg_wr _) rfl (fun hx5441 => ?_)
      refine p_istore 28 c149_26 rfl rfl ?_
      refine p_gotoD 3 c149_28 rfl (fun k5442 hk5442 => ?_)
      exact Hn _ _ _ hX5440 (hR.rg _ _) _ (by omega)
def J149_31 (f : Nat) (x3 : Int) (x4 : Int) : Option Int := (if x4 = x3 then (some 1) else (some 0))
set_option maxRecDepth 100000 in
theorem tJ149_31 {L : Nat} {xs : Nat → Int32} {Q : xO → yM → Nat → Prop} {k d n : Nat} {c : yS3} {f : Nat} {x3 : Int} {x4 : Int} {m : yM} {j0 j1 j2 : Option Value} (hk : k ≤ f) (gx3 : rg x3) (gx4 : rg x4) (hR : RM c m) (Hr : ∀ r, J149_31 f x3 x4 = some r → rg r → ∀ n', Q (.inl (some (yI r))) m n') : PW (gZ L xs) k 149 d 31 [j0, j1, j2, some (yI x3), some (yI x4)] [] m n Q := by
  have hX : J149_31 f x3 x4 = J149_31 f x3 x4 := rfl
  refine p_iload 33 c149_31 rfl rfl ?_
  refine p_iload 34 c149_33 rfl rfl ?_
  refine p_icmp 41 37 c149_34 rfl rfl (yc_ne gx4 gx3) (fun hb5450 k5451 hk5451 => ?_) (fun hb5450 k5452 hk5452 => ?_)
  · have hX5453 := hX.trans (if_neg hb5450)
    refine p_iconst 42 c149_41 rfl ?_
    exact p_ireturn c149_42 (Hr _ hX5453 (rgD rfl) _)
  · have hX5454 := hX.trans (if_pos (Classical.not_not.mp hb5450))
    refine p_iconst 38 c149_37 rfl ?_
    refine p_goto 42 c149_38 rfl ?_
    exact p_ireturn c149_42 (Hr _ hX5454 (rgD rfl) _)
def F149 (f : Nat) (x1 : Int) (x2 : Int) (x3 : Int) (m : yM) : Option Int := (bQ (ploop (fun (l : Int) => B149_3 f x1 x3 l m) f x2) (fun l5443 => (J149_31 f x3 l5443)) (fun r => some r))
set_option maxRecDepth 100000 in
theorem d149 {L : Nat} {xs : Nat → Int32} {k d n : Nat} {c : yS3} {f : Nat} {x1 : Int} {x2 : Int} {x3 : Int} {m : yM} (hk : k ≤ f) (gx1 : rg x1) (gx2 : rg x2) (gx3 : rg x3) (hR : RM c m) : PC (gZ L xs) k d 149 [.ref 376, yI x1, yI x2, yI x3] m n (qO m (F149 f x1 x2 x3 m)) := by
  have hX : F149 f x1 x2 x3 m = F149 f x1 x2 x3 m := rfl
  have Hr : ∀ r, F149 f x1 x2 x3 m = some r → rg r → ∀ n' : Nat, (qO m (F149 f x1 x2 x3 m)) (.inl (some (yI r))) m n' := fun r e h n' => ⟨r, rfl, h, rfl, e⟩
  refine PC.mk [some (.ref 376), some (yI x1), some (yI x2), some (yI x3), none] kn149 rfl ?_
  refine p_iload 1 c149_0 rfl rfl ?_
  refine p_istore 3 c149_1 rfl rfl ?_
  refine PW.ploop (K := k) (pce := 31) (fun (l : Int) => B149_3 f x1 x3 l m) (fun (l : Int) j => [some (.ref 376), some (yI x1), j 2, some (yI x3), some (yI l)]) (fun (l : Int) => rg l) (fun r' => rg r' → ∀ n' : Nat, (qO m (F149 f x1 x2 x3 m)) (.inl (some (yI r'))) m n') (fun k' hk' l j n' hl Hn' He' Hr' => tB149_3 (f := f) (by omega) gx1 gx3 hl hR (fun y0 y1 n2 e h0 => Hn' y0 (fun q => ([none, none, y1, none, none] : List (Option Value)).getD q none) n2 e h0) (fun y0 y1 n2 e h0 => He' y0 (fun q => ([none, none, y1, none, none] : List (Option Value)).getD q none) n2 e h0) Hr') f k (by omega) (Nat.le_refl _) x2 (fun q => ([some (.ref 376), some (yI x1), some (yI x2), some (yI x3), some (yI x2)] : xL).getD q none) _ gx2 (fun l5443 j5446 n5448 e5445 hl5444 k5447 hk5447 => ?_) (fun r' e' => ?_)
  · have hX5449 := hX.trans (bQ_l e5445)
    exact tJ149_31 (f := f) (by omega) gx3 hl5444 hR (fun r' e' => Hr r' (hX5449.trans e'))
  · exact Hr r' (hX.trans (bQ_r e'))
def J146_39 (f : Nat) (x1 : Int) (x2 : Int) (x3 : Int) (m : yM) : Option ((Int × yM) ⊕ ((Int × yM) ⊕ (Unit × yM))) := (some (.inl ((wr (x3 + 1)), m)))
set_option maxRecDepth 100000 in
theorem tJ146_39 {L : Nat} {xs : Nat → Int32} {Q : xO → yM → Nat → Prop} {k d n : Nat} {c : yS3} {f : Nat} {x1 : Int} {x2 : Int} {x3 : Int} {m : yM} (hk : k ≤ f) (gx1 : rg x1) (gx2 : rg x2) (gx3 : rg x3) (hR : RM c m) (Hn : ∀ (y0 : Int) (m' : yM) (n' : Nat), J146_39 f x1 x2 x3 m = some (.inl (y0, m')) → rg y0 → RM c m' → ∀ k', k' < k → PW (gZ L xs) k' 146 d 2 [some (.ref 376), some (yI x1), some (yI x2), some (yI y0)] [] m' n' Q) (He : ∀ (y0 : Int) (m' : yM) (n' : Nat), J146_39 f x1 x2 x3 m = some (.inr (.inl (y0, m'))) → rg y0 → RM c m' → ∀ k', k' ≤ k → PW (gZ L xs) k' 146 d 45 [some (.ref 376), some (yI x1), some (yI x2), some (yI y0)] [] m' n' Q) (Hr : ∀ m', J146_39 f x1 x2 x3 m = some (.inr (.inr ((), m'))) → RM c m' → ∀ n', Q (.inl none) m' n') : PW (gZ L xs) k 146 d 39 [some (.ref 376), some (yI x1), some (yI x2), some (yI x3)] [] m n Q := by
  have hX : J146_39 f x1 x2 x3 m = J146_39 f x1 x2 x3 m := rfl
  refine p_iinc 42 c146_39 rfl rfl rfl ?_
  refine p_gotoD 2 c146_42 rfl (fun k5591 hk5591 => ?_)
  exact Hn _ _ _ hX (rg_wr _) hR _ (by omega)
def B146_2 (f : Nat) (x1 : Int) (x2 : Int) (x3 : Int) (m : yM) : Option ((Int × yM) ⊕ ((Int × yM) ⊕ (Unit × yM))) := (if x3 < m 388 (m 376 18).toNat then (if F144 (m 404 (wr ((wr (12 * x2)) + x3)).toNat) m = 0 then (J146_39 f x1 x2 x3 m) else (bU (F145 f x1 x3 m) (fun m5599 => (J146_39 f x1 x2 x3 m5599)))) else (some (.inr (.inl (x3, m)))))
set_option maxRecDepth 100000 in
theorem tB146_2 {L : Nat} {xs : Nat → Int32} {Q : xO → yM → Nat → Prop} {k d n : Nat} {c : yS3} {f : Nat} {x1 : Int} {x2 : Int} {x3 : Int} {m : yM} (hk : k ≤ f) (gx1 : rg x1) (gx2 : rg x2) (gx3 : rg x3) (hR : RM c m) (Hn : ∀ (y0 : Int) (m' : yM) (n' : Nat), B146_2 f x1 x2 x3 m = some (.inl (y0, m')) → rg y0 → RM c m' → ∀ k', k' < k → PW (gZ L xs) k' 146 d 2 [some (.ref 376), some (yI x1), some (yI x2), some (yI y0)] [] m' n' Q) (He : ∀ (y0 : Int) (m' : yM) (n' : Nat), B146_2 f x1 x2 x3 m = some (.inr (.inl (y0, m'))) → rg y0 → RM c m' → ∀ k', k' ≤ k → PW (gZ L xs) k' 146 d 45 [some (.ref 376), some (yI x1), some (yI x2), some (yI y0)] [] m' n' Q) (Hr : ∀ m', B146_2 f x1 x2 x3 m = some (.inr (.inr ((), m'))) → RM c m' → ∀ n', Q (.inl none) m' n') : PW (gZ L xs) k 146 d 2 [some (.ref 376), some (yI x1), some (yI x2), some (yI x3)] [] m n Q := by
  have hX : B146_2 f x1 x2 x3 m = B146_2 f x1 x2 x3 m := rfl
  refine p_iload 3 c146_2 rfl rfl ?_
  refine p_aload 4 c146_3 rfl rfl ?_
  refine p_getR 7 c146_4 rfl kf376_25 ?_
  refine p_aload 8 c146_7 rfl rfl ?_
  refine p_getX 11 (m 376 18) c146_8 rfl kf376_18 rfl ?_
  refine p_iaX 12 (m 388 (m 376 18).toNat) c146_11 rfl ka388 (hR.rg _ _) rfl (fun hx5577 => ?_)
  refine p_icmp 45 15 c146_12 rfl rfl ((yc_ge gx3 (hR.rg _ _)).trans Int.not_lt.symm) (fun hb5578 k5579 hk5579 => ?_) (fun hb5578 k5580 hk5580 => ?_)
  · have hX5581 := hX.trans (if_neg hb5578)
    exact He _ _ _ hX5581 gx3 hR _ (by omega)
  · have hX5582 := hX.trans (if_pos (Classical.not_not.mp hb5578))
    refine p_aload 16 c146_15 rfl rfl ?_
    refine p_aload 17 c146_16 rfl rfl ?_
    refine p_getR 20 c146_17 rfl kf376_41 ?_
    refine p_iconst 22 c146_20 rfl ?_
    refine p_iload 23 c146_22 rfl rfl ?_
    refine p_imul 24 c146_23 rfl ?_
    refine p_iload 25 c146_24 rfl rfl ?_
    refine p_iadd 26 c146_25 rfl ?_
    refine p_iaX 27 (m 404 (wr ((wr (12 * x2)) + x3)).toNat) c146_26 rfl ka404 (rg_wr _) rfl (fun hx5583 => ?_)
    refine p_cX 30 [.ref 376, yI (m 404 (wr ((wr (12 * x2)) + x3)).toNat)] [] c146_27 rfl rfl rfl (fun k' hk' d' => d144 (hR.rg _ _) hR) (fun hg5586 n5585 k5584 hk5584 => ?_)
    refine p_if 39 33 c146_30 rfl rfl (yz_eq hg5586) (fun hb5587 k5588 hk5588 => ?_) (fun hb5587 k5589 hk5589 => ?_)
    · have hX5590 := hX5582.trans (if_pos hb5587)
      exact tJ146_39 (f := f) (by omega) gx1 gx2 gx3 hR (fun y0 m' n' e' h0 hR' k' hk' => Hn y0 m' n' (hX5590.trans e') h0 hR' k' (by omega)) (fun y0 m' n' e' h0 hR' k' hk' => He y0 m' n' (hX5590.trans e') h0 hR' k' (by omega)) (fun m' e' => Hr m' (hX5590.trans e'))
    · have hX5592 := hX5582.trans (if_neg hb5587)
      refine p_aload 34 c146_33 rfl rfl ?_
      refine p_iload 35 c146_34 rfl rfl ?_
      refine p_iload 36 c146_35 rfl rfl ?_
      refine p_cV 39 [.ref 376, yI x1, yI x3] [] c146_36 rfl rfl rfl (fun k' hk' d' => d145 (f := f) (by omega) gx1 gx3 hR) (fun m5599 hF5595 hR5600 n5594 k5593 hk5593 => ?_)
      have hX5598 := hX5592.trans (bU_s hF5595)
      exact tJ146_39 (f := f) (by omega) gx1 gx2 gx3 hR5600 (fun y0 m' n' e' h0 hR' k' hk' => Hn y0 m' n' (hX5598.trans e') h0 hR' k' (by omega)) (fun y0 m' n' e' h0 hR' k' hk' => He y0 m' n' (hX5598.trans e') h0 hR' k' (by omega)) (fun m' e' => Hr m' (hX5598.trans e'))
def F146 (f : Nat) (x1 : Int) (x2 : Int) (m : yM) : Option yM := (bL (yloop (fun (l : Int) ml => B146_2 f x1 x2 l ml) f 0 m) (fun l5601 m5607 => (some m5607)) (fun _ mr => some mr))
set_option maxRecDepth 100000 in
theorem d146 {L : Nat} {xs : Nat → Int32} {k d n : Nat} {c : yS3} {f : Nat} {x1 : Int} {x2 : Int} {m : yM} (hk : k ≤ f) (gx1 : rg x1) (gx2 : rg x2) (hR : RM c m) : PC (gZ L xs) k d 146 [.ref 376, yI x1, yI x2] m n (qV c (F146 f x1 x2 m)) := by
  have hX : F146 f x1 x2 m = F146 f x1 x2 m := rfl
  have Hr : ∀ m', F146 f x1 x2 m = some m' → RM c m' → ∀ n' : Nat, (qV c (F146 f x1 x2 m)) (.inl none) m' n' := fun m' e h n' => ⟨rfl, h, e⟩
  refine PC.mk [some (.ref 376), some (yI x1), some (yI x2), none] kn146 rfl ?_
  refine p_iconst 1 c146_0 rfl ?_
  refine p_istore 2 c146_1 rfl rfl ?_
  refine PW.loop (K := k) (pce := 45) (fun (l : Int) ml => B146_2 f x1 x2 l ml) (fun (l : Int) j => [some (.ref 376), some (yI x1), some (yI x2), some (yI l)]) (fun (l : Int) => rg l) (RM c) (fun (r' : Unit) m' => RM c m' → ∀ n' : Nat, (qV c (F146 f x1 x2 m)) (.inl none) m' n') (fun k' hk' l j m' n' hl hI Hn' He' Hr' => tB146_2 (f := f) (by omega) gx1 gx2 hl hI (fun y0 m2 n2 e h0 hR2 => Hn' y0 (fun q => ([none, none, none, none] : List (Option Value)).getD q none) m2 n2 e h0 hR2) (fun y0 m2 n2 e h0 hR2 => He' y0 (fun q => ([none, none, none, none] : List (Option Value)).getD q none) m2 n2 e h0 hR2) (fun m2 e => Hr' () m2 e)) f k (by omega) (Nat.le_refl _) 0 (fun q => ([some (.ref 376), some (yI x1), some (yI x2), some (yI 0)] : xL).getD q none) _ _ (rgD rfl) hR (fun l5601 j5604 m5607 n5606 e5603 hl5602 hR5608 k5605 hk5605 => ?_) (fun r' m' e' => ?_)
  · have hX5609 := hX.trans (bL_l e5603)
    exact p_return c146_45 (Hr _ hX5609 hR5608 _)
  · exact Hr m' (hX.trans (bL_r e'))
def J148_199 (f : Nat) (x1 : Int) (x2 : Int) (x3 : Int) (x4 : Int) (x5 : Int) (m : yM) : Option ((Int × yM) ⊕ ((Int × yM) ⊕ (Unit × yM))) := (some (.inl ((wr (x5 + 1)), m)))
set_option maxRecDepth 100000 in
theorem tJ148_199 {L : Nat} {xs : Nat → Int32} {Q : xO → yM → Nat → Prop} {k d n : Nat} {c : yS3} {f : Nat} {x1 : Int} {x2 : Int} {x3 : Int} {x4 : Int} {x5 : Int} {m : yM} {j6 j7 : Option Value} (hk : k ≤ f) (gx1 : rg x1) (gx2 : rg x2) (gx3 : rg x3) (gx4 : rg x4) (gx5 : rg x5) (hR : RM c m) (Hn : ∀ (y0 : Int) (z0 z1 : Option Value) (m' : yM) (n' : Nat), J148_199 f x1 x2 x3 x4 x5 m = some (.inl (y0, m')) → rg y0 → RM c m' → ∀ k', k' < k → PW (gZ L xs) k' 148 d 37 [some (.ref 376), some (yI x1), some (yI x2), some (yI x3), some (yI x4), some (yI y0), z0, z1] [] m' n' Q) (He : ∀ (y0 : Int) (z0 z1 : Option Value) (m' : yM) (n' : Nat), J148_199 f x1 x2 x3 x4 x5 m = some (.inr (.inl (y0, m'))) → rg y0 → RM c m' → ∀ k', k' ≤ k → PW (gZ L xs) k' 148 d 205 [some (.ref 376), some (yI x1), some (yI x2), some (yI x3), some (yI x4), some (yI y0), z0, z1] [] m' n' Q) (Hr : ∀ m', J148_199 f x1 x2 x3 x4 x5 m = some (.inr (.inr ((), m'))) → RM c m' → ∀ n', Q (.inl none) m' n') : PW (gZ L xs) k 148 d 199 [some (.ref 376), some (yI x1), some (yI x2), some (yI x3), some (yI x4), some (yI x5), j6, j7] [] m n Q := by
  have hX : J148_199 f x1 x2 x3 x4 x5 m = J148_199 f x1 x2 x3 x4 x5 m := rfl
  refine p_iinc 202 c148_199 rfl rfl rfl ?_
  refine p_gotoD 37 c148_202 rfl (fun k5505 hk5505 => ?_)
  exact Hn _ _ _ _ _ hX (rg_wr _) hR _ (by omega)
def J148_176 (f : Nat) (x1 : Int) (x2 : Int) (x3 : Int) (x4 : Int) (x5 : Int) (x6 : Int) (m : yM) : Option ((Int × yM) ⊕ ((Int × yM) ⊕ (Unit × yM))) := (bU (F145 f (wr ((m 398 (wr ((wr (10 * (m 376 18))) + x6)).toNat) + 1)) x5 m) (fun m5524 => (J148_199 f x1 x2 x3 x4 x5 m5524)))
set_option maxRecDepth 100000 in
theorem tJ148_176 {L : Nat} {xs : Nat → Int32} {Q : xO → yM → Nat → Prop} {k d n : Nat} {c : yS3} {f : Nat} {x1 : Int} {x2 : Int} {x3 : Int} {x4 : Int} {x5 : Int} {x6 : Int} {m : yM} {j7 : Option Value} (hk : k ≤ f) (gx1 : rg x1) (gx2 : rg x2) (gx3 : rg x3) (gx4 : rg x4) (gx5 : rg x5) (gx6 : rg x6) (hR : RM c m) (Hn : ∀ (y0 : Int) (z0 z1 : Option Value) (m' : yM) (n' : Nat), J148_176 f x1 x2 x3 x4 x5 x6 m = some (.inl (y0, m')) → rg y0 → RM c m' → ∀ k', k' < k → PW (gZ L xs) k' 148 d 37 [some (.ref 376), some (yI x1), some (yI x2), some (yI x3), some (yI x4), some (yI y0), z0, z1] [] m' n' Q) (He : ∀ (y0 : Int) (z0 z1 : Option Value) (m' : yM) (n' : Nat), J148_176 f x1 x2 x3 x4 x5 x6 m = some (.inr (.inl (y0, m'))) → rg y0 → RM c m' → ∀ k', k' ≤ k → PW (gZ L xs) k' 148 d 205 [some (.ref 376), some (yI x1), some (yI x2), some (yI x3), some (yI x4), some (yI y0), z0, z1] [] m' n' Q) (Hr : ∀ m', J148_176 f x1 x2 x3 x4 x5 x6 m = some (.inr (.inr ((), m'))) → RM c m' → ∀ n', Q (.inl none) m' n') : PW (gZ L xs) k 148 d 176 [some (.ref 376), some (yI x1), some (yI x2), some (yI x3), some (yI x4), some (yI x5), some (yI x6), j7] [] m n Q := by
  have hX : J148_176 f x1 x2 x3 x4 x5 x6 m = J148_176 f x1 x2 x3 x4 x5 x6 m := rfl
  refine p_aload 177 c148_176 rfl rfl ?_
  refine p_aload 178 c148_177 rfl rfl ?_
  refine p_getR 181 c148_178 rfl kf376_35 ?_
  refine p_iconst 183 c148_181 rfl ?_
  refine p_aload 184 c148_183 rfl rfl ?_
  refine p_getX 187 (m 376 18) c148_184 rfl kf376_18 rfl ?_
  refine p_imul 188 c148_187 rfl ?_
  refine p_iload 190 c148_188 rfl rfl ?_
  refine p_iadd 191 c148_190 rfl ?_
  refine p_iaX 192 (m 398 (wr ((wr (10 * (m 376 18))) + x6)).toNat) c148_191 rfl ka398 (rg_wr _) rfl (fun hx5517 => ?_)
  refine p_iconst 193 c148_192 rfl ?_
  refine p_iadd 194 c148_193 rfl ?_
  refine p_iload 196 c148_194 rfl rfl ?_
  refine p_cV 199 [.ref 376, yI (wr ((m 398 (wr ((wr (10 * (m 376 18))) + x6)).toNat) + 1)), yI x5] [] c148_196 rfl rfl rfl (fun k' hk' d' => d145 (f := f) (by omega) (rg_wr _) gx5 hR) (fun m5524 hF5520 hR5525 n5519 k5518 hk5518 => ?_)
  have hX5523 := hX.trans (bU_s hF5520)
  exact tJ148_199 (f := f) (by omega) gx1 gx2 gx3 gx4 gx5 hR5525 (fun y0 y1 y2 m' n' e' h0 hR' k' hk' => Hn y0 y1 y2 m' n' (hX5523.trans e') h0 hR' k' (by omega)) (fun y0 y1 y2 m' n' e' h0 hR' k' hk' => He y0 y1 y2 m' n' (hX5523.trans e') h0 hR' k' (by omega)) (fun m' e' => Hr m' (hX5523.trans e'))
def J148_150 (f : Nat) (x1 : Int) (x2 : Int) (x3 : Int) (x4 : Int) (x5 : Int) (x6 : Int) (m : yM) : Option ((Int × yM) ⊕ ((Int × yM) ⊕ (Unit × yM))) := (if m 407 x6.toNat < 0 then (J148_176 f x1 x2 x3 x4 x5 x6 (yup (yup m 407 x6.toNat (m 376 45)) 376 46 1)) else (J148_176 f x1 x2 x3 x4 x5 x6 m))
set_option maxRecDepth 100000 in
theorem tJ148_150 {L : Nat} {xs : Nat → Int32} {Q : xO → yM → Nat → Prop} {k d n : Nat} {c : yS3} {f : Nat} {x1 : Int} {x2 : Int} {x3 : Int} {x4 : Int} {x5 : Int} {x6 : Int} {m : yM} {j7 : Option Value} (hk : k ≤ f) (gx1 : rg x1) (gx2 : rg x2) (gx3 : rg x3) (gx4 : rg x4) (gx5 : rg x5) (gx6 : rg x6) (hR : RM c m) (Hn : ∀ (y0 : Int) (z0 z1 : Option Value) (m' : yM) (n' : Nat), J148_150 f x1 x2 x3 x4 x5 x6 m = some (.inl (y0, m')) → rg y0 → RM c m' → ∀ k', k' < k → PW (gZ L xs) k' 148 d 37 [some (.ref 376), some (yI x1), some (yI x2), some (yI x3), some (yI x4), some (yI y0), z0, z1] [] m' n' Q) (He : ∀ (y0 : Int) (z0 z1 : Option Value) (m' : yM) (n' : Nat), J148_150 f x1 x2 x3 x4 x5 x6 m = some (.inr (.inl (y0, m'))) → rg y0 → RM c m' → ∀ k', k' ≤ k → PW (gZ L xs) k' 148 d 205 [some (.ref 376), some (yI x1), some (yI x2), some (yI x3), some (yI x4), some (yI y0), z0, z1] [] m' n' Q) (Hr : ∀ m', J148_150 f x1 x2 x3 x4 x5 x6 m = some (.inr (.inr ((), m'))) → RM c m' → ∀ n', Q (.inl none) m' n') : PW (gZ L xs) k 148 d 150 [some (.ref 376), some (yI x1), some (yI x2), some (yI x3), some (yI x4), some (yI x5), some (yI x6), j7] [] m n Q := by
  have hX : J148_150 f x1 x2 x3 x4 x5 x6 m = J148_150 f x1 x2 x3 x4 x5 x6 m := rfl
  refine p_aload 151 c148_150 rfl rfl ?_
  refine p_getR 154 c148_151 rfl kf376_44 ?_
  refine p_iload 156 c148_154 rfl rfl ?_
  refine p_iaX 157 (m 407 x6.toNat) c148_156 rfl ka407 gx6 rfl (fun hx5512 => ?_)
  refine p_if 176 160 c148_157 rfl rfl ((yz_ge (hR.rg _ _)).trans Int.not_lt.symm) (fun hb5513 k5514 hk5514 => ?_) (fun hb5513 k5515 hk5515 => ?_)
  · have hX5516 := hX.trans (if_neg hb5513)
    exact tJ148_176 (f := f) (by omega) gx1 gx2 gx3 gx4 gx5 gx6 hR (fun y0 y1 y2 m' n' e' h0 hR' k' hk' => Hn y0 y1 y2 m' n' (hX5516.trans e') h0 hR' k' (by omega)) (fun y0 y1 y2 m' n' e' h0 hR' k' hk' => He y0 y1 y2 m' n' (hX5516.trans e') h0 hR' k' (by omega)) (fun m' e' => Hr m' (hX5516.trans e'))
  · have hX5526 := hX.trans (if_pos (Classical.not_not.mp hb5513))
    refine p_aload 161 c148_160 rfl rfl ?_
    refine p_getR 164 c148_161 rfl kf376_44 ?_
    refine p_iload 166 c148_164 rfl rfl ?_
    refine p_aload 167 c148_166 rfl rfl ?_
    refine p_getX 170 (m 376 45) c148_167 rfl kf376_45 rfl ?_
    refine p_iaS 171 c148_170 rfl ka407 gx6 (m 376 45) (nar0 (hR.rg _ _)) (fun hx5527 => ?_)
    have hR5528 := hR.up 407 x6.toNat (v := m 376 45) (nselA (by decide)) (hR.rg _ _)
    refine p_aload 172 c148_171 rfl rfl ?_
    refine p_iconst 173 c148_172 rfl ?_
    refine p_putI 176 c148_173 rfl kf376_46 ?_
    have hR5529 := hR5528.up 376 46 (v := 1) (nselD rfl) (rgD rfl)
    exact tJ148_176 (f := f) (by omega) gx1 gx2 gx3 gx4 gx5 gx6 hR5529 (fun y0 y1 y2 m' n' e' h0 hR' k' hk' => Hn y0 y1 y2 m' n' (hX5526.trans e') h0 hR' k' (by omega)) (fun y0 y1 y2 m' n' e' h0 hR' k' hk' => He y0 y1 y2 m' n' (hX5526.trans e') h0 hR' k' (by omega)) (fun m' e' => Hr m' (hX5526.trans e'))
def J148_107 (f : Nat) (x1 : Int) (x2 : Int) (x3 : Int) (x4 : Int) (x5 : Int) (xs0 : Int) (m : yM) : Option ((Int × yM) ⊕ ((Int × yM) ⊕ (Unit × yM))) := (if xs0 < 0 then (J148_199 f x1 x2 x3 x4 x5 m) else (if m 406 (wr ((wr (10 * x3)) + xs0)).toNat < 0 then (J148_150 f x1 x2 x3 x4 x5 xs0 (yup (yup m 406 (wr ((wr (10 * x3)) + xs0)).toNat (m 376 45)) 376 46 1)) else (J148_150 f x1 x2 x3 x4 x5 xs0 m)))
set_option maxRecDepth 100000 in
theorem tJ148_107 {L : Nat} {xs : Nat → Int32} {Q : xO → yM → Nat → Prop} {k d n : Nat} {c : yS3} {f : Nat} {x1 : Int} {x2 : Int} {x3 : Int} {x4 : Int} {x5 : Int} {xs0 : Int} {m : yM} {j6 j7 : Option Value} (hk : k ≤ f) (gx1 : rg x1) (gx2 : rg x2) (gx3 : rg x3) (gx4 : rg x4) (gx5 : rg x5) (gxs0 : rg xs0) (hR : RM c m) (Hn : ∀ (y0 : Int) (z0 z1 : Option Value) (m' : yM) (n' : Nat), J148_107 f x1 x2 x3 x4 x5 xs0 m = some (.inl (y0, m')) → rg y0 → RM c m' → ∀ k', k' < k → PW (gZ L xs) k' 148 d 37 [some (.ref 376), some (yI x1), some (yI x2), some (yI x3), some (yI x4), some (yI y0), z0, z1] [] m' n' Q) (He : ∀ (y0 : Int) (z0 z1 : Option Value) (m' : yM) (n' : Nat), J148_107 f x1 x2 x3 x4 x5 xs0 m = some (.inr (.inl (y0, m'))) → rg y0 → RM c m' → ∀ k', k' ≤ k → PW (gZ L xs) k' 148 d 205 [some (.ref 376), some (yI x1), some (yI x2), some (yI x3), some (yI x4), some (yI y0), z0, z1] [] m' n' Q) (Hr : ∀ m', J148_107 f x1 x2 x3 x4 x5 xs0 m = some (.inr (.inr ((), m'))) → RM c m' → ∀ n', Q (.inl none) m' n') : PW (gZ L xs) k 148 d 107 [some (.ref 376), some (yI x1), some (yI x2), some (yI x3), some (yI x4), some (yI x5), j6, j7] [yI xs0] m n Q := by
  have hX : J148_107 f x1 x2 x3 x4 x5 xs0 m = J148_107 f x1 x2 x3 x4 x5 xs0 m := rfl
  refine p_istore 109 c148_107 rfl rfl ?_
  refine p_iload 111 c148_109 rfl rfl ?_
  refine p_if 199 114 c148_111 rfl rfl (yz_lt gxs0) (fun hb5501 k5502 hk5502 => ?_) (fun hb5501 k5503 hk5503 => ?_)
  · have hX5504 := hX.trans (if_pos hb5501)
    exact tJ148_199 (f := f) (by omega) gx1 gx2 gx3 gx4 gx5 hR (fun y0 y1 y2 m' n' e' h0 hR' k' hk' => Hn y0 y1 y2 m' n' (hX5504.trans e') h0 hR' k' (by omega)) (fun y0 y1 y2 m' n' e' h0 hR' k' hk' => He y0 y1 y2 m' n' (hX5504.trans e') h0 hR' k' (by omega)) (fun m' e' => Hr m' (hX5504.trans e'))
  · have hX5506 := hX.trans (if_neg hb5501)
    refine p_aload 115 c148_114 rfl rfl ?_
    refine p_getR 118 c148_115 rfl kf376_43 ?_
    refine p_iconst 120 c148_118 rfl ?_
    refine p_iload 121 c148_120 rfl rfl ?_
    refine p_imul 122 c148_121 rfl ?_
    refine p_iload 124 c148_122 rfl rfl ?_
    refine p_iadd 125 c148_124 rfl ?_
    refine p_iaX 126 (m 406 (wr ((wr (10 * x3)) + xs0)).toNat) c148_125 rfl ka406 (rg_wr _) rfl (fun hx5507 => ?_)
    refine p_if 150 129 c148_126 rfl rfl ((yz_ge (hR.rg _ _)).trans Int.not_lt.symm) (fun hb5508 k5509 hk5509 => ?_) (fun hb5508 k5510 hk5510 => ?_)
    · have hX5511 := hX5506.trans (if_neg hb5508)
      exact tJ148_150 (f := f) (by omega) gx1 gx2 gx3 gx4 gx5 gxs0 hR (fun y0 y1 y2 m' n' e' h0 hR' k' hk' => Hn y0 y1 y2 m' n' (hX5511.trans e') h0 hR' k' (by omega)) (fun y0 y1 y2 m' n' e' h0 hR' k' hk' => He y0 y1 y2 m' n' (hX5511.trans e') h0 hR' k' (by omega)) (fun m' e' => Hr m' (hX5511.trans e'))
    · have hX5530 := hX5506.trans (if_pos (Classical.not_not.mp hb5508))
      refine p_aload 130 c148_129 rfl rfl ?_
      refine p_getR 133 c148_130 rfl kf376_43 ?_
      refine p_iconst 135 c148_133 rfl ?_
      refine p_iload 136 c148_135 rfl rfl ?_
      refine p_imul 137 c148_136 rfl ?_
      refine p_iload 139 c148_137 rfl rfl ?_
      refine p_iadd 140 c148_139 rfl ?_
      refine p_aload 141 c148_140 rfl rfl ?_
      refine p_getX 144 (m 376 45) c148_141 rfl kf376_45 rfl ?_
      refine p_iaS 145 c148_144 rfl ka406 (rg_wr _) (m 376 45) (nar0 (hR.rg _ _)) (fun hx5531 => ?_)
      have hR5532 := hR.up 406 (wr ((wr (10 * x3)) + xs0)).toNat (v := m 376 45) (nselA (by decide)) (hR.rg _ _)
      refine p_aload 146 c148_145 rfl rfl ?_
      refine p_iconst 147 c148_146 rfl ?_
      refine p_putI 150 c148_147 rfl kf376_46 ?_
      have hR5533 := hR5532.up 376 46 (v := 1) (nselD rfl) (rgD rfl)
      exact tJ148_150 (f := f) (by omega) gx1 gx2 gx3 gx4 gx5 gxs0 hR5533 (fun y0 y1 y2 m' n' e' h0 hR' k' hk' => Hn y0 y1 y2 m' n' (hX5530.trans e') h0 hR' k' (by omega)) (fun y0 y1 y2 m' n' e' h0 hR' k' hk' => He y0 y1 y2 m' n' (hX5530.trans e') h0 hR' k' (by omega)) (fun m' e' => Hr m' (hX5530.trans e'))
def B148_37 (f : Nat) (x1 : Int) (x2 : Int) (x3 : Int) (x4 : Int) (x5 : Int) (m : yM) : Option ((Int × yM) ⊕ ((Int × yM) ⊕ (Unit × yM))) := (if x5 < m 388 (m 376 18).toNat then (if F144 (m 404 (wr ((wr (12 * x2)) + x5)).toNat) m = 0 then (J148_107 f x1 x2 x3 x4 x5 ((-1)) m) else (bP (F142 f (m 376 18) (m 400 (wr ((wr (12 * (m 376 18))) + x5)).toNat) (m 403 (wr (x1 + 4)).toNat) x4 m) (fun r5541 => (J148_107 f x1 x2 x3 x4 x5 r5541 m)))) else (some (.inr (.inl (x5, m)))))
set_option maxRecDepth 100000 in
theorem tB148_37 {L : Nat} {xs : Nat → Int32} {Q : xO → yM → Nat → Prop} {k d n : Nat} {c : yS3} {f : Nat} {x1 : Int} {x2 : Int} {x3 : Int} {x4 : Int} {x5 : Int} {m : yM} {j6 j7 : Option Value} (hk : k ≤ f) (gx1 : rg x1) (gx2 : rg x2) (gx3 : rg x3) (gx4 : rg x4) (gx5 : rg x5) (hR : RM c m) (Hn : ∀ (y0 : Int) (z0 z1 : Option Value) (m' : yM) (n' : Nat), B148_37 f x1 x2 x3 x4 x5 m = some (.inl (y0, m')) → rg y0 → RM c m' → ∀ k', k' < k → PW (gZ L xs) k' 148 d 37 [some (.ref 376), some (yI x1), some (yI x2), some (yI x3), some (yI x4), some (yI y0), z0, z1] [] m' n' Q) (He : ∀ (y0 : Int) (z0 z1 : Option Value) (m' : yM) (n' : Nat), B148_37 f x1 x2 x3 x4 x5 m = some (.inr (.inl (y0, m'))) → rg y0 → RM c m' → ∀ k', k' ≤ k → PW (gZ L xs) k' 148 d 205 [some (.ref 376), some (yI x1), some (yI x2), some (yI x3), some (yI x4), some (yI y0), z0, z1] [] m' n' Q) (Hr : ∀ m', B148_37 f x1 x2 x3 x4 x5 m = some (.inr (.inr ((), m'))) → RM c m' → ∀ n', Q (.inl none) m' n') : PW (gZ L xs) k 148 d 37 [some (.ref 376), some (yI x1), some (yI x2), some (yI x3), some (yI x4), some (yI x5), j6, j7] [] m n Q := by
  have hX : B148_37 f x1 x2 x3 x4 x5 m = B148_37 f x1 x2 x3 x4 x5 m := rfl
  refine p_iload 39 c148_37 rfl rfl ?_
  refine p_aload 40 c148_39 rfl rfl ?_
  refine p_getR 43 c148_40 rfl kf376_25 ?_
  refine p_aload 44 c148_43 rfl rfl ?_
  refine p_getX 47 (m 376 18) c148_44 rfl kf376_18 rfl ?_
  refine p_iaX 48 (m 388 (m 376 18).toNat) c148_47 rfl ka388 (hR.rg _ _) rfl (fun hx5487 => ?_)
  refine p_icmp 205 51 c148_48 rfl rfl ((yc_ge gx5 (hR.rg _ _)).trans Int.not_lt.symm) (fun hb5488 k5489 hk5489 => ?_) (fun hb5488 k5490 hk5490 => ?_)
  · have hX5491 := hX.trans (if_neg hb5488)
    exact He _ _ _ _ _ hX5491 gx5 hR _ (by omega)
  · have hX5492 := hX.trans (if_pos (Classical.not_not.mp hb5488))
    refine p_aload 52 c148_51 rfl rfl ?_
    refine p_aload 53 c148_52 rfl rfl ?_
    refine p_getR 56 c148_53 rfl kf376_41 ?_
    refine p_iconst 58 c148_56 rfl ?_
    refine p_iload 59 c148_58 rfl rfl ?_
    refine p_imul 60 c148_59 rfl ?_
    refine p_iload 62 c148_60 rfl rfl ?_
    refine p_iadd 63 c148_62 rfl ?_
    refine p_iaX 64 (m 404 (wr ((wr (12 * x2)) + x5)).toNat) c148_63 rfl ka404 (rg_wr _) rfl (fun hx5493 => ?_)
    refine p_cX 67 [.ref 376, yI (m 404 (wr ((wr (12 * x2)) + x5)).toNat)] [] c148_64 rfl rfl rfl (fun k' hk' d' => d144 (hR.rg _ _) hR) (fun hg5496 n5495 k5494 hk5494 => ?_)
    refine p_if 106 70 c148_67 rfl rfl (yz_eq hg5496) (fun hb5497 k5498 hk5498 => ?_) (fun hb5497 k5499 hk5499 => ?_)
    · have hX5500 := hX5492.trans (if_pos hb5497)
      refine p_iconst 107 c148_106 rfl ?_
      exact tJ148_107 (f := f) (by omega) gx1 gx2 gx3 gx4 gx5 (rgD rfl) hR (fun y0 y1 y2 m' n' e' h0 hR' k' hk' => Hn y0 y1 y2 m' n' (hX5500.trans e') h0 hR' k' (by omega)) (fun y0 y1 y2 m' n' e' h0 hR' k' hk' => He y0 y1 y2 m' n' (hX5500.trans e') h0 hR' k' (by omega)) (fun m' e' => Hr m' (hX5500.trans e'))
    · have hX5534 := hX5492.trans (if_neg hb5497)
      refine p_aload 71 c148_70 rfl rfl ?_
      refine p_aload 72 c148_71 rfl rfl ?_
      refine p_getX 75 (m 376 18) c148_72 rfl kf376_18 rfl ?_
      refine p_aload 76 c148_75 rfl rfl ?_
      refine p_getR 79 c148_76 rfl kf376_37 ?_
      refine p_iconst 81 c148_79 rfl ?_
      refine p_aload 82 c148_81 rfl rfl ?_
      refine p_getX 85 (m 376 18) c148_82 rfl kf376_18 rfl ?_
      refine p_imul 86 c148_85 rfl ?_
      refine p_iload 88 c148_86 rfl rfl ?_
      refine p_iadd 89 c148_88 rfl ?_
      refine p_iaX 90 (m 400 (wr ((wr (12 * (m 376 18))) + x5)).toNat) c148_89 rfl ka400 (rg_wr _) rfl (fun hx5535 => ?_)
      refine p_aload 91 c148_90 rfl rfl ?_
      refine p_getR 94 c148_91 rfl kf376_40 ?_
      refine p_iload 95 c148_94 rfl rfl ?_
      refine p_iconst 96 c148_95 rfl ?_
      refine p_iadd 97 c148_96 rfl ?_
      refine p_iaX 98 (m 403 (wr (x1 + 4)).toNat) c148_97 rfl ka403 (rg_wr _) rfl (fun hx5536 => ?_)
      refine p_iload 100 c148_98 rfl rfl ?_
      refine p_cO 103 [.ref 376, yI (m 376 18), yI (m 400 (wr ((wr (12 * (m 376 18))) + x5)).toNat), yI (m 403 (wr (x1 + 4)).toNat), yI x4] [] c148_100 rfl rfl rfl (fun k' hk' d' => d142 (f := f) (by omega) (hR.rg _ _) (hR.rg _ _) (hR.rg _ _) gx4 hR) (fun r5541 hF5539 hg5540 n5538 k5537 hk5537 => ?_)
      have hX5542 := hX5534.trans (bP_s hF5539)
      refine p_goto 107 c148_103 rfl ?_
      exact tJ148_107 (f := f) (by omega) gx1 gx2 gx3 gx4 gx5 hg5540 hR (fun y0 y1 y2 m' n' e' h0 hR' k' hk' => Hn y0 y1 y2 m' n' (hX5542.trans e') h0 hR' k' (by omega)) (fun y0 y1 y2 m' n' e' h0 hR' k' hk' => He y0 y1 y2 m' n' (hX5542.trans e') h0 hR' k' (by omega)) (fun m' e' => Hr m' (hX5542.trans e'))
def J148_322 (f : Nat) (x1 : Int) (x3 : Int) (x4 : Int) (x5 : Int) (m : yM) : Option ((Int × yM) ⊕ ((Int × yM) ⊕ (Unit × yM))) := (some (.inl ((wr (x5 + 1)), m)))
set_option maxRecDepth 100000 in
theorem tJ148_322 {L : Nat} {xs : Nat → Int32} {Q : xO → yM → Nat → Prop} {k d n : Nat} {c : yS3} {f : Nat} {x1 : Int} {x3 : Int} {x4 : Int} {x5 : Int} {m : yM} {j2 j6 j7 : Option Value} (hk : k ≤ f) (gx1 : rg x1) (gx3 : rg x3) (gx4 : rg x4) (gx5 : rg x5) (hR : RM c m) (Hn : ∀ (y0 : Int) (z0 z1 z2 : Option Value) (m' : yM) (n' : Nat), J148_322 f x1 x3 x4 x5 m = some (.inl (y0, m')) → rg y0 → RM c m' → ∀ k', k' < k → PW (gZ L xs) k' 148 d 208 [some (.ref 376), some (yI x1), z0, some (yI x3), some (yI x4), some (yI y0), z1, z2] [] m' n' Q) (He : ∀ (y0 : Int) (z0 z1 z2 : Option Value) (m' : yM) (n' : Nat), J148_322 f x1 x3 x4 x5 m = some (.inr (.inl (y0, m'))) → rg y0 → RM c m' → ∀ k', k' ≤ k → PW (gZ L xs) k' 148 d 328 [some (.ref 376), some (yI x1), z0, some (yI x3), some (yI x4), some (yI y0), z1, z2] [] m' n' Q) (Hr : ∀ m', J148_322 f x1 x3 x4 x5 m = some (.inr (.inr ((), m'))) → RM c m' → ∀ n', Q (.inl none) m' n') : PW (gZ L xs) k 148 d 322 [some (.ref 376), some (yI x1), j2, some (yI x3), some (yI x4), some (yI x5), j6, j7] [] m n Q := by
  have hX : J148_322 f x1 x3 x4 x5 m = J148_322 f x1 x3 x4 x5 m := rfl
  refine p_iinc 325 c148_322 rfl rfl rfl ?_
  refine p_gotoD 208 c148_325 rfl (fun k5566 hk5566 => ?_)
  exact Hn _ _ _ _ _ _ hX (rg_wr _) hR _ (by omega)
def B148_261 (f : Nat) (x1 : Int) (x3 : Int) (x4 : Int) (x5 : Int) (x6 : Int) (x7 : Int) (m : yM) : Option ((Int × yM) ⊕ ((Int × yM) ⊕ (Unit × yM))) := (if x7 < x4 then (bU (F146 f (wr ((wr (x6 + 2)) + x7)) (m 403 (wr ((wr (x1 + 6)) + x7)).toNat) m) (fun m5614 => (some (.inl ((wr (x7 + 1)), m5614))))) else (some (.inr (.inl (x7, m)))))
set_option maxRecDepth 100000 in
theorem tB148_261 {L : Nat} {xs : Nat → Int32} {Q : xO → yM → Nat → Prop} {k d n : Nat} {c : yS3} {f : Nat} {x1 : Int} {x3 : Int} {x4 : Int} {x5 : Int} {x6 : Int} {x7 : Int} {m : yM} {j2 : Option Value} (hk : k ≤ f) (gx1 : rg x1) (gx3 : rg x3) (gx4 : rg x4) (gx5 : rg x5) (gx6 : rg x6) (gx7 : rg x7) (hR : RM c m) (Hn : ∀ (y0 : Int) (z0 : Option Value) (m' : yM) (n' : Nat), B148_261 f x1 x3 x4 x5 x6 x7 m = some (.inl (y0, m')) → rg y0 → RM c m' → ∀ k', k' < k → PW (gZ L xs) k' 148 d 261 [some (.ref 376), some (yI x1), z0, some (yI x3), some (yI x4), some (yI x5), some (yI x6), some (yI y0)] [] m' n' Q) (He : ∀ (y0 : Int) (z0 : Option Value) (m' : yM) (n' : Nat), B148_261 f x1 x3 x4 x5 x6 x7 m = some (.inr (.inl (y0, m'))) → rg y0 → RM c m' → ∀ k', k' ≤ k → PW (gZ L xs) k' 148 d 297 [some (.ref 376), some (yI x1), z0, some (yI x3), some (yI x4), some (yI x5), some (yI x6), some (yI y0)] [] m' n' Q) (Hr : ∀ m', B148_261 f x1 x3 x4 x5 x6 x7 m = some (.inr (.inr ((), m'))) → RM c m' → ∀ n', Q (.inl none) m' n') : PW (gZ L xs) k 148 d 261 [some (.ref 376), some (yI x1), j2, some (yI x3), some (yI x4), some (yI x5), some (yI x6), some (yI x7)] [] m n Q := by
  have hX : B148_261 f x1 x3 x4 x5 x6 x7 m = B148_261 f x1 x3 x4 x5 x6 x7 m := rfl
  refine p_iload 263 c148_261 rfl rfl ?_
  refine p_iload 265 c148_263 rfl rfl ?_
  refine p_icmp 297 268 c148_265 rfl rfl ((yc_ge gx7 gx4).trans Int.not_lt.symm) (fun hb5569 k5570 hk5570 => ?_) (fun hb5569 k5571 hk5571 => ?_)
  · have hX5572 := hX.trans (if_neg hb5569)
    exact He _ _ _ _ hX5572 gx7 hR _ (by omega)
  · have hX5573 := hX.trans (if_pos (Classical.not_not.mp hb5569))
    refine p_aload 269 c148_268 rfl rfl ?_
    refine p_iload 271 c148_269 rfl rfl ?_
    refine p_iconst 272 c148_271 rfl ?_
    refine p_iadd 273 c148_272 rfl ?_
    refine p_iload 275 c148_273 rfl rfl ?_
    refine p_iadd 276 c148_275 rfl ?_
    refine p_aload 277 c148_276 rfl rfl ?_
    refine p_getR 280 c148_277 rfl kf376_40 ?_
    refine p_iload 281 c148_280 rfl rfl ?_
    refine p_iconst 283 c148_281 rfl ?_
    refine p_iadd 284 c148_283 rfl ?_
    refine p_iload 286 c148_284 rfl rfl ?_
    refine p_iadd 287 c148_286 rfl ?_
    refine p_iaX 288 (m 403 (wr ((wr (x1 + 6)) + x7)).toNat) c148_287 rfl ka403 (rg_wr _) rfl (fun hx5574 => ?_)
    refine p_cV 291 [.ref 376, yI (wr ((wr (x6 + 2)) + x7)), yI (m 403 (wr ((wr (x1 + 6)) + x7)).toNat)] [] c148_288 rfl rfl rfl (fun k' hk' d' => d146 (f := f) (by omega) (rg_wr _) (hR.rg _ _) hR) (fun m5614 hF5610 hR5615 n5576 k5575 hk5575 => ?_)
    have hX5613 := hX5573.trans (bU_s hF5610)
    refine p_iinc 294 c148_291 rfl rfl rfl ?_
    refine p_gotoD 261 c148_294 rfl (fun k5616 hk5616 => ?_)
    exact Hn _ _ _ _ hX5613 (rg_wr _) hR5615 _ (by omega)
def B148_208 (f : Nat) (x1 : Int) (x3 : Int) (x4 : Int) (x5 : Int) (m : yM) : Option ((Int × yM) ⊕ ((Int × yM) ⊕ (Unit × yM))) := (if x5 < m 384 (m 376 18).toNat then (if F144 (m 406 (wr ((wr (10 * x3)) + x5)).toNat) m = 0 then (J148_322 f x1 x3 x4 x5 m) else (bL (yloop (fun (l : Int) ml => B148_261 f x1 x3 x4 x5 (m 398 (wr ((wr (10 * (m 376 18))) + x5)).toNat) l ml) f 0 m) (fun l5617 m5623 => (if m5623 403 (wr (x1 + 2)).toNat < 0 then (J148_322 f x1 x3 x4 x5 m5623) else (bU (F146 f (m5623 403 (wr (x1 + 2)).toNat) (m 398 (wr ((wr (10 * (m 376 18))) + x5)).toNat) m5623) (fun m5639 => (J148_322 f x1 x3 x4 x5 m5639))))) (fun _ mr => some (.inr (.inr ((), mr)))))) else (some (.inr (.inl (x5, m)))))
set_option maxRecDepth 100000 in
theorem tB148_208 {L : Nat} {xs : Nat → Int32} {Q : xO → yM → Nat → Prop} {k d n : Nat} {c : yS3} {f : Nat} {x1 : Int} {x3 : Int} {x4 : Int} {x5 : Int} {m : yM} {j2 j6 j7 : Option Value} (hk : k ≤ f) (gx1 : rg x1) (gx3 : rg x3) (gx4 : rg x4) (gx5 : rg x5) (hR : RM c m) (Hn : ∀ (y0 : Int) (z0 z1 z2 : Option Value) (m' : yM) (n' : Nat), B148_208 f x1 x3 x4 x5 m = some (.inl (y0, m')) → rg y0 → RM c m' → ∀ k', k' < k → PW (gZ L xs) k' 148 d 208 [some (.ref 376), some (yI x1), z0, some (yI x3), some (yI x4), some (yI y0), z1, z2] [] m' n' Q) (He : ∀ (y0 : Int) (z0 z1 z2 : Option Value) (m' : yM) (n' : Nat), B148_208 f x1 x3 x4 x5 m = some (.inr (.inl (y0, m'))) → rg y0 → RM c m' → ∀ k', k' ≤ k → PW (gZ L xs) k' 148 d 328 [some (.ref 376), some (yI x1), z0, some (yI x3), some (yI x4), some (yI y0), z1, z2] [] m' n' Q) (Hr : ∀ m', B148_208 f x1 x3 x4 x5 m = some (.inr (.inr ((), m'))) → RM c m' → ∀ n', Q (.inl none) m' n') : PW (gZ L xs) k 148 d 208 [some (.ref 376), some (yI x1), j2, some (yI x3), some (yI x4), some (yI x5), j6, j7] [] m n Q := by
  have hX : B148_208 f x1 x3 x4 x5 m = B148_208 f x1 x3 x4 x5 m := rfl
  refine p_iload 210 c148_208 rfl rfl ?_
  refine p_aload 211 c148_210 rfl rfl ?_
  refine p_getR 214 c148_211 rfl kf376_21 ?_
  refine p_aload 215 c148_214 rfl rfl ?_
  refine p_getX 218 (m 376 18) c148_215 rfl kf376_18 rfl ?_
  refine p_iaX 219 (m 384 (m 376 18).toNat) c148_218 rfl ka384 (hR.rg _ _) rfl (fun hx5552 => ?_)
  refine p_icmp 328 222 c148_219 rfl rfl ((yc_ge gx5 (hR.rg _ _)).trans Int.not_lt.symm) (fun hb5553 k5554 hk5554 => ?_) (fun hb5553 k5555 hk5555 => ?_)
  · have hX5556 := hX.trans (if_neg hb5553)
    exact He _ _ _ _ _ _ hX5556 gx5 hR _ (by omega)
  · have hX5557 := hX.trans (if_pos (Classical.not_not.mp hb5553))
    refine p_aload 223 c148_222 rfl rfl ?_
    refine p_aload 224 c148_223 rfl rfl ?_
    refine p_getR 227 c148_224 rfl kf376_43 ?_
    refine p_iconst 229 c148_227 rfl ?_
    refine p_iload 230 c148_229 rfl rfl ?_
    refine p_imul 231 c148_230 rfl ?_
    refine p_iload 233 c148_231 rfl rfl ?_
    refine p_iadd 234 c148_233 rfl ?_
    refine p_iaX 235 (m 406 (wr ((wr (10 * x3)) + x5)).toNat) c148_234 rfl ka406 (rg_wr _) rfl (fun hx5558 => ?_)
    refine p_cX 238 [.ref 376, yI (m 406 (wr ((wr (10 * x3)) + x5)).toNat)] [] c148_235 rfl rfl rfl (fun k' hk' d' => d144 (hR.rg _ _) hR) (fun hg5561 n5560 k5559 hk5559 => ?_)
    refine p_if 322 241 c148_238 rfl rfl (yz_eq hg5561) (fun hb5562 k5563 hk5563 => ?_) (fun hb5562 k5564 hk5564 => ?_)
    · have hX5565 := hX5557.trans (if_pos hb5562)
      exact tJ148_322 (f := f) (by omega) gx1 gx3 gx4 gx5 hR (fun y0 y1 y2 y3 m' n' e' h0 hR' k' hk' => Hn y0 y1 y2 y3 m' n' (hX5565.trans e') h0 hR' k' (by omega)) (fun y0 y1 y2 y3 m' n' e' h0 hR' k' hk' => He y0 y1 y2 y3 m' n' (hX5565.trans e') h0 hR' k' (by omega)) (fun m' e' => Hr m' (hX5565.trans e'))
    · have hX5567 := hX5557.trans (if_neg hb5562)
      refine p_aload 242 c148_241 rfl rfl ?_
      refine p_getR 245 c148_242 rfl kf376_35 ?_
      refine p_iconst 247 c148_245 rfl ?_
      refine p_aload 248 c148_247 rfl rfl ?_
      refine p_getX 251 (m 376 18) c148_248 rfl kf376_18 rfl ?_
      refine p_imul 252 c148_251 rfl ?_
      refine p_iload 254 c148_252 rfl rfl ?_
      refine p_iadd 255 c148_254 rfl ?_
      refine p_iaX 256 (m 398 (wr ((wr (10 * (m 376 18))) + x5)).toNat) c148_255 rfl ka398 (rg_wr _) rfl (fun hx5568 => ?_)
      refine p_istore 258 c148_256 rfl rfl ?_
      refine p_iconst 259 c148_258 rfl ?_
      refine p_istore 261 c148_259 rfl rfl ?_
      refine PW.loop (K := k5564) (pce := 297) (fun (l : Int) ml => B148_261 f x1 x3 x4 x5 (m 398 (wr ((wr (10 * (m 376 18))) + x5)).toNat) l ml) (fun (l : Int) j => [some (.ref 376), some (yI x1), j 2, some (yI x3), some (yI x4), some (yI x5), some (yI (m 398 (wr ((wr (10 * (m 376 18))) + x5)).toNat)), some (yI l)]) (fun (l : Int) => rg l) (RM c) (fun (r' : Unit) m' => RM c m' → ∀ n' : Nat, Q (.inl none) m' n') (fun k' hk' l j m' n' hl hI Hn' He' Hr' => tB148_261 (f := f) (by omega) gx1 gx3 gx4 gx5 (hR.rg _ _) hl hI (fun y0 y1 m2 n2 e h0 hR2 => Hn' y0 (fun q => ([none, none, y1, none, none, none, none, none] : List (Option Value)).getD q none) m2 n2 e h0 hR2) (fun y0 y1 m2 n2 e h0 hR2 => He' y0 (fun q => ([none, none, y1, none, none, none, none, none] : List (Option Value)).getD q none) m2 n2 e h0 hR2) (fun m2 e => Hr' () m2 e)) f k5564 (by omega) (Nat.le_refl _) 0 (fun q => ([some (.ref 376), some (yI x1), j2, some (yI x3), some (yI x4), some (yI x5), some (yI (m 398 (wr ((wr (10 * (m 376 18))) + x5)).toNat)), some (yI 0)] : xL).getD q none) _ _ (rgD rfl) hR (fun l5617 j5620 m5623 n5622 e5619 hl5618 hR5624 k5621 hk5621 => ?_) (fun r' m' e' => ?_)
      · have hX5625 := hX5567.trans (bL_l e5619)
        refine p_aload 298 c148_297 rfl rfl ?_
        refine p_getR 301 c148_298 rfl kf376_40 ?_
        refine p_iload 302 c148_301 rfl rfl ?_
        refine p_iconst 303 c148_302 rfl ?_
        refine p_iadd 304 c148_303 rfl ?_
        refine p_iaX 305 (m5623 403 (wr (x1 + 2)).toNat) c148_304 rfl ka403 (rg_wr _) rfl (fun hx5626 => ?_)
        refine p_if 322 308 c148_305 rfl rfl (yz_lt (hR5624.rg _ _)) (fun hb5627 k5628 hk5628 => ?_) (fun hb5627 k5629 hk5629 => ?_)
        · have hX5630 := hX5625.trans (if_pos hb5627)
          exact tJ148_322 (f := f) (by omega) gx1 gx3 gx4 gx5 hR5624 (fun y0 y1 y2 y3 m' n' e' h0 hR' k' hk' => Hn y0 y1 y2 y3 m' n' (hX5630.trans e') h0 hR' k' (by omega)) (fun y0 y1 y2 y3 m' n' e' h0 hR' k' hk' => He y0 y1 y2 y3 m' n' (hX5630.trans e') h0 hR' k' (by omega)) (fun m' e' => Hr m' (hX5630.trans e'))
        · have hX5631 := hX5625.trans (if_neg hb5627)
          refine p_aload 309 c148_308 rfl rfl ?_
          refine p_aload 310 c148_309 rfl rfl ?_
          refine p_getR 313 c148_310 rfl kf376_40 ?_
          refine p_iload 314 c148_313 rfl rfl ?_
          refine p_iconst 315 c148_314 rfl ?_
          refine p_iadd 316 c148_315 rfl ?_
          refine p_iaX 317 (m5623 403 (wr (x1 + 2)).toNat) c148_316 rfl ka403 (rg_wr _) rfl (fun hx5632 => ?_)
          refine p_iload 319 c148_317 rfl rfl ?_
          refine p_cV 322 [.ref 376, yI (m5623 403 (wr (x1 + 2)).toNat), yI (m 398 (wr ((wr (10 * (m 376 18))) + x5)).toNat)] [] c148_319 rfl rfl rfl (fun k' hk' d' => d146 (f := f) (by omega) (hR5624.rg _ _) (hR.rg _ _) hR5624) (fun m5639 hF5635 hR5640 n5634 k5633 hk5633 => ?_)
          have hX5638 := hX5631.trans (bU_s hF5635)
          exact tJ148_322 (f := f) (by omega) gx1 gx3 gx4 gx5 hR5640 (fun y0 y1 y2 y3 m' n' e' h0 hR' k' hk' => Hn y0 y1 y2 y3 m' n' (hX5638.trans e') h0 hR' k' (by omega)) (fun y0 y1 y2 y3 m' n' e' h0 hR' k' hk' => He y0 y1 y2 y3 m' n' (hX5638.trans e') h0 hR' k' (by omega)) (fun m' e' => Hr m' (hX5638.trans e'))
      · exact Hr m' (hX5567.trans (bL_r e'))
def F148 (f : Nat) (x1 : Int) (m : yM) : Option yM := (bL (yloop (fun (l : Int) ml => B148_37 f x1 (m 403 (wr (x1 + 3)).toNat) (iDiv (m 403 (wr (x1 + 5)).toNat) 16) (iRem (m 403 (wr (x1 + 5)).toNat) 16) l ml) f 0 m) (fun l5543 m5549 => (bL (yloop (fun (l : Int) ml => B148_208 f x1 (iDiv (m 403 (wr (x1 + 5)).toNat) 16) (iRem (m 403 (wr (x1 + 5)).toNat) 16) l ml) f 0 m5549) (fun l5641 m5647 => (some m5647)) (fun _ mr => some mr))) (fun _ mr => some mr))
set_option maxRecDepth 100000 in
theorem d148 {L : Nat} {xs : Nat → Int32} {k d n : Nat} {c : yS3} {f : Nat} {x1 : Int} {m : yM} (hk : k ≤ f) (gx1 : rg x1) (hR : RM c m) : PC (gZ L xs) k d 148 [.ref 376, yI x1] m n (qV c (F148 f x1 m)) := by
  have hX : F148 f x1 m = F148 f x1 m := rfl
  have Hr : ∀ m', F148 f x1 m = some m' → RM c m' → ∀ n' : Nat, (qV c (F148 f x1 m)) (.inl none) m' n' := fun m' e h n' => ⟨rfl, h, e⟩
  refine PC.mk [some (.ref 376), some (yI x1), none, none, none, none, none, none] kn148 rfl ?_
  refine p_aload 1 c148_0 rfl rfl ?_
  refine p_getR 4 c148_1 rfl kf376_40 ?_
  refine p_iload 5 c148_4 rfl rfl ?_
  refine p_iconst 6 c148_5 rfl ?_
  refine p_iadd 7 c148_6 rfl ?_
  refine p_iaX 8 (m 403 (wr (x1 + 3)).toNat) c148_7 rfl ka403 (rg_wr _) rfl (fun hx5484 => ?_)
  refine p_istore 9 c148_8 rfl rfl ?_
  refine p_aload 10 c148_9 rfl rfl ?_
  refine p_getR 13 c148_10 rfl kf376_40 ?_
  refine p_iload 14 c148_13 rfl rfl ?_
  refine p_iconst 15 c148_14 rfl ?_
  refine p_iadd 16 c148_15 rfl ?_
  refine p_iaX 17 (m 403 (wr (x1 + 5)).toNat) c148_16 rfl ka403 (rg_wr _) rfl (fun hx5485 => ?_)
  refine p_iconst 19 c148_17 rfl ?_
  refine p_idiv 20 c148_19 rfl ?_
  refine p_istore 21 c148_20 rfl rfl ?_
  refine p_aload 22 c148_21 rfl rfl ?_
  refine p_getR 25 c148_22 rfl kf376_40 ?_
  refine p_iload 26 c148_25 rfl rfl ?_
  refine p_iconst 27 c148_26 rfl ?_
  refine p_iadd 28 c148_27 rfl ?_
  refine p_iaX 29 (m 403 (wr (x1 + 5)).toNat) c148_28 rfl ka403 (rg_wr _) rfl (fun hx5486 => ?_)
  refine p_iconst 31 c148_29 rfl ?_
  refine p_irem 32 c148_31 rfl ?_
  refine p_istore 34 c148_32 rfl rfl ?_
  refine p_iconst 35 c148_34 rfl ?_
  refine p_istore 37 c148_35 rfl rfl ?_
  refine PW.loop (K := k) (pce := 205) (fun (l : Int) ml => B148_37 f x1 (m 403 (wr (x1 + 3)).toNat) (iDiv (m 403 (wr (x1 + 5)).toNat) 16) (iRem (m 403 (wr (x1 + 5)).toNat) 16) l ml) (fun (l : Int) j => [some (.ref 376), some (yI x1), some (yI (m 403 (wr (x1 + 3)).toNat)), some (yI (iDiv (m 403 (wr (x1 + 5)).toNat) 16)), some (yI (iRem (m 403 (wr (x1 + 5)).toNat) 16)), some (yI l), j 6, j 7]) (fun (l : Int) => rg l) (RM c) (fun (r' : Unit) m' => RM c m' → ∀ n' : Nat, (qV c (F148 f x1 m)) (.inl none) m' n') (fun k' hk' l j m' n' hl hI Hn' He' Hr' => tB148_37 (f := f) (by omega) gx1 (hR.rg _ _) (rg_to _) (rg_to _) hl hI (fun y0 y1 y2 m2 n2 e h0 hR2 => Hn' y0 (fun q => ([none, none, none, none, none, none, y1, y2] : List (Option Value)).getD q none) m2 n2 e h0 hR2) (fun y0 y1 y2 m2 n2 e h0 hR2 => He' y0 (fun q => ([none, none, none, none, none, none, y1, y2] : List (Option Value)).getD q none) m2 n2 e h0 hR2) (fun m2 e => Hr' () m2 e)) f k (by omega) (Nat.le_refl _) 0 (fun q => ([some (.ref 376), some (yI x1), some (yI (m 403 (wr (x1 + 3)).toNat)), some (yI (iDiv (m 403 (wr (x1 + 5)).toNat) 16)), some (yI (iRem (m 403 (wr (x1 + 5)).toNat) 16)), some (yI 0), none, none] : xL).getD q none) _ _ (rgD rfl) hR (fun l5543 j5546 m5549 n5548 e5545 hl5544 hR5550 k5547 hk5547 => ?_) (fun r' m' e' => ?_)
  · have hX5551 := hX.trans (bL_l e5545)
    refine p_iconst 206 c148_205 rfl ?_
    refine p_istore 208 c148_206 rfl rfl ?_
    refine PW.loop (K := k5547) (pce := 328) (fun (l : Int) ml => B148_208 f x1 (iDiv (m 403 (wr (x1 + 5)).toNat) 16) (iRem (m 403 (wr (x1 + 5)).toNat) 16) l ml) (fun (l : Int) j => [some (.ref 376), some (yI x1), j 2, some (yI (iDiv (m 403 (wr (x1 + 5)).toNat) 16)), some (yI (iRem (m 403 (wr (x1 + 5)).toNat) 16)), some (yI l), j 6, j 7]) (fun (l : Int) => rg l) (RM c) (fun (r' : Unit) m' => RM c m' → ∀ n' : Nat, (qV c (F148 f x1 m)) (.inl none) m' n') (fun k' hk' l j m' n' hl hI Hn' He' Hr' => tB148_208 (f := f) (by omega) gx1 (rg_to _) (rg_to _) hl hI (fun y0 y1 y2 y3 m2 n2 e h0 hR2 => Hn' y0 (fun q => ([none, none, y1, none, none, none, y2, y3] : List (Option Value)).getD q none) m2 n2 e h0 hR2) (fun y0 y1 y2 y3 m2 n2 e h0 hR2 => He' y0 (fun q => ([none, none, y1, none, none, none, y2, y3] : List (Option Value)).getD q none) m2 n2 e h0 hR2) (fun m2 e => Hr' () m2 e)) f k5547 (by omega) (Nat.le_refl _) 0 (fun q => ([some (.ref 376), some (yI x1), some (yI (m 403 (wr (x1 + 3)).toNat)), some (yI (iDiv (m 403 (wr (x1 + 5)).toNat) 16)), some (yI (iRem (m 403 (wr (x1 + 5)).toNat) 16)), some (yI 0), j5546 6, j5546 7] : xL).getD q none) _ _ (rgD rfl) hR5550 (fun l5641 j5644 m5647 n5646 e5643 hl5642 hR5648 k5645 hk5645 => ?_) (fun r' m' e' => ?_)
    · have hX5649 := hX5551.trans (bL_l e5643)
      exact p_return c148_328 (Hr _ hX5649 hR5648 _)
    · exact Hr m' (hX5551.trans (bL_r e'))
  · exact Hr m' (hX.trans (bL_r e'))
