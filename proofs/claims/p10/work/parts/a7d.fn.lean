/-! FUNCTIONS OF THE METHODS: printed by wip/fn/dc.py -/
def J74_133 (f : Nat) (A : Nat) (x4 : Int) (x5 : Int) (m : yM) : Option (((Int × Int) × yM) ⊕ (((Int × Int) × yM) ⊕ (Int × yM))) := (some (.inl ((x4, wr (x5 + 1)), m)))
set_option maxRecDepth 100000 in
theorem tJ74_133 {L : Nat} {xs : Nat → Int32} {Q : xO → yM → Nat → Prop} {k d n : Nat} {c : yS3} {f : Nat} {A : Nat} {x4 : Int} {x5 : Int} {m : yM} {j1 j2 j3 : Option Value} (hk : k ≤ f) (hc : c.1 = pX A) (hA : (A = 256 ∨ A = 316)) (gx4 : rg x4) (gx5 : rg x5) (hR : RM c m) (Hn : ∀ (y0 y1 : Int) (z0 z1 z2 : Option Value) (m' : yM) (n' : Nat), J74_133 f A x4 x5 m = some (.inl ((y0, y1), m')) → rg y0 → rg y1 → RM c m' → ∀ k', k' < k → PW (gZ L xs) k' 74 d 40 [some (.ref 2), z0, z1, z2, some (yI y0), some (yI y1)] [] m' n' Q) (He : ∀ (y0 y1 : Int) (z0 z1 z2 : Option Value) (m' : yM) (n' : Nat), J74_133 f A x4 x5 m = some (.inr (.inl ((y0, y1), m'))) → rg y0 → rg y1 → RM c m' → ∀ k', k' ≤ k → PW (gZ L xs) k' 74 d 139 [some (.ref 2), z0, z1, z2, some (yI y0), some (yI y1)] [] m' n' Q) (Hr : ∀ r m', J74_133 f A x4 x5 m = some (.inr (.inr (r, m'))) → rg r → RM c m' → ∀ n', Q (.inl (some (yI r))) m' n') : PW (gZ L xs) k 74 d 133 [some (.ref 2), j1, j2, j3, some (yI x4), some (yI x5)] [] m n Q := by
  have hX : J74_133 f A x4 x5 m = J74_133 f A x4 x5 m := rfl
  refine p_iinc 136 c74_133 rfl rfl rfl ?_
  refine p_gotoD 40 c74_136 rfl (fun k854 hk854 => ?_)
  exact Hn _ _ _ _ _ _ _ hX gx4 (rg_wr _) hR _ (by omega)
def B74_40 (f : Nat) (A : Nat) (x4 : Int) (x5 : Int) (m : yM) : Option (((Int × Int) × yM) ⊕ (((Int × Int) × yM) ⊕ (Int × yM))) := (if x5 < 320 then (if x4 = 0 then (some (.inr (.inl ((x4, x5), m)))) else (if m 2 3 = 0 then (if F38 m = 2 then (bI (F49 f A m) (fun r850 m852 => (J74_133 f A r850 x5 m852))) else (if F38 m = 3 then (bI (F70 f A m) (fun r1864 m1866 => (J74_133 f A r1864 x5 m1866))) else (if F38 m = 125 then (bI (F71 f A m) (fun r1903 m1905 => (J74_133 f A r1903 x5 m1905))) else (bI (F43 f m) (fun r1912 m1914 => (J74_133 f A r1912 x5 m1914)))))) else (some (.inr (.inl ((x4, x5), m)))))) else (some (.inr (.inl ((x4, x5), m)))))
set_option maxRecDepth 100000 in
theorem tB74_40 {L : Nat} {xs : Nat → Int32} {Q : xO → yM → Nat → Prop} {k d n : Nat} {c : yS3} {f : Nat} {A : Nat} {x4 : Int} {x5 : Int} {m : yM} {j1 j2 j3 : Option Value} (hk : k ≤ f) (hc : c.1 = pX A) (hA : (A = 256 ∨ A = 316)) (gx4 : rg x4) (gx5 : rg x5) (hR : RM c m) (Hn : ∀ (y0 y1 : Int) (z0 z1 z2 : Option Value) (m' : yM) (n' : Nat), B74_40 f A x4 x5 m = some (.inl ((y0, y1), m')) → rg y0 → rg y1 → RM c m' → ∀ k', k' < k → PW (gZ L xs) k' 74 d 40 [some (.ref 2), z0, z1, z2, some (yI y0), some (yI y1)] [] m' n' Q) (He : ∀ (y0 y1 : Int) (z0 z1 z2 : Option Value) (m' : yM) (n' : Nat), B74_40 f A x4 x5 m = some (.inr (.inl ((y0, y1), m'))) → rg y0 → rg y1 → RM c m' → ∀ k', k' ≤ k → PW (gZ L xs) k' 74 d 139 [some (.ref 2), z0, z1, z2, some (yI y0), some (yI y1)] [] m' n' Q) (Hr : ∀ r m', B74_40 f A x4 x5 m = some (.inr (.inr (r, m'))) → rg r → RM c m' → ∀ n', Q (.inl (some (yI r))) m' n') : PW (gZ L xs) k 74 d 40 [some (.ref 2), j1, j2, j3, some (yI x4), some (yI x5)] [] m n Q := by
  have hX : B74_40 f A x4 x5 m = B74_40 f A x4 x5 m := rfl
  refine p_iload 42 c74_40 rfl rfl ?_
  refine p_iconst 45 c74_42 rfl ?_
  refine p_icmp 139 48 c74_45 rfl rfl ((yc_ge gx5 (rgD rfl)).trans Int.not_lt.symm) (fun hb718 k719 hk719 => ?_) (fun hb718 k720 hk720 => ?_)
  · have hX721 := hX.trans (if_neg hb718)
    exact He _ _ _ _ _ _ _ hX721 gx4 gx5 hR _ (by omega)
  · have hX722 := hX.trans (if_pos (Classical.not_not.mp hb718))
    refine p_iload 50 c74_48 rfl rfl ?_
    refine p_if 139 53 c74_50 rfl rfl (yz_eq gx4) (fun hb723 k724 hk724 => ?_) (fun hb723 k725 hk725 => ?_)
    · have hX726 := hX722.trans (if_pos hb723)
      exact He _ _ _ _ _ _ _ hX726 gx4 gx5 hR _ (by omega)
    · have hX727 := hX722.trans (if_neg hb723)
      refine p_aload 54 c74_53 rfl rfl ?_
      refine p_getX 57 (m 2 3) c74_54 rfl kf2_3 rfl ?_
      refine p_if 139 60 c74_57 rfl rfl (yz_ne (hR.rg _ _)) (fun hb728 k729 hk729 => ?_) (fun hb728 k730 hk730 => ?_)
      · have hX731 := hX727.trans (if_neg hb728)
        exact He _ _ _ _ _ _ _ hX731 gx4 gx5 hR _ (by omega)
      · have hX732 := hX727.trans (if_pos (Classical.not_not.mp hb728))
        refine p_aload 61 c74_60 rfl rfl ?_
        refine p_cX 64 [.ref 2] [] c74_61 rfl rfl rfl (fun k' hk' d' => d38 hR) (fun hg735 n734 k733 hk733 => ?_)
        by_cases hk736 : F38 m = 2
        · have hX737 := hX732.trans (if_pos hk736)
          refine p_top 2 hk736 ?_
          refine p_lsw 100 c74_64 (rgD rfl) (o := 36) (by decide) rfl ?_
          refine p_aload 101 c74_100 rfl rfl ?_
          refine p_cS 104 [.ref 2] [] c74_101 rfl rfl rfl (fun k' hk' d' => d49 (f := f) (by omega) hc hA hR) (fun r850 m852 hF848 hg849 hR853 n739 k738 hk738 => ?_)
          have hX851 := hX737.trans (bI_s hF848)
          refine p_istore 106 c74_104 rfl rfl ?_
          refine p_goto 133 c74_106 rfl ?_
          exact tJ74_133 (f := f) (by omega) hc hA hg849 gx5 hR853 (fun y0 y1 y2 y3 y4 m' n' e' h0 h1 hR' k' hk' => Hn y0 y1 y2 y3 y4 m' n' (hX851.trans e') h0 h1 hR' k' (by omega)) (fun y0 y1 y2 y3 y4 m' n' e' h0 h1 hR' k' hk' => He y0 y1 y2 y3 y4 m' n' (hX851.trans e') h0 h1 hR' k' (by omega)) (fun r' m' e' => Hr r' m' (hX851.trans e'))
        have hX855 := hX732.trans (if_neg hk736)
        by_cases hk856 : F38 m = 3
        · have hX857 := hX855.trans (if_pos hk856)
          refine p_top 3 hk856 ?_
          refine p_lsw 109 c74_64 (rgD rfl) (o := 45) (by decide) rfl ?_
          refine p_aload 110 c74_109 rfl rfl ?_
          refine p_cS 113 [.ref 2] [] c74_110 rfl rfl rfl (fun k' hk' d' => d70 (f := f) (by omega) hc hA hR) (fun r1864 m1866 hF1862 hg1863 hR1867 n859 k858 hk858 => ?_)
          have hX1865 := hX857.trans (bI_s hF1862)
          refine p_istore 115 c74_113 rfl rfl ?_
          refine p_goto 133 c74_115 rfl ?_
          exact tJ74_133 (f := f) (by omega) hc hA hg1863 gx5 hR1867 (fun y0 y1 y2 y3 y4 m' n' e' h0 h1 hR' k' hk' => Hn y0 y1 y2 y3 y4 m' n' (hX1865.trans e') h0 h1 hR' k' (by omega)) (fun y0 y1 y2 y3 y4 m' n' e' h0 h1 hR' k' hk' => He y0 y1 y2 y3 y4 m' n' (hX1865.trans e') h0 h1 hR' k' (by omega)) (fun r' m' e' => Hr r' m' (hX1865.trans e'))
        have hX1868 := hX855.trans (if_neg hk856)
        by_cases hk1869 : F38 m = 125
        · have hX1870 := hX1868.trans (if_pos hk1869)
          refine p_top 125 hk1869 ?_
          refine p_lsw 118 c74_64 (rgD rfl) (o := 54) (by decide) rfl ?_
          refine p_aload 119 c74_118 rfl rfl ?_
          refine p_cS 122 [.ref 2] [] c74_119 rfl rfl rfl (fun k' hk' d' => d71 (f := f) (by omega) hc hA hR) (fun r1903 m1905 hF1901 hg1902 hR1906 n1872 k1871 hk1871 => ?_)
          have hX1904 := hX1870.trans (bI_s hF1901)
          refine p_istore 124 c74_122 rfl rfl ?_
          refine p_goto 133 c74_124 rfl ?_
          exact tJ74_133 (f := f) (by omega) hc hA hg1902 gx5 hR1906 (fun y0 y1 y2 y3 y4 m' n' e' h0 h1 hR' k' hk' => Hn y0 y1 y2 y3 y4 m' n' (hX1904.trans e') h0 h1 hR' k' (by omega)) (fun y0 y1 y2 y3 y4 m' n' e' h0 h1 hR' k' hk' => He y0 y1 y2 y3 y4 m' n' (hX1904.trans e') h0 h1 hR' k' (by omega)) (fun r' m' e' => Hr r' m' (hX1904.trans e'))
        have hX1907 := hX1868.trans (if_neg hk1869)
        refine p_lsw 127 c74_64 hg735 (o := 63) (by simp [Op.lookupswitch.offset, List.find?]; rw [if_neg (fun e => hk736 e.symm), if_neg (fun e => hk856 e.symm), if_neg (fun e => hk1869 e.symm)]) rfl ?_
        refine p_aload 128 c74_127 rfl rfl ?_
        refine p_cS 131 [.ref 2] [] c74_128 rfl rfl rfl (fun k' hk' d' => d43 (f := f) (by omega) hR) (fun r1912 m1914 hF1910 hg1911 hR1915 n1909 k1908 hk1908 => ?_)
        have hX1913 := hX1907.trans (bI_s hF1910)
        refine p_istore 133 c74_131 rfl rfl ?_
        exact tJ74_133 (f := f) (by omega) hc hA hg1911 gx5 hR1915 (fun y0 y1 y2 y3 y4 m' n' e' h0 h1 hR' k' hk' => Hn y0 y1 y2 y3 y4 m' n' (hX1913.trans e') h0 h1 hR' k' (by omega)) (fun y0 y1 y2 y3 y4 m' n' e' h0 h1 hR' k' hk' => He y0 y1 y2 y3 y4 m' n' (hX1913.trans e') h0 h1 hR' k' (by omega)) (fun r' m' e' => Hr r' m' (hX1913.trans e'))
def J74_139 (f : Nat) (A : Nat) (x4 : Int) (m : yM) : Option (Int × yM) := (if x4 = 0 then (some (m 2 4, m)) else (bI (F73 f A m) (fun r2041 m2043 => (some (r2041, m2043)))))
set_option maxRecDepth 100000 in
theorem tJ74_139 {L : Nat} {xs : Nat → Int32} {Q : xO → yM → Nat → Prop} {k d n : Nat} {c : yS3} {f : Nat} {A : Nat} {x4 : Int} {m : yM} {j1 j2 j3 j5 : Option Value} (hk : k ≤ f) (hc : c.1 = pX A) (hA : (A = 256 ∨ A = 316)) (gx4 : rg x4) (hR : RM c m) (Hr : ∀ r m', J74_139 f A x4 m = some (r, m') → rg r → RM c m' → ∀ n', Q (.inl (some (yI r))) m' n') : PW (gZ L xs) k 74 d 139 [some (.ref 2), j1, j2, j3, some (yI x4), j5] [] m n Q := by
  have hX : J74_139 f A x4 m = J74_139 f A x4 m := rfl
  refine p_iload 141 c74_139 rfl rfl ?_
  refine p_if 154 144 c74_141 rfl rfl (yz_eq gx4) (fun hb1925 k1926 hk1926 => ?_) (fun hb1925 k1927 hk1927 => ?_)
  · have hX1928 := hX.trans (if_pos hb1925)
    refine p_aload 155 c74_154 rfl rfl ?_
    refine p_getX 158 (m 2 4) c74_155 rfl kf2_4 rfl ?_
    exact p_ireturn c74_158 (Hr _ _ hX1928 (hR.rg _ _) hR _)
  · have hX1929 := hX.trans (if_neg hb1925)
    refine p_aload 145 c74_144 rfl rfl ?_
    refine p_getV 148 (.ref A) c74_145 rfl kf2_1 (pX_of hA hR.2.2.2.1 hc) ?_
    refine p_cS 151 [.ref A] [] c74_148 rfl rfl rfl (fun k' hk' d' => d73 (f := f) (by omega) hA hR) (fun r2041 m2043 hF2039 hg2040 hR2044 n1931 k1930 hk1930 => ?_)
    have hX2042 := hX1929.trans (bI_s hF2039)
    refine p_goto 158 c74_151 rfl ?_
    exact p_ireturn c74_158 (Hr _ _ hX2042 hg2040 hR2044 _)
def F74 (f : Nat) (x2 : Int) (A : Nat) (m : yM) : Option (Int × yM) := (bU (F30 f A (yup m 2 1 (pX A))) (fun m312 => (bU (F36 f x2 m312) (fun m528 => (bI (F45 f A (yup (yup m528 2 2 0) 2 3 0)) (fun r714 m716 => (bL (yloop (fun (l : Int × Int) ml => B74_40 f A l.1 l.2 ml) f (r714, 0) m716) (fun l1916 m1922 => (J74_139 f A l1916.1 m1922)) (fun r mr => some (r, mr)))))))))
set_option maxRecDepth 100000 in
theorem d74 {L : Nat} {xs : Nat → Int32} {k d n : Nat} {c : yS3} {f : Nat} {x2 : Int} {A : Nat} {m : yM} (hk : k ≤ f) (gx2 : rg x2) (hA : (A = 256 ∨ A = 316)) (hR : RM c m) : PC (gZ L xs) k d 74 [.ref 2, .ref 1, yI x2, .ref A] m n (qS (pX A, c.2) (F74 f x2 A m)) := by
  have hX : F74 f x2 A m = F74 f x2 A m := rfl
  have Hr : ∀ r m', F74 f x2 A m = some (r, m') → rg r → RM (pX A, c.2) m' → ∀ n' : Nat, (qS (pX A, c.2) (F74 f x2 A m)) (.inl (some (yI r))) m' n' := fun r m' e h1 h2 n' => ⟨r, rfl, h1, h2, e⟩
  refine PC.mk [some (.ref 2), some (.ref 1), some (yI x2), some (.ref A), none, none] kn74 rfl ?_
  refine p_aload 1 c74_0 rfl rfl ?_
  refine p_aload 2 c74_1 rfl rfl ?_
  refine p_put 5 (x := pX A) c74_2 rfl kf2_1 (pX_sv hA) ?_
  have hR297 := RM.s2 hR (pX_01 A)
  refine p_aload 6 c74_5 rfl rfl ?_
  refine p_getV 9 (.ref A) c74_6 rfl kf2_1 (pX_of hA hR297.2.2.2.1 (rfl : ((pX A, c.2) : yS3).1 = pX A)) ?_
  refine p_cV 12 [.ref A] [] c74_9 rfl rfl rfl (fun k' hk' d' => d30 (f := f) (by omega) hA hR297) (fun m312 hF308 hR313 n299 k298 hk298 => ?_)
  have hX311 := hX.trans (bU_s hF308)
  refine p_aload 13 c74_12 rfl rfl ?_
  refine p_getR 16 c74_13 rfl kf2_0 ?_
  refine p_aload 17 c74_16 rfl rfl ?_
  refine p_iload 18 c74_17 rfl rfl ?_
  refine p_cV 21 [.ref 3, .ref 1, yI x2] [] c74_18 rfl rfl rfl (fun k' hk' d' => d36 (f := f) (by omega) gx2 hR313) (fun m528 hF524 hR529 n315 k314 hk314 => ?_)
  have hX527 := hX311.trans (bU_s hF524)
  refine p_aload 22 c74_21 rfl rfl ?_
  refine p_iconst 23 c74_22 rfl ?_
  refine p_putI 26 c74_23 rfl kf2_2 ?_
  have hR530 := hR529.up 2 2 (v := 0) (nselD rfl) (rgD rfl)
  refine p_aload 27 c74_26 rfl rfl ?_
  refine p_iconst 28 c74_27 rfl ?_
  refine p_putI 31 c74_28 rfl kf2_3 ?_
  have hR531 := hR530.up 2 3 (v := 0) (nselD rfl) (rgD rfl)
  refine p_aload 32 c74_31 rfl rfl ?_
  refine p_cS 35 [.ref 2] [] c74_32 rfl rfl rfl (fun k' hk' d' => d45 (f := f) (by omega) (rfl : ((pX A, c.2) : yS3).1 = pX A) hA hR531) (fun r714 m716 hF712 hg713 hR717 n533 k532 hk532 => ?_)
  have hX715 := hX527.trans (bI_s hF712)
  refine p_istore 37 c74_35 rfl rfl ?_
  refine p_iconst 38 c74_37 rfl ?_
  refine p_istore 40 c74_38 rfl rfl ?_
  refine PW.loop (K := k532) (pce := 139) (fun (l : Int × Int) ml => B74_40 f A l.1 l.2 ml) (fun (l : Int × Int) j => [some (.ref 2), j 1, j 2, j 3, some (yI l.1), some (yI l.2)]) (fun (l : Int × Int) => rg l.1 ∧ rg l.2) (RM ((pX A, c.2))) (fun r' m' => rg r' → RM ((pX A, c.2)) m' → ∀ n' : Nat, (qS (pX A, c.2) (F74 f x2 A m)) (.inl (some (yI r'))) m' n') (fun k' hk' l j m' n' hl hI Hn' He' Hr' => tB74_40 (f := f) (by omega) (rfl : ((pX A, c.2) : yS3).1 = pX A) hA hl.1 hl.2 hI (fun y0 y1 y2 y3 y4 m2 n2 e h0 h1 hR2 => Hn' (y0, y1) (fun q => ([none, y2, y3, y4, none, none] : List (Option Value)).getD q none) m2 n2 e ⟨h0, h1⟩ hR2) (fun y0 y1 y2 y3 y4 m2 n2 e h0 h1 hR2 => He' (y0, y1) (fun q => ([none, y2, y3, y4, none, none] : List (Option Value)).getD q none) m2 n2 e ⟨h0, h1⟩ hR2) Hr') f k532 (by omega) (Nat.le_refl _) (r714, 0) (fun q => ([some (.ref 2), some (.ref 1), some (yI x2), some (.ref A), some (yI r714), some (yI 0)] : xL).getD q none) _ _ ⟨hg713, (rgD rfl)⟩ hR717 (fun l1916 j1919 m1922 n1921 e1918 hl1917 hR1923 k1920 hk1920 => ?_) (fun r' m' e' => ?_)
  · have hX1924 := hX715.trans (bL_l e1918)
    exact tJ74_139 (f := f) (by omega) (rfl : ((pX A, c.2) : yS3).1 = pX A) hA hl1917.1 hR1923 (fun r' m' e' => Hr r' m' (hX1924.trans e'))
  · exact Hr r' m' (hX715.trans (bL_r e'))
def B75_12_5 (f : Nat) (a0 : Nat) (x1 : Int) (x3 : Int) (x2 : Int) (m : yM) : Option ((Int × yM) ⊕ ((Int × yM) ⊕ (Unit × yM))) := (if x2 < x3 then (some (.inl ((wr (x2 + 1)), yup m a0 x2.toNat x1))) else (some (.inr (.inl (x2, m)))))
set_option maxRecDepth 100000 in
theorem tB75_12_5 {L : Nat} {xs : Nat → Int32} {Q : xO → yM → Nat → Prop} {k d n : Nat} {c : yS3} {f : Nat} {a0 : Nat} {x1 : Int} {x3 : Int} {x2 : Int} {m : yM} (hk : k ≤ f) (hr0 : yarr gSh 414 a0 = some (0, 12)) (hq0 : (10 ≤ a0 ∧ a0 < 72) ∨ (73 ≤ a0 ∧ a0 < 169) ∨ (171 ≤ a0 ∧ a0 < 219) ∨ (221 ≤ a0 ∧ a0 < 251) ∨ (252 ≤ a0 ∧ a0 < 256)) (gx1 : rg x1) (gx3 : rg x3) (gx2 : rg x2) (hR : RM c m) (Hn : ∀ (y0 : Int) (m' : yM) (n' : Nat), B75_12_5 f a0 x1 x3 x2 m = some (.inl (y0, m')) → rg y0 → RM c m' → ∀ k', k' < k → PW (gZ L xs) k' 75 d 5 [some (.ref a0), some (yI x1), some (yI y0), some (yI x3)] [] m' n' Q) (He : ∀ (y0 : Int) (m' : yM) (n' : Nat), B75_12_5 f a0 x1 x3 x2 m = some (.inr (.inl (y0, m'))) → rg y0 → RM c m' → ∀ k', k' ≤ k → PW (gZ L xs) k' 75 d 20 [some (.ref a0), some (yI x1), some (yI y0), some (yI x3)] [] m' n' Q) (Hr : ∀ m', B75_12_5 f a0 x1 x3 x2 m = some (.inr (.inr ((), m'))) → RM c m' → ∀ n', Q (.inl none) m' n') : PW (gZ L xs) k 75 d 5 [some (.ref a0), some (yI x1), some (yI x2), some (yI x3)] [] m n Q := by
  have hX : B75_12_5 f a0 x1 x3 x2 m = B75_12_5 f a0 x1 x3 x2 m := rfl
  refine p_iload 6 c75_5 rfl rfl ?_
  refine p_iload 7 c75_6 rfl rfl ?_
  refine p_icmp 20 10 c75_7 rfl rfl ((yc_ge gx2 gx3).trans Int.not_lt.symm) (fun hb2074 k2075 hk2075 => ?_) (fun hb2074 k2076 hk2076 => ?_)
  · have hX2077 := hX.trans (if_neg hb2074)
    exact He _ _ _ hX2077 gx2 hR _ (by omega)
  · have hX2078 := hX.trans (if_pos (Classical.not_not.mp hb2074))
    refine p_aload 11 c75_10 rfl rfl ?_
    refine p_iload 12 c75_11 rfl rfl ?_
    refine p_iload 13 c75_12 rfl rfl ?_
    refine p_iaS 14 c75_13 rfl hr0 gx2 x1 (nar0 gx1) (fun hx2079 => ?_)
    have hR2080 := hR.up a0 x2.toNat (v := x1) (nselA (by omega)) gx1
    refine p_iinc 17 c75_14 rfl rfl rfl ?_
    refine p_gotoD 5 c75_17 rfl (fun k2081 hk2081 => ?_)
    exact Hn _ _ _ hX2078 (rg_wr _) hR2080 _ (by omega)
def F75_12 (f : Nat) (a0 : Nat) (x1 : Int) (m : yM) : Option yM := (bL (yloop (fun (l : Int) ml => B75_12_5 f a0 x1 12 l ml) f 0 m) (fun l2082 m2088 => (some m2088)) (fun _ mr => some mr))
set_option maxRecDepth 100000 in
theorem d75_12 {L : Nat} {xs : Nat → Int32} {k d n : Nat} {c : yS3} {f : Nat} {a0 : Nat} {x1 : Int} {m : yM} (hk : k ≤ f) (hr0 : yarr gSh 414 a0 = some (0, 12)) (hq0 : (10 ≤ a0 ∧ a0 < 72) ∨ (73 ≤ a0 ∧ a0 < 169) ∨ (171 ≤ a0 ∧ a0 < 219) ∨ (221 ≤ a0 ∧ a0 < 251) ∨ (252 ≤ a0 ∧ a0 < 256)) (gx1 : rg x1) (hR : RM c m) : PC (gZ L xs) k d 75 [.ref a0, yI x1] m n (qV c (F75_12 f a0 x1 m)) := by
  have hX : F75_12 f a0 x1 m = F75_12 f a0 x1 m := rfl
  have Hr : ∀ m', F75_12 f a0 x1 m = some m' → RM c m' → ∀ n' : Nat, (qV c (F75_12 f a0 x1 m)) (.inl none) m' n' := fun m' e h n' => ⟨rfl, h, e⟩
  refine PC.mk [some (.ref a0), some (yI x1), none, none] kn75 rfl ?_
  refine p_iconst 1 c75_0 rfl ?_
  refine p_istore 2 c75_1 rfl rfl ?_
  refine p_aload 3 c75_2 rfl rfl ?_
  refine p_alen 4 c75_3 rfl hr0 ?_
  refine p_istore 5 c75_4 rfl rfl ?_
  refine PW.loop (K := k) (pce := 20) (fun (l : Int) ml => B75_12_5 f a0 x1 12 l ml) (fun (l : Int) j => [some (.ref a0), some (yI x1), some (yI l), some (yI 12)]) (fun (l : Int) => rg l) (RM c) (fun (r' : Unit) m' => RM c m' → ∀ n' : Nat, (qV c (F75_12 f a0 x1 m)) (.inl none) m' n') (fun k' hk' l j m' n' hl hI Hn' He' Hr' => tB75_12_5 (f := f) (by omega) hr0 (by omega) gx1 (rgD rfl) hl hI (fun y0 m2 n2 e h0 hR2 => Hn' y0 (fun q => ([none, none, none, none] : List (Option Value)).getD q none) m2 n2 e h0 hR2) (fun y0 m2 n2 e h0 hR2 => He' y0 (fun q => ([none, none, none, none] : List (Option Value)).getD q none) m2 n2 e h0 hR2) (fun m2 e => Hr' () m2 e)) f k (by omega) (Nat.le_refl _) 0 (fun q => ([some (.ref a0), some (yI x1), some (yI 0), some (yI 12)] : xL).getD q none) _ _ (rgD rfl) hR (fun l2082 j2085 m2088 n2087 e2084 hl2083 hR2089 k2086 hk2086 => ?_) (fun r' m' e' => ?_)
  · have hX2090 := hX.trans (bL_l e2084)
    exact p_return c75_20 (Hr _ hX2090 hR2089 _)
  · exact Hr m' (hX.trans (bL_r e'))
def B76_c9_2 (f : Nat) (x1 : Int) (m : yM) : Option ((Int × yM) ⊕ ((Int × yM) ⊕ (Unit × yM))) := (if x1 < 48 then (if 0 ≤ x1 ∧ x1 < ((48 : Nat) : Int) then (bU (F75_12 f (10 + (x1).toNat) ((-1)) m) (fun m2095 => (some (.inl ((wr (x1 + 1)), m2095))))) else none) else (some (.inr (.inl (x1, m)))))
set_option maxRecDepth 100000 in
theorem tB76_c9_2 {L : Nat} {xs : Nat → Int32} {Q : xO → yM → Nat → Prop} {k d n : Nat} {c : yS3} {f : Nat} {x1 : Int} {m : yM} (hk : k ≤ f) (gx1 : rg x1) (hR : RM c m) (Hn : ∀ (y0 : Int) (m' : yM) (n' : Nat), B76_c9_2 f x1 m = some (.inl (y0, m')) → rg y0 → RM c m' → ∀ k', k' < k → PW (gZ L xs) k' 76 d 2 [some (.ref 9), some (yI y0)] [] m' n' Q) (He : ∀ (y0 : Int) (m' : yM) (n' : Nat), B76_c9_2 f x1 m = some (.inr (.inl (y0, m'))) → rg y0 → RM c m' → ∀ k', k' ≤ k → PW (gZ L xs) k' 76 d 21 [some (.ref 9), some (yI y0)] [] m' n' Q) (Hr : ∀ m', B76_c9_2 f x1 m = some (.inr (.inr ((), m'))) → RM c m' → ∀ n', Q (.inl none) m' n') : PW (gZ L xs) k 76 d 2 [some (.ref 9), some (yI x1)] [] m n Q := by
  have hX : B76_c9_2 f x1 m = B76_c9_2 f x1 m := rfl
  refine p_iload 3 c76_2 rfl rfl ?_
  refine p_aload 4 c76_3 rfl rfl ?_
  refine p_rlen 5 c76_4 rfl kr9 ?_
  refine p_icmp 21 8 c76_5 rfl rfl ((yc_ge gx1 (rgD rfl)).trans Int.not_lt.symm) (fun hb2065 k2066 hk2066 => ?_) (fun hb2065 k2067 hk2067 => ?_)
  · have hX2068 := hX.trans (if_neg hb2065)
    exact He _ _ _ hX2068 gx1 hR _ (by omega)
  · have hX2069 := hX.trans (if_pos (Classical.not_not.mp hb2065))
    refine p_aload 9 c76_8 rfl rfl ?_
    refine p_iload 10 c76_9 rfl rfl ?_
    refine p_aaX 11 c76_10 rfl kr9 gx1 (fun hx2070 => ?_)
    have hX2071 := hX2069.trans (if_pos hx2070)
    refine p_iconst 12 c76_11 rfl ?_
    refine p_cV 15 [.ref (10 + (x1).toNat), yI ((-1))] [] c76_12 rfl rfl rfl (fun k' hk' d' => d75_12 (f := f) (by omega) (kR9 hx2070) (by omega) (rgD rfl) hR) (fun m2095 hF2091 hR2096 n2073 k2072 hk2072 => ?_)
    have hX2094 := hX2071.trans (bU_s hF2091)
    refine p_iinc 18 c76_15 rfl rfl rfl ?_
    refine p_gotoD 2 c76_18 rfl (fun k2097 hk2097 => ?_)
    exact Hn _ _ _ hX2094 (rg_wr _) hR2096 _ (by omega)
def F76_c9 (f : Nat) (m : yM) : Option yM := (bL (yloop (fun (l : Int) ml => B76_c9_2 f l ml) f 0 m) (fun l2098 m2104 => (some m2104)) (fun _ mr => some mr))
set_option maxRecDepth 100000 in
theorem d76_c9 {L : Nat} {xs : Nat → Int32} {k d n : Nat} {c : yS3} {f : Nat} {m : yM} (hk : k ≤ f) (hR : RM c m) : PC (gZ L xs) k d 76 [.ref 9] m n (qV c (F76_c9 f m)) := by
  have hX : F76_c9 f m = F76_c9 f m := rfl
  have Hr : ∀ m', F76_c9 f m = some m' → RM c m' → ∀ n' : Nat, (qV c (F76_c9 f m)) (.inl none) m' n' := fun m' e h n' => ⟨rfl, h, e⟩
  refine PC.mk [some (.ref 9), none] kn76 rfl ?_
  refine p_iconst 1 c76_0 rfl ?_
  refine p_istore 2 c76_1 rfl rfl ?_
  refine PW.loop (K := k) (pce := 21) (fun (l : Int) ml => B76_c9_2 f l ml) (fun (l : Int) j => [some (.ref 9), some (yI l)]) (fun (l : Int) => rg l) (RM c) (fun (r' : Unit) m' => RM c m' → ∀ n' : Nat, (qV c (F76_c9 f m)) (.inl none) m' n') (fun k' hk' l j m' n' hl hI Hn' He' Hr' => tB76_c9_2 (f := f) (by omega) hl hI (fun y0 m2 n2 e h0 hR2 => Hn' y0 (fun q => ([none, none] : List (Option Value)).getD q none) m2 n2 e h0 hR2) (fun y0 m2 n2 e h0 hR2 => He' y0 (fun q => ([none, none] : List (Option Value)).getD q none) m2 n2 e h0 hR2) (fun m2 e => Hr' () m2 e)) f k (by omega) (Nat.le_refl _) 0 (fun q => ([some (.ref 9), some (yI 0)] : xL).getD q none) _ _ (rgD rfl) hR (fun l2098 j2101 m2104 n2103 e2100 hl2099 hR2105 k2102 hk2102 => ?_) (fun r' m' e' => ?_)
  · have hX2106 := hX.trans (bL_l e2100)
    exact p_return c76_21 (Hr _ hX2106 hR2105 _)
  · exact Hr m' (hX.trans (bL_r e'))
def B75_10_5 (f : Nat) (a0 : Nat) (x1 : Int) (x3 : Int) (x2 : Int) (m : yM) : Option ((Int × yM) ⊕ ((Int × yM) ⊕ (Unit × yM))) := (if x2 < x3 then (some (.inl ((wr (x2 + 1)), yup m a0 x2.toNat x1))) else (some (.inr (.inl (x2, m)))))
set_option maxRecDepth 100000 in
theorem tB75_10_5 {L : Nat} {xs : Nat → Int32} {Q : xO → yM → Nat → Prop} {k d n : Nat} {c : yS3} {f : Nat} {a0 : Nat} {x1 : Int} {x3 : Int} {x2 : Int} {m : yM} (hk : k ≤ f) (hr0 : yarr gSh 414 a0 = some (0, 10)) (hq0 : (10 ≤ a0 ∧ a0 < 72) ∨ (73 ≤ a0 ∧ a0 < 169) ∨ (171 ≤ a0 ∧ a0 < 219) ∨ (221 ≤ a0 ∧ a0 < 251) ∨ (252 ≤ a0 ∧ a0 < 256)) (gx1 : rg x1) (gx3 : rg x3) (gx2 : rg x2) (hR : RM c m) (Hn : ∀ (y0 : Int) (m' : yM) (n' : Nat), B75_10_5 f a0 x1 x3 x2 m = some (.inl (y0, m')) → rg y0 → RM c m' → ∀ k', k' < k → PW (gZ L xs) k' 75 d 5 [some (.ref a0), some (yI x1), some (yI y0), some (yI x3)] [] m' n' Q) (He : ∀ (y0 : Int) (m' : yM) (n' : Nat), B75_10_5 f a0 x1 x3 x2 m = some (.inr (.inl (y0, m'))) → rg y0 → RM c m' → ∀ k', k' ≤ k → PW (gZ L xs) k' 75 d 20 [some (.ref a0), some (yI x1), some (yI y0), some (yI x3)] [] m' n' Q) (Hr : ∀ m', B75_10_5 f a0 x1 x3 x2 m = some (.inr (.inr ((), m'))) → RM c m' → ∀ n', Q (.inl none) m' n') : PW (gZ L xs) k 75 d 5 [some (.ref a0), some (yI x1), some (yI x2), some (yI x3)] [] m n Q := by
  have hX : B75_10_5 f a0 x1 x3 x2 m = B75_10_5 f a0 x1 x3 x2 m := rfl
  refine p_iload 6 c75_5 rfl rfl ?_
  refine p_iload 7 c75_6 rfl rfl ?_
  refine p_icmp 20 10 c75_7 rfl rfl ((yc_ge gx2 gx3).trans Int.not_lt.symm) (fun hb2124 k2125 hk2125 => ?_) (fun hb2124 k2126 hk2126 => ?_)
  · have hX2127 := hX.trans (if_neg hb2124)
    exact He _ _ _ hX2127 gx2 hR _ (by omega)
  · have hX2128 := hX.trans (if_pos (Classical.not_not.mp hb2124))
    refine p_aload 11 c75_10 rfl rfl ?_
    refine p_iload 12 c75_11 rfl rfl ?_
    refine p_iload 13 c75_12 rfl rfl ?_
    refine p_iaS 14 c75_13 rfl hr0 gx2 x1 (nar0 gx1) (fun hx2129 => ?_)
    have hR2130 := hR.up a0 x2.toNat (v := x1) (nselA (by omega)) gx1
    refine p_iinc 17 c75_14 rfl rfl rfl ?_
    refine p_gotoD 5 c75_17 rfl (fun k2131 hk2131 => ?_)
    exact Hn _ _ _ hX2128 (rg_wr _) hR2130 _ (by omega)
def F75_10 (f : Nat) (a0 : Nat) (x1 : Int) (m : yM) : Option yM := (bL (yloop (fun (l : Int) ml => B75_10_5 f a0 x1 10 l ml) f 0 m) (fun l2132 m2138 => (some m2138)) (fun _ mr => some mr))
set_option maxRecDepth 100000 in
theorem d75_10 {L : Nat} {xs : Nat → Int32} {k d n : Nat} {c : yS3} {f : Nat} {a0 : Nat} {x1 : Int} {m : yM} (hk : k ≤ f) (hr0 : yarr gSh 414 a0 = some (0, 10)) (hq0 : (10 ≤ a0 ∧ a0 < 72) ∨ (73 ≤ a0 ∧ a0 < 169) ∨ (171 ≤ a0 ∧ a0 < 219) ∨ (221 ≤ a0 ∧ a0 < 251) ∨ (252 ≤ a0 ∧ a0 < 256)) (gx1 : rg x1) (hR : RM c m) : PC (gZ L xs) k d 75 [.ref a0, yI x1] m n (qV c (F75_10 f a0 x1 m)) := by
  have hX : F75_10 f a0 x1 m = F75_10 f a0 x1 m := rfl
  have Hr : ∀ m', F75_10 f a0 x1 m = some m' → RM c m' → ∀ n' : Nat, (qV c (F75_10 f a0 x1 m)) (.inl none) m' n' := fun m' e h n' => ⟨rfl, h, e⟩
  refine PC.mk [some (.ref a0), some (yI x1), none, none] kn75 rfl ?_
  refine p_iconst 1 c75_0 rfl ?_
  refine p_istore 2 c75_1 rfl rfl ?_
  refine p_aload 3 c75_2 rfl rfl ?_
  refine p_alen 4 c75_3 rfl hr0 ?_
  refine p_istore 5 c75_4 rfl rfl ?_
  refine PW.loop (K := k) (pce := 20) (fun (l : Int) ml => B75_10_5 f a0 x1 10 l ml) (fun (l : Int) j => [some (.ref a0), some (yI x1), some (yI l), some (yI 10)]) (fun (l : Int) => rg l) (RM c) (fun (r' : Unit) m' => RM c m' → ∀ n' : Nat, (qV c (F75_10 f a0 x1 m)) (.inl none) m' n') (fun k' hk' l j m' n' hl hI Hn' He' Hr' => tB75_10_5 (f := f) (by omega) hr0 (by omega) gx1 (rgD rfl) hl hI (fun y0 m2 n2 e h0 hR2 => Hn' y0 (fun q => ([none, none, none, none] : List (Option Value)).getD q none) m2 n2 e h0 hR2) (fun y0 m2 n2 e h0 hR2 => He' y0 (fun q => ([none, none, none, none] : List (Option Value)).getD q none) m2 n2 e h0 hR2) (fun m2 e => Hr' () m2 e)) f k (by omega) (Nat.le_refl _) 0 (fun q => ([some (.ref a0), some (yI x1), some (yI 0), some (yI 10)] : xL).getD q none) _ _ (rgD rfl) hR (fun l2132 j2135 m2138 n2137 e2134 hl2133 hR2139 k2136 hk2136 => ?_) (fun r' m' e' => ?_)
  · have hX2140 := hX.trans (bL_l e2134)
    exact p_return c75_20 (Hr _ hX2140 hR2139 _)
  · exact Hr m' (hX.trans (bL_r e'))
def B76_c58_2 (f : Nat) (x1 : Int) (m : yM) : Option ((Int × yM) ⊕ ((Int × yM) ⊕ (Unit × yM))) := (if x1 < 12 then (if 0 ≤ x1 ∧ x1 < ((12 : Nat) : Int) then (bU (F75_10 f (59 + (x1).toNat) ((-1)) m) (fun m2145 => (some (.inl ((wr (x1 + 1)), m2145))))) else none) else (some (.inr (.inl (x1, m)))))
set_option maxRecDepth 100000 in
theorem tB76_c58_2 {L : Nat} {xs : Nat → Int32} {Q : xO → yM → Nat → Prop} {k d n : Nat} {c : yS3} {f : Nat} {x1 : Int} {m : yM} (hk : k ≤ f) (gx1 : rg x1) (hR : RM c m) (Hn : ∀ (y0 : Int) (m' : yM) (n' : Nat), B76_c58_2 f x1 m = some (.inl (y0, m')) → rg y0 → RM c m' → ∀ k', k' < k → PW (gZ L xs) k' 76 d 2 [some (.ref 58), some (yI y0)] [] m' n' Q) (He : ∀ (y0 : Int) (m' : yM) (n' : Nat), B76_c58_2 f x1 m = some (.inr (.inl (y0, m'))) → rg y0 → RM c m' → ∀ k', k' ≤ k → PW (gZ L xs) k' 76 d 21 [some (.ref 58), some (yI y0)] [] m' n' Q) (Hr : ∀ m', B76_c58_2 f x1 m = some (.inr (.inr ((), m'))) → RM c m' → ∀ n', Q (.inl none) m' n') : PW (gZ L xs) k 76 d 2 [some (.ref 58), some (yI x1)] [] m n Q := by
  have hX : B76_c58_2 f x1 m = B76_c58_2 f x1 m := rfl
  refine p_iload 3 c76_2 rfl rfl ?_
  refine p_aload 4 c76_3 rfl rfl ?_
  refine p_rlen 5 c76_4 rfl kr58 ?_
  refine p_icmp 21 8 c76_5 rfl rfl ((yc_ge gx1 (rgD rfl)).trans Int.not_lt.symm) (fun hb2115 k2116 hk2116 => ?_) (fun hb2115 k2117 hk2117 => ?_)
  · have hX2118 := hX.trans (if_neg hb2115)
    exact He _ _ _ hX2118 gx1 hR _ (by omega)
  · have hX2119 := hX.trans (if_pos (Classical.not_not.mp hb2115))
    refine p_aload 9 c76_8 rfl rfl ?_
    refine p_iload 10 c76_9 rfl rfl ?_
    refine p_aaX 11 c76_10 rfl kr58 gx1 (fun hx2120 => ?_)
    have hX2121 := hX2119.trans (if_pos hx2120)
    refine p_iconst 12 c76_11 rfl ?_
    refine p_cV 15 [.ref (59 + (x1).toNat), yI ((-1))] [] c76_12 rfl rfl rfl (fun k' hk' d' => d75_10 (f := f) (by omega) (kR58 hx2120) (by omega) (rgD rfl) hR) (fun m2145 hF2141 hR2146 n2123 k2122 hk2122 => ?_)
    have hX2144 := hX2121.trans (bU_s hF2141)
    refine p_iinc 18 c76_15 rfl rfl rfl ?_
    refine p_gotoD 2 c76_18 rfl (fun k2147 hk2147 => ?_)
    exact Hn _ _ _ hX2144 (rg_wr _) hR2146 _ (by omega)
def F76_c58 (f : Nat) (m : yM) : Option yM := (bL (yloop (fun (l : Int) ml => B76_c58_2 f l ml) f 0 m) (fun l2148 m2154 => (some m2154)) (fun _ mr => some mr))
set_option maxRecDepth 100000 in
theorem d76_c58 {L : Nat} {xs : Nat → Int32} {k d n : Nat} {c : yS3} {f : Nat} {m : yM} (hk : k ≤ f) (hR : RM c m) : PC (gZ L xs) k d 76 [.ref 58] m n (qV c (F76_c58 f m)) := by
  have hX : F76_c58 f m = F76_c58 f m := rfl
  have Hr : ∀ m', F76_c58 f m = some m' → RM c m' → ∀ n' : Nat, (qV c (F76_c58 f m)) (.inl none) m' n' := fun m' e h n' => ⟨rfl, h, e⟩
  refine PC.mk [some (.ref 58), none] kn76 rfl ?_
  refine p_iconst 1 c76_0 rfl ?_
  refine p_istore 2 c76_1 rfl rfl ?_
  refine PW.loop (K := k) (pce := 21) (fun (l : Int) ml => B76_c58_2 f l ml) (fun (l : Int) j => [some (.ref 58), some (yI l)]) (fun (l : Int) => rg l) (RM c) (fun (r' : Unit) m' => RM c m' → ∀ n' : Nat, (qV c (F76_c58 f m)) (.inl none) m' n') (fun k' hk' l j m' n' hl hI Hn' He' Hr' => tB76_c58_2 (f := f) (by omega) hl hI (fun y0 m2 n2 e h0 hR2 => Hn' y0 (fun q => ([none, none] : List (Option Value)).getD q none) m2 n2 e h0 hR2) (fun y0 m2 n2 e h0 hR2 => He' y0 (fun q => ([none, none] : List (Option Value)).getD q none) m2 n2 e h0 hR2) (fun m2 e => Hr' () m2 e)) f k (by omega) (Nat.le_refl _) 0 (fun q => ([some (.ref 58), some (yI 0)] : xL).getD q none) _ _ (rgD rfl) hR (fun l2148 j2151 m2154 n2153 e2150 hl2149 hR2155 k2152 hk2152 => ?_) (fun r' m' e' => ?_)
  · have hX2156 := hX.trans (bL_l e2150)
    exact p_return c76_21 (Hr _ hX2156 hR2155 _)
  · exact Hr m' (hX.trans (bL_r e'))
def B76_c72_2 (f : Nat) (x1 : Int) (m : yM) : Option ((Int × yM) ⊕ ((Int × yM) ⊕ (Unit × yM))) := (if x1 < 96 then (if 0 ≤ x1 ∧ x1 < ((96 : Nat) : Int) then (bU (F75_12 f (73 + (x1).toNat) ((-1)) m) (fun m2178 => (some (.inl ((wr (x1 + 1)), m2178))))) else none) else (some (.inr (.inl (x1, m)))))
set_option maxRecDepth 100000 in
theorem tB76_c72_2 {L : Nat} {xs : Nat → Int32} {Q : xO → yM → Nat → Prop} {k d n : Nat} {c : yS3} {f : Nat} {x1 : Int} {m : yM} (hk : k ≤ f) (gx1 : rg x1) (hR : RM c m) (Hn : ∀ (y0 : Int) (m' : yM) (n' : Nat), B76_c72_2 f x1 m = some (.inl (y0, m')) → rg y0 → RM c m' → ∀ k', k' < k → PW (gZ L xs) k' 76 d 2 [some (.ref 72), some (yI y0)] [] m' n' Q) (He : ∀ (y0 : Int) (m' : yM) (n' : Nat), B76_c72_2 f x1 m = some (.inr (.inl (y0, m'))) → rg y0 → RM c m' → ∀ k', k' ≤ k → PW (gZ L xs) k' 76 d 21 [some (.ref 72), some (yI y0)] [] m' n' Q) (Hr : ∀ m', B76_c72_2 f x1 m = some (.inr (.inr ((), m'))) → RM c m' → ∀ n', Q (.inl none) m' n') : PW (gZ L xs) k 76 d 2 [some (.ref 72), some (yI x1)] [] m n Q := by
  have hX : B76_c72_2 f x1 m = B76_c72_2 f x1 m := rfl
  refine p_iload 3 c76_2 rfl rfl ?_
  refine p_aload 4 c76_3 rfl rfl ?_
  refine p_rlen 5 c76_4 rfl kr72 ?_
  refine p_icmp 21 8 c76_5 rfl rfl ((yc_ge gx1 (rgD rfl)).trans Int.not_lt.symm) (fun hb2165 k2166 hk2166 => ?_) (fun hb2165 k2167 hk2167 => ?_)
  · have hX2168 := hX.trans (if_neg hb2165)
    exact He _ _ _ hX2168 gx1 hR _ (by omega)
  · have hX2169 := hX.trans (if_pos (Classical.not_not.mp hb2165))
    refine p_aload 9 c76_8 rfl rfl ?_
    refine p_iload 10 c76_9 rfl rfl ?_
    refine p_aaX 11 c76_10 rfl kr72 gx1 (fun hx2170 => ?_)
    have hX2171 := hX2169.trans (if_pos hx2170)
    refine p_iconst 12 c76_11 rfl ?_
    refine p_cV 15 [.ref (73 + (x1).toNat), yI ((-1))] [] c76_12 rfl rfl rfl (fun k' hk' d' => d75_12 (f := f) (by omega) (kR72 hx2170) (by omega) (rgD rfl) hR) (fun m2178 hF2174 hR2179 n2173 k2172 hk2172 => ?_)
    have hX2177 := hX2171.trans (bU_s hF2174)
    refine p_iinc 18 c76_15 rfl rfl rfl ?_
    refine p_gotoD 2 c76_18 rfl (fun k2180 hk2180 => ?_)
    exact Hn _ _ _ hX2177 (rg_wr _) hR2179 _ (by omega)
def F76_c72 (f : Nat) (m : yM) : Option yM := (bL (yloop (fun (l : Int) ml => B76_c72_2 f l ml) f 0 m) (fun l2181 m2187 => (some m2187)) (fun _ mr => some mr))
set_option maxRecDepth 100000 in
theorem d76_c72 {L : Nat} {xs : Nat → Int32} {k d n : Nat} {c : yS3} {f : Nat} {m : yM} (hk : k ≤ f) (hR : RM c m) : PC (gZ L xs) k d 76 [.ref 72] m n (qV c (F76_c72 f m)) := by
  have hX : F76_c72 f m = F76_c72 f m := rfl
  have Hr : ∀ m', F76_c72 f m = some m' → RM c m' → ∀ n' : Nat, (qV c (F76_c72 f m)) (.inl none) m' n' := fun m' e h n' => ⟨rfl, h, e⟩
  refine PC.mk [some (.ref 72), none] kn76 rfl ?_
  refine p_iconst 1 c76_0 rfl ?_
  refine p_istore 2 c76_1 rfl rfl ?_
  refine PW.loop (K := k) (pce := 21) (fun (l : Int) ml => B76_c72_2 f l ml) (fun (l : Int) j => [some (.ref 72), some (yI l)]) (fun (l : Int) => rg l) (RM c) (fun (r' : Unit) m' => RM c m' → ∀ n' : Nat, (qV c (F76_c72 f m)) (.inl none) m' n') (fun k' hk' l j m' n' hl hI Hn' He' Hr' => tB76_c72_2 (f := f) (by omega) hl hI (fun y0 m2 n2 e h0 hR2 => Hn' y0 (fun q => ([none, none] : List (Option Value)).getD q none) m2 n2 e h0 hR2) (fun y0 m2 n2 e h0 hR2 => He' y0 (fun q => ([none, none] : List (Option Value)).getD q none) m2 n2 e h0 hR2) (fun m2 e => Hr' () m2 e)) f k (by omega) (Nat.le_refl _) 0 (fun q => ([some (.ref 72), some (yI 0)] : xL).getD q none) _ _ (rgD rfl) hR (fun l2181 j2184 m2187 n2186 e2183 hl2182 hR2188 k2185 hk2185 => ?_) (fun r' m' e' => ?_)
  · have hX2189 := hX.trans (bL_l e2183)
    exact p_return c76_21 (Hr _ hX2189 hR2188 _)
  · exact Hr m' (hX.trans (bL_r e'))
def F77 (f : Nat) (m : yM) : Option yM := (bU (F76_c9 f m) (fun m2111 => (bU (F76_c58 f m2111) (fun m2161 => (bU (F76_c72 f m2161) (fun m2194 => (bU (F75_10 f 71 ((-1)) m2194) (fun m2202 => (some (yup m2202 8 6 0))))))))))
set_option maxRecDepth 100000 in
theorem d77 {L : Nat} {xs : Nat → Int32} {k d n : Nat} {c : yS3} {f : Nat} {m : yM} (hk : k ≤ f) (hR : RM c m) : PC (gZ L xs) k d 77 [.ref 8] m n (qV c (F77 f m)) := by
  have hX : F77 f m = F77 f m := rfl
  have Hr : ∀ m', F77 f m = some m' → RM c m' → ∀ n' : Nat, (qV c (F77 f m)) (.inl none) m' n' := fun m' e h n' => ⟨rfl, h, e⟩
  refine PC.mk [some (.ref 8)] kn77 rfl ?_
  refine p_aload 1 c77_0 rfl rfl ?_
  refine p_getR 4 c77_1 rfl kf8_0 ?_
  refine p_cV 7 [.ref 9] [] c77_4 rfl rfl rfl (fun k' hk' d' => d76_c9 (f := f) (by omega) hR) (fun m2111 hF2107 hR2112 n2064 k2063 hk2063 => ?_)
  have hX2110 := hX.trans (bU_s hF2107)
  refine p_aload 8 c77_7 rfl rfl ?_
  refine p_getR 11 c77_8 rfl kf8_1 ?_
  refine p_cV 14 [.ref 58] [] c77_11 rfl rfl rfl (fun k' hk' d' => d76_c58 (f := f) (by omega) hR2112) (fun m2161 hF2157 hR2162 n2114 k2113 hk2113 => ?_)
  have hX2160 := hX2110.trans (bU_s hF2157)
  refine p_aload 15 c77_14 rfl rfl ?_
  refine p_getR 18 c77_15 rfl kf8_3 ?_
  refine p_cV 21 [.ref 72] [] c77_18 rfl rfl rfl (fun k' hk' d' => d76_c72 (f := f) (by omega) hR2162) (fun m2194 hF2190 hR2195 n2164 k2163 hk2163 => ?_)
  have hX2193 := hX2160.trans (bU_s hF2190)
  refine p_aload 22 c77_21 rfl rfl ?_
  refine p_getR 25 c77_22 rfl kf8_2 ?_
  refine p_iconst 26 c77_25 rfl ?_
  refine p_cV 29 [.ref 71, yI ((-1))] [] c77_26 rfl rfl rfl (fun k' hk' d' => d75_10 (f := f) (by omega) ka71 (by omega) (rgD rfl) hR2195) (fun m2202 hF2198 hR2203 n2197 k2196 hk2196 => ?_)
  have hX2201 := hX2193.trans (bU_s hF2198)
  refine p_aload 30 c77_29 rfl rfl ?_
  refine p_iconst 31 c77_30 rfl ?_
  refine p_putI 34 c77_31 rfl kf8_6 ?_
  have hR2204 := hR2203.up 8 6 (v := 0) (nselD rfl) (rgD rfl)
  exact p_return c77_34 (Hr _ hX2201 hR2204 _)
def F78 (x1 : Int) (m : yM) : Int := (if x1 = (-1) then 0 else (if m 8 5 < x1 then 0 else 1))
set_option maxRecDepth 100000 in
theorem d78 {L : Nat} {xs : Nat → Int32} {k d n : Nat} {c : yS3} {x1 : Int} {m : yM} (gx1 : rg x1) (hR : RM c m) : PC (gZ L xs) k d 78 [.ref 8, yI x1] m n (qX m (F78 x1 m)) := by
  have hX : F78 x1 m = F78 x1 m := rfl
  have Hr : ∀ r, F78 x1 m = r → rg r → ∀ n' : Nat, (qX m (F78 x1 m)) (.inl (some (yI r))) m n' := fun r e h n' => by subst e; exact ⟨rfl, h, rfl⟩
  refine PC.mk [some (.ref 8), some (yI x1)] kn78 rfl ?_
  refine p_iload 1 c78_0 rfl rfl ?_
  refine p_iconst 2 c78_1 rfl ?_
  refine p_icmp 17 5 c78_2 rfl rfl (yc_eq gx1 (rgD rfl)) (fun hb2247 k2248 hk2248 => ?_) (fun hb2247 k2249 hk2249 => ?_)
  · have hX2250 := hX.trans (if_pos hb2247)
    refine p_iconst 18 c78_17 rfl ?_
    exact p_ireturn c78_18 (Hr _ hX2250 (rgD rfl) _)
  · have hX2251 := hX.trans (if_neg hb2247)
    refine p_iload 6 c78_5 rfl rfl ?_
    refine p_aload 7 c78_6 rfl rfl ?_
    refine p_getX 10 (m 8 5) c78_7 rfl kf8_5 rfl ?_
    refine p_icmp 17 13 c78_10 rfl rfl (yc_gt gx1 (hR.rg _ _)) (fun hb2252 k2253 hk2253 => ?_) (fun hb2252 k2254 hk2254 => ?_)
    · have hX2255 := hX2251.trans (if_pos hb2252)
      refine p_iconst 18 c78_17 rfl ?_
      exact p_ireturn c78_18 (Hr _ hX2255 (rgD rfl) _)
    · have hX2256 := hX2251.trans (if_neg hb2252)
      refine p_iconst 14 c78_13 rfl ?_
      refine p_goto 18 c78_14 rfl ?_
      exact p_ireturn c78_18 (Hr _ hX2256 (rgD rfl) _)
def F79_12 (f : Nat) (a1 : Nat) (x2 : Int) (m : yM) : Option yM := (if m a1 x2.toNat = (-1) then (some (yup (yup m a1 x2.toNat (wr ((m 8 5) + 1))) 8 6 (wr ((m 8 5) + 1)))) else (some m))
set_option maxRecDepth 100000 in
theorem d79_12 {L : Nat} {xs : Nat → Int32} {k d n : Nat} {c : yS3} {f : Nat} {a1 : Nat} {x2 : Int} {m : yM} (hk : k ≤ f) (hr1 : yarr gSh 414 a1 = some (0, 12)) (hq1 : (10 ≤ a1 ∧ a1 < 72) ∨ (73 ≤ a1 ∧ a1 < 169)) (gx2 : rg x2) (hR : RM c m) : PC (gZ L xs) k d 79 [.ref 8, .ref a1, yI x2] m n (qV c (F79_12 f a1 x2 m)) := by
  have hX : F79_12 f a1 x2 m = F79_12 f a1 x2 m := rfl
  have Hr : ∀ m', F79_12 f a1 x2 m = some m' → RM c m' → ∀ n' : Nat, (qV c (F79_12 f a1 x2 m)) (.inl none) m' n' := fun m' e h n' => ⟨rfl, h, e⟩
  refine PC.mk [some (.ref 8), some (.ref a1), some (yI x2)] kn79 rfl ?_
  refine p_aload 1 c79_0 rfl rfl ?_
  refine p_iload 2 c79_1 rfl rfl ?_
  refine p_iaX 3 (m a1 x2.toNat) c79_2 rfl hr1 gx2 rfl (fun hx2291 => ?_)
  refine p_iconst 4 c79_3 rfl ?_
  refine p_icmp 26 7 c79_4 rfl rfl (yc_ne (hR.rg _ _) (rgD rfl)) (fun hb2292 k2293 hk2293 => ?_) (fun hb2292 k2294 hk2294 => ?_)
  · have hX2295 := hX.trans (if_neg hb2292)
    exact p_return c79_26 (Hr _ hX2295 hR _)
  · have hX2296 := hX.trans (if_pos (Classical.not_not.mp hb2292))
    refine p_aload 8 c79_7 rfl rfl ?_
    refine p_iload 9 c79_8 rfl rfl ?_
    refine p_aload 10 c79_9 rfl rfl ?_
    refine p_getX 13 (m 8 5) c79_10 rfl kf8_5 rfl ?_
    refine p_iconst 14 c79_13 rfl ?_
    refine p_iadd 15 c79_14 rfl ?_
    refine p_iaS 16 c79_15 rfl hr1 gx2 (wr ((m 8 5) + 1)) (nar0 (rg_wr _)) (fun hx2297 => ?_)
    have hR2298 := hR.up a1 x2.toNat (v := wr ((m 8 5) + 1)) (nselA (by omega)) (rg_wr _)
    refine p_aload 17 c79_16 rfl rfl ?_
    refine p_aload 18 c79_17 rfl rfl ?_
    refine p_getX 21 (m 8 5) c79_18 rfl kf8_5 (yup_na (by omega)) ?_
    refine p_iconst 22 c79_21 rfl ?_
    refine p_iadd 23 c79_22 rfl ?_
    refine p_putI 26 c79_23 rfl kf8_6 ?_
    have hR2299 := hR2298.up 8 6 (v := wr ((m 8 5) + 1)) (nselD rfl) (rg_wr _)
    exact p_return c79_26 (Hr _ hX2296 hR2299 _)
def J80_12_12_29 (f : Nat) (A : Nat) (a1 : Nat) (a2 : Nat) (x3 : Int) (m : yM) : Option ((Int × yM) ⊕ ((Int × yM) ⊕ (Unit × yM))) := (some (.inl ((wr (x3 + 1)), m)))
set_option maxRecDepth 100000 in
theorem tJ80_12_12_29 {L : Nat} {xs : Nat → Int32} {Q : xO → yM → Nat → Prop} {k d n : Nat} {c : yS3} {f : Nat} {A : Nat} {a1 : Nat} {a2 : Nat} {x3 : Int} {m : yM} (hk : k ≤ f) (hc : c.2.1 = pX A) (hA : (A = 256 ∨ A = 316)) (hr1 : yarr gSh 414 a1 = some (0, 12)) (hq1 : (10 ≤ a1 ∧ a1 < 58) ∨ (73 ≤ a1 ∧ a1 < 169)) (hr2 : yarr gSh 414 a2 = some (0, 12)) (hq2 : (10 ≤ a2 ∧ a2 < 58) ∨ (73 ≤ a2 ∧ a2 < 169)) (gx3 : rg x3) (hR : RM c m) (Hn : ∀ (y0 : Int) (m' : yM) (n' : Nat), J80_12_12_29 f A a1 a2 x3 m = some (.inl (y0, m')) → rg y0 → RM c m' → ∀ k', k' < k → PW (gZ L xs) k' 80 d 2 [some (.ref 8), some (.ref a1), some (.ref a2), some (yI y0)] [] m' n' Q) (He : ∀ (y0 : Int) (m' : yM) (n' : Nat), J80_12_12_29 f A a1 a2 x3 m = some (.inr (.inl (y0, m'))) → rg y0 → RM c m' → ∀ k', k' ≤ k → PW (gZ L xs) k' 80 d 35 [some (.ref 8), some (.ref a1), some (.ref a2), some (yI y0)] [] m' n' Q) (Hr : ∀ m', J80_12_12_29 f A a1 a2 x3 m = some (.inr (.inr ((), m'))) → RM c m' → ∀ n', Q (.inl none) m' n') : PW (gZ L xs) k 80 d 29 [some (.ref 8), some (.ref a1), some (.ref a2), some (yI x3)] [] m n Q := by
  have hX : J80_12_12_29 f A a1 a2 x3 m = J80_12_12_29 f A a1 a2 x3 m := rfl
  refine p_iinc 32 c80_29 rfl rfl rfl ?_
  refine p_gotoD 2 c80_32 rfl (fun k2287 hk2287 => ?_)
  exact Hn _ _ _ hX (rg_wr _) hR _ (by omega)
def B80_12_12_2 (f : Nat) (A : Nat) (a1 : Nat) (a2 : Nat) (x3 : Int) (m : yM) : Option ((Int × yM) ⊕ ((Int × yM) ⊕ (Unit × yM))) := (if x3 < m A 14 then (if F78 (m a1 x3.toNat) m = 0 then (J80_12_12_29 f A a1 a2 x3 m) else (bU (F79_12 f a2 x3 m) (fun m2304 => (J80_12_12_29 f A a1 a2 x3 m2304)))) else (some (.inr (.inl (x3, m)))))
set_option maxRecDepth 100000 in
theorem tB80_12_12_2 {L : Nat} {xs : Nat → Int32} {Q : xO → yM → Nat → Prop} {k d n : Nat} {c : yS3} {f : Nat} {A : Nat} {a1 : Nat} {a2 : Nat} {x3 : Int} {m : yM} (hk : k ≤ f) (hc : c.2.1 = pX A) (hA : (A = 256 ∨ A = 316)) (hr1 : yarr gSh 414 a1 = some (0, 12)) (hq1 : (10 ≤ a1 ∧ a1 < 58) ∨ (73 ≤ a1 ∧ a1 < 169)) (hr2 : yarr gSh 414 a2 = some (0, 12)) (hq2 : (10 ≤ a2 ∧ a2 < 58) ∨ (73 ≤ a2 ∧ a2 < 169)) (gx3 : rg x3) (hR : RM c m) (Hn : ∀ (y0 : Int) (m' : yM) (n' : Nat), B80_12_12_2 f A a1 a2 x3 m = some (.inl (y0, m')) → rg y0 → RM c m' → ∀ k', k' < k → PW (gZ L xs) k' 80 d 2 [some (.ref 8), some (.ref a1), some (.ref a2), some (yI y0)] [] m' n' Q) (He : ∀ (y0 : Int) (m' : yM) (n' : Nat), B80_12_12_2 f A a1 a2 x3 m = some (.inr (.inl (y0, m'))) → rg y0 → RM c m' → ∀ k', k' ≤ k → PW (gZ L xs) k' 80 d 35 [some (.ref 8), some (.ref a1), some (.ref a2), some (yI y0)] [] m' n' Q) (Hr : ∀ m', B80_12_12_2 f A a1 a2 x3 m = some (.inr (.inr ((), m'))) → RM c m' → ∀ n', Q (.inl none) m' n') : PW (gZ L xs) k 80 d 2 [some (.ref 8), some (.ref a1), some (.ref a2), some (yI x3)] [] m n Q := by
  have hX : B80_12_12_2 f A a1 a2 x3 m = B80_12_12_2 f A a1 a2 x3 m := rfl
  refine p_iload 3 c80_2 rfl rfl ?_
  refine p_aload 4 c80_3 rfl rfl ?_
  refine p_getV 7 (.ref A) c80_4 rfl kf8_4 (pX_of hA hR.2.2.2.2.1 hc) ?_
  refine p_getX 10 (m A 14) c80_7 rfl (kP_14 hA) rfl ?_
  refine p_icmp 35 13 c80_10 rfl rfl ((yc_ge gx3 (hR.rg _ _)).trans Int.not_lt.symm) (fun hb2274 k2275 hk2275 => ?_) (fun hb2274 k2276 hk2276 => ?_)
  · have hX2277 := hX.trans (if_neg hb2274)
    exact He _ _ _ hX2277 gx3 hR _ (by omega)
  · have hX2278 := hX.trans (if_pos (Classical.not_not.mp hb2274))
    refine p_aload 14 c80_13 rfl rfl ?_
    refine p_aload 15 c80_14 rfl rfl ?_
    refine p_iload 16 c80_15 rfl rfl ?_
    refine p_iaX 17 (m a1 x3.toNat) c80_16 rfl hr1 gx3 rfl (fun hx2279 => ?_)
    refine p_cX 20 [.ref 8, yI (m a1 x3.toNat)] [] c80_17 rfl rfl rfl (fun k' hk' d' => d78 (hR.rg _ _) hR) (fun hg2282 n2281 k2280 hk2280 => ?_)
    refine p_if 29 23 c80_20 rfl rfl (yz_eq hg2282) (fun hb2283 k2284 hk2284 => ?_) (fun hb2283 k2285 hk2285 => ?_)
    · have hX2286 := hX2278.trans (if_pos hb2283)
      exact tJ80_12_12_29 (f := f) (by omega) hc hA hr1 (by omega) hr2 (by omega) gx3 hR (fun y0 m' n' e' h0 hR' k' hk' => Hn y0 m' n' (hX2286.trans e') h0 hR' k' (by omega)) (fun y0 m' n' e' h0 hR' k' hk' => He y0 m' n' (hX2286.trans e') h0 hR' k' (by omega)) (fun m' e' => Hr m' (hX2286.trans e'))
    · have hX2288 := hX2278.trans (if_neg hb2283)
      refine p_aload 24 c80_23 rfl rfl ?_
      refine p_aload 25 c80_24 rfl rfl ?_
      refine p_iload 26 c80_25 rfl rfl ?_
      refine p_cV 29 [.ref 8, .ref a2, yI x3] [] c80_26 rfl rfl rfl (fun k' hk' d' => d79_12 (f := f) (by omega) hr2 (by omega) gx3 hR) (fun m2304 hF2300 hR2305 n2290 k2289 hk2289 => ?_)
      have hX2303 := hX2288.trans (bU_s hF2300)
      exact tJ80_12_12_29 (f := f) (by omega) hc hA hr1 (by omega) hr2 (by omega) gx3 hR2305 (fun y0 m' n' e' h0 hR' k' hk' => Hn y0 m' n' (hX2303.trans e') h0 hR' k' (by omega)) (fun y0 m' n' e' h0 hR' k' hk' => He y0 m' n' (hX2303.trans e') h0 hR' k' (by omega)) (fun m' e' => Hr m' (hX2303.trans e'))
def F80_12_12 (f : Nat) (A : Nat) (a1 : Nat) (a2 : Nat) (m : yM) : Option yM := (bL (yloop (fun (l : Int) ml => B80_12_12_2 f A a1 a2 l ml) f 0 m) (fun l2306 m2312 => (some m2312)) (fun _ mr => some mr))
set_option maxRecDepth 100000 in
theorem d80_12_12 {L : Nat} {xs : Nat → Int32} {k d n : Nat} {c : yS3} {f : Nat} {A : Nat} {a1 : Nat} {a2 : Nat} {m : yM} (hk : k ≤ f) (hc : c.2.1 = pX A) (hA : (A = 256 ∨ A = 316)) (hr1 : yarr gSh 414 a1 = some (0, 12)) (hq1 : (10 ≤ a1 ∧ a1 < 58) ∨ (73 ≤ a1 ∧ a1 < 169)) (hr2 : yarr gSh 414 a2 = some (0, 12)) (hq2 : (10 ≤ a2 ∧ a2 < 58) ∨ (73 ≤ a2 ∧ a2 < 169)) (hR : RM c m) : PC (gZ L xs) k d 80 [.ref 8, .ref a1, .ref a2] m n (qV c (F80_12_12 f A a1 a2 m)) := by
  have hX : F80_12_12 f A a1 a2 m = F80_12_12 f A a1 a2 m := rfl
  have Hr : ∀ m', F80_12_12 f A a1 a2 m = some m' → RM c m' → ∀ n' : Nat, (qV c (F80_12_12 f A a1 a2 m)) (.inl none) m' n' := fun m' e h n' => ⟨rfl, h, e⟩
  refine PC.mk [some (.ref 8), some (.ref a1), some (.ref a2), none] kn80 rfl ?_
  refine p_iconst 1 c80_0 rfl ?_
  refine p_istore 2 c80_1 rfl rfl ?_
  refine PW.loop (K := k) (pce := 35) (fun (l : Int) ml => B80_12_12_2 f A a1 a2 l ml) (fun (l : Int) j => [some (.ref 8), some (.ref a1), some (.ref a2), some (yI l)]) (fun (l : Int) => rg l) (RM c) (fun (r' : Unit) m' => RM c m' → ∀ n' : Nat, (qV c (F80_12_12 f A a1 a2 m)) (.inl none) m' n') (fun k' hk' l j m' n' hl hI Hn' He' Hr' => tB80_12_12_2 (f := f) (by omega) hc hA hr1 (by omega) hr2 (by omega) hl hI (fun y0 m2 n2 e h0 hR2 => Hn' y0 (fun q => ([none, none, none, none] : List (Option Value)).getD q none) m2 n2 e h0 hR2) (fun y0 m2 n2 e h0 hR2 => He' y0 (fun q => ([none, none, none, none] : List (Option Value)).getD q none) m2 n2 e h0 hR2) (fun m2 e => Hr' () m2 e)) f k (by omega) (Nat.le_refl _) 0 (fun q => ([some (.ref 8), some (.ref a1), some (.ref a2), some (yI 0)] : xL).getD q none) _ _ (rgD rfl) hR (fun l2306 j2309 m2312 n2311 e2308 hl2307 hR2313 k2310 hk2310 => ?_) (fun r' m' e' => ?_)
  · have hX2314 := hX.trans (bL_l e2308)
    exact p_return c80_35 (Hr _ hX2314 hR2313 _)
  · exact Hr m' (hX.trans (bL_r e'))
def F83 (x1 : Int) (x2 : Int) : Nat := (73 + (wr ((wr (x1 * 8)) + x2)).toNat)
set_option maxRecDepth 100000 in
theorem d83 {L : Nat} {xs : Nat → Int32} {k d n : Nat} {c : yS3} {x1 : Int} {x2 : Int} {m : yM} (gx1 : rg x1) (gx2 : rg x2) (hR : RM c m) : PC (gZ L xs) k d 83 [.ref 8, yI x1, yI x2] m n (qXR m (fun a => yarr gSh 414 a = some (0, 12) ∧ (73 ≤ a ∧ a < 169)) (F83 x1 x2)) := by
  have hX : F83 x1 x2 = F83 x1 x2 := rfl
  have Hr : ∀ r, F83 x1 x2 = r → (fun a => yarr gSh 414 a = some (0, 12) ∧ (73 ≤ a ∧ a < 169)) r → ∀ n' : Nat, (qXR m (fun a => yarr gSh 414 a = some (0, 12) ∧ (73 ≤ a ∧ a < 169)) (F83 x1 x2)) (.inl (some (.ref r))) m n' := fun r e h n' => by subst e; exact ⟨rfl, h, rfl⟩
  refine PC.mk [some (.ref 8), some (yI x1), some (yI x2)] kn83 rfl ?_
  refine p_aload 1 c83_0 rfl rfl ?_
  refine p_getR 4 c83_1 rfl kf8_3 ?_
  refine p_iload 5 c83_4 rfl rfl ?_
  refine p_iconst 7 c83_5 rfl ?_
  refine p_imul 8 c83_7 rfl ?_
  refine p_iload 9 c83_8 rfl rfl ?_
  refine p_iadd 10 c83_9 rfl ?_
  refine p_aaX 11 c83_10 rfl kr72 (rg_wr _) (fun hx2356 => ?_)
  exact p_areturn c83_11 (Hr (73 + (wr ((wr (x1 * 8)) + x2)).toNat) hX ⟨(kR72 hx2356), by omega⟩ _)
def J85_76 (f : Nat) (A : Nat) (a1 : Nat) (x2 : Int) (m : yM) : Option ((Int × yM) ⊕ ((Int × yM) ⊕ (Unit × yM))) := (some (.inl ((wr (x2 + 1)), m)))
set_option maxRecDepth 100000 in
theorem tJ85_76 {L : Nat} {xs : Nat → Int32} {Q : xO → yM → Nat → Prop} {k d n : Nat} {c : yS3} {f : Nat} {A : Nat} {a1 : Nat} {x2 : Int} {m : yM} (hk : k ≤ f) (hc : c.2.1 = pX A) (hA : (A = 256 ∨ A = 316)) (hs1 : (276 ≤ a1 ∧ a1 < 316) ∨ (336 ≤ a1 ∧ a1 < 376)) (gx2 : rg x2) (hR : RM c m) (Hn : ∀ (y0 : Int) (m' : yM) (n' : Nat), J85_76 f A a1 x2 m = some (.inl (y0, m')) → rg y0 → RM c m' → ∀ k', k' < k → PW (gZ L xs) k' 85 d 2 [some (.ref 8), some (.ref a1), some (yI y0)] [] m' n' Q) (He : ∀ (y0 : Int) (m' : yM) (n' : Nat), J85_76 f A a1 x2 m = some (.inr (.inl (y0, m'))) → rg y0 → RM c m' → ∀ k', k' ≤ k → PW (gZ L xs) k' 85 d 82 [some (.ref 8), some (.ref a1), some (yI y0)] [] m' n' Q) (Hr : ∀ m', J85_76 f A a1 x2 m = some (.inr (.inr ((), m'))) → RM c m' → ∀ n', Q (.inl none) m' n') : PW (gZ L xs) k 85 d 76 [some (.ref 8), some (.ref a1), some (yI x2)] [] m n Q := by
  have hX : J85_76 f A a1 x2 m = J85_76 f A a1 x2 m := rfl
  refine p_iinc 79 c85_76 rfl rfl rfl ?_
  refine p_gotoD 2 c85_79 rfl (fun k2341 hk2341 => ?_)
  exact Hn _ _ _ hX (rg_wr _) hR _ (by omega)
def B85_2 (f : Nat) (A : Nat) (a1 : Nat) (x2 : Int) (m : yM) : Option ((Int × yM) ⊕ ((Int × yM) ⊕ (Unit × yM))) := (if x2 < m A 14 then (if 0 ≤ (m a1 2) ∧ (m a1 2) < ((48 : Nat) : Int) then (if F78 (m (10 + (m a1 2).toNat) x2.toNat) m = 0 then (J85_76 f A a1 x2 m) else (if F47 A (m (A + 8) x2.toNat) (m a1 6) m = 0 then (J85_76 f A a1 x2 m) else (if 0 ≤ (m a1 3) ∧ (m a1 3) < ((48 : Nat) : Int) then (if 73 ≤ (F83 x2 (m a1 6)) ∧ (F83 x2 (m a1 6)) < 169 then (bU (F80_12_12 f A (10 + (m a1 3).toNat) (F83 x2 (m a1 6)) m) (fun m2365 => (J85_76 f A a1 x2 m2365))) else none) else none))) else none) else (some (.inr (.inl (x2, m)))))
set_option maxRecDepth 100000 in
theorem tB85_2 {L : Nat} {xs : Nat → Int32} {Q : xO → yM → Nat → Prop} {k d n : Nat} {c : yS3} {f : Nat} {A : Nat} {a1 : Nat} {x2 : Int} {m : yM} (hk : k ≤ f) (hc : c.2.1 = pX A) (hA : (A = 256 ∨ A = 316)) (hs1 : (276 ≤ a1 ∧ a1 < 316) ∨ (336 ≤ a1 ∧ a1 < 376)) (gx2 : rg x2) (hR : RM c m) (Hn : ∀ (y0 : Int) (m' : yM) (n' : Nat), B85_2 f A a1 x2 m = some (.inl (y0, m')) → rg y0 → RM c m' → ∀ k', k' < k → PW (gZ L xs) k' 85 d 2 [some (.ref 8), some (.ref a1), some (yI y0)] [] m' n' Q) (He : ∀ (y0 : Int) (m' : yM) (n' : Nat), B85_2 f A a1 x2 m = some (.inr (.inl (y0, m'))) → rg y0 → RM c m' → ∀ k', k' ≤ k → PW (gZ L xs) k' 85 d 82 [some (.ref 8), some (.ref a1), some (yI y0)] [] m' n' Q) (Hr : ∀ m', B85_2 f A a1 x2 m = some (.inr (.inr ((), m'))) → RM c m' → ∀ n', Q (.inl none) m' n') : PW (gZ L xs) k 85 d 2 [some (.ref 8), some (.ref a1), some (yI x2)] [] m n Q := by
  have hX : B85_2 f A a1 x2 m = B85_2 f A a1 x2 m := rfl
  refine p_iload 3 c85_2 rfl rfl ?_
  refine p_aload 4 c85_3 rfl rfl ?_
  refine p_getV 7 (.ref A) c85_4 rfl kf8_4 (pX_of hA hR.2.2.2.2.1 hc) ?_
  refine p_getX 10 (m A 14) c85_7 rfl (kP_14 hA) rfl ?_
  refine p_icmp 82 13 c85_10 rfl rfl ((yc_ge gx2 (hR.rg _ _)).trans Int.not_lt.symm) (fun hb2326 k2327 hk2327 => ?_) (fun hb2326 k2328 hk2328 => ?_)
  · have hX2329 := hX.trans (if_neg hb2326)
    exact He _ _ _ hX2329 gx2 hR _ (by omega)
  · have hX2330 := hX.trans (if_pos (Classical.not_not.mp hb2326))
    refine p_aload 14 c85_13 rfl rfl ?_
    refine p_aload 15 c85_14 rfl rfl ?_
    refine p_getR 18 c85_15 rfl kf8_0 ?_
    refine p_aload 19 c85_18 rfl rfl ?_
    refine p_getX 22 (m a1 2) c85_19 rfl (kS_2 hs1) rfl ?_
    refine p_aaX 23 c85_22 rfl kr9 (hR.rg _ _) (fun hx2331 => ?_)
    have hX2332 := hX2330.trans (if_pos hx2331)
    refine p_iload 24 c85_23 rfl rfl ?_
    refine p_iaX 25 (m (10 + (m a1 2).toNat) x2.toNat) c85_24 rfl (kR9 hx2331) gx2 rfl (fun hx2333 => ?_)
    refine p_cX 28 [.ref 8, yI (m (10 + (m a1 2).toNat) x2.toNat)] [] c85_25 rfl rfl rfl (fun k' hk' d' => d78 (hR.rg _ _) hR) (fun hg2336 n2335 k2334 hk2334 => ?_)
    refine p_if 76 31 c85_28 rfl rfl (yz_eq hg2336) (fun hb2337 k2338 hk2338 => ?_) (fun hb2337 k2339 hk2339 => ?_)
    · have hX2340 := hX2332.trans (if_pos hb2337)
      exact tJ85_76 (f := f) (by omega) hc hA hs1 gx2 hR (fun y0 m' n' e' h0 hR' k' hk' => Hn y0 m' n' (hX2340.trans e') h0 hR' k' (by omega)) (fun y0 m' n' e' h0 hR' k' hk' => He y0 m' n' (hX2340.trans e') h0 hR' k' (by omega)) (fun m' e' => Hr m' (hX2340.trans e'))
    · have hX2342 := hX2332.trans (if_neg hb2337)
      refine p_aload 32 c85_31 rfl rfl ?_
      refine p_getV 35 (.ref A) c85_32 rfl kf8_4 (pX_of hA hR.2.2.2.2.1 hc) ?_
      refine p_aload 36 c85_35 rfl rfl ?_
      refine p_getV 39 (.ref A) c85_36 rfl kf8_4 (pX_of hA hR.2.2.2.2.1 hc) ?_
      refine p_getR 42 c85_39 rfl (kP_7 hA) ?_
      refine p_iload 43 c85_42 rfl rfl ?_
      refine p_iaX 44 (m (A + 8) x2.toNat) c85_43 rfl (kPa_8 hA) gx2 rfl (fun hx2343 => ?_)
      refine p_aload 45 c85_44 rfl rfl ?_
      refine p_getX 48 (m a1 6) c85_45 rfl (kS_6 hs1) rfl ?_
      refine p_cX 51 [.ref A, yI (m (A + 8) x2.toNat), yI (m a1 6)] [] c85_48 rfl rfl rfl (fun k' hk' d' => d47 hA (hR.rg _ _) (hR.rg _ _) hR) (fun hg2346 n2345 k2344 hk2344 => ?_)
      refine p_if 76 54 c85_51 rfl rfl (yz_eq hg2346) (fun hb2347 k2348 hk2348 => ?_) (fun hb2347 k2349 hk2349 => ?_)
      · have hX2350 := hX2342.trans (if_pos hb2347)
        exact tJ85_76 (f := f) (by omega) hc hA hs1 gx2 hR (fun y0 m' n' e' h0 hR' k' hk' => Hn y0 m' n' (hX2350.trans e') h0 hR' k' (by omega)) (fun y0 m' n' e' h0 hR' k' hk' => He y0 m' n' (hX2350.trans e') h0 hR' k' (by omega)) (fun m' e' => Hr m' (hX2350.trans e'))
      · have hX2351 := hX2342.trans (if_neg hb2347)
        refine p_aload 55 c85_54 rfl rfl ?_
        refine p_aload 56 c85_55 rfl rfl ?_
        refine p_getR 59 c85_56 rfl kf8_0 ?_
        refine p_aload 60 c85_59 rfl rfl ?_
        refine p_getX 63 (m a1 3) c85_60 rfl (kS_3 hs1) rfl ?_
        refine p_aaX 64 c85_63 rfl kr9 (hR.rg _ _) (fun hx2352 => ?_)
        have hX2353 := hX2351.trans (if_pos hx2352)
        refine p_aload 65 c85_64 rfl rfl ?_
        refine p_iload 66 c85_65 rfl rfl ?_
        refine p_aload 67 c85_66 rfl rfl ?_
        refine p_getX 70 (m a1 6) c85_67 rfl (kS_6 hs1) rfl ?_
        refine p_cXR 73 [.ref 8, yI x2, yI (m a1 6)] [.ref (10 + (m a1 3).toNat), .ref 8] c85_70 rfl rfl rfl (fun k' hk' d' => d83 gx2 (hR.rg _ _) hR) (fun hg2357 n2355 k2354 hk2354 => ?_)
        have := hg2357.2
        have hX2358 := hX2353.trans (if_pos hg2357.2)
        refine p_cV 76 [.ref 8, .ref (10 + (m a1 3).toNat), .ref (F83 x2 (m a1 6))] [] c85_73 rfl rfl rfl (fun k' hk' d' => d80_12_12 (f := f) (by omega) hc hA (kR9 hx2352) (by omega) hg2357.1 (by omega) hR) (fun m2365 hF2361 hR2366 n2360 k2359 hk2359 => ?_)
        have hX2364 := hX2358.trans (bU_s hF2361)
        exact tJ85_76 (f := f) (by omega) hc hA hs1 gx2 hR2366 (fun y0 m' n' e' h0 hR' k' hk' => Hn y0 m' n' (hX2364.trans e') h0 hR' k' (by omega)) (fun y0 m' n' e' h0 hR' k' hk' => He y0 m' n' (hX2364.trans e') h0 hR' k' (by omega)) (fun m' e' => Hr m' (hX2364.trans e'))
def F85 (f : Nat) (A : Nat) (a1 : Nat) (m : yM) : Option yM := (bL (yloop (fun (l : Int) ml => B85_2 f A a1 l ml) f 0 m) (fun l2367 m2373 => (some m2373)) (fun _ mr => some mr))
set_option maxRecDepth 100000 in
theorem d85 {L : Nat} {xs : Nat → Int32} {k d n : Nat} {c : yS3} {f : Nat} {A : Nat} {a1 : Nat} {m : yM} (hk : k ≤ f) (hc : c.2.1 = pX A) (hA : (A = 256 ∨ A = 316)) (hs1 : (276 ≤ a1 ∧ a1 < 316) ∨ (336 ≤ a1 ∧ a1 < 376)) (hR : RM c m) : PC (gZ L xs) k d 85 [.ref 8, .ref a1] m n (qV c (F85 f A a1 m)) := by
  have hX : F85 f A a1 m = F85 f A a1 m := rfl
  have Hr : ∀ m', F85 f A a1 m = some m' → RM c m' → ∀ n' : Nat, (qV c (F85 f A a1 m)) (.inl none) m' n' := fun m' e h n' => ⟨rfl, h, e⟩
  refine PC.mk [some (.ref 8), some (.ref a1), none] kn85 rfl ?_
  refine p_iconst 1 c85_0 rfl ?_
  refine p_istore 2 c85_1 rfl rfl ?_
  refine PW.loop (K := k) (pce := 82) (fun (l : Int) ml => B85_2 f A a1 l ml) (fun (l : Int) j => [some (.ref 8), some (.ref a1), some (yI l)]) (fun (l : Int) => rg l) (RM c) (fun (r' : Unit) m' => RM c m' → ∀ n' : Nat, (qV c (F85 f A a1 m)) (.inl none) m' n') (fun k' hk' l j m' n' hl hI Hn' He' Hr' => tB85_2 (f := f) (by omega) hc hA hs1 hl hI (fun y0 m2 n2 e h0 hR2 => Hn' y0 (fun q => ([none, none, none] : List (Option Value)).getD q none) m2 n2 e h0 hR2) (fun y0 m2 n2 e h0 hR2 => He' y0 (fun q => ([none, none, none] : List (Option Value)).getD q none) m2 n2 e h0 hR2) (fun m2 e => Hr' () m2 e)) f k (by omega) (Nat.le_refl _) 0 (fun q => ([some (.ref 8), some (.ref a1), some (yI 0)] : xL).getD q none) _ _ (rgD rfl) hR (fun l2367 j2370 m2373 n2372 e2369 hl2368 hR2374 k2371 hk2371 => ?_) (fun r' m' e' => ?_)
  · have hX2375 := hX.trans (bL_l e2369)
    exact p_return c85_82 (Hr _ hX2375 hR2374 _)
  · exact Hr m' (hX.trans (bL_r e'))
def F79_10 (f : Nat) (a1 : Nat) (x2 : Int) (m : yM) : Option yM := (if m a1 x2.toNat = (-1) then (some (yup (yup m a1 x2.toNat (wr ((m 8 5) + 1))) 8 6 (wr ((m 8 5) + 1)))) else (some m))
set_option maxRecDepth 100000 in
theorem d79_10 {L : Nat} {xs : Nat → Int32} {k d n : Nat} {c : yS3} {f : Nat} {a1 : Nat} {x2 : Int} {m : yM} (hk : k ≤ f) (hr1 : yarr gSh 414 a1 = some (0, 10)) (hq1 : (10 ≤ a1 ∧ a1 < 72) ∨ (73 ≤ a1 ∧ a1 < 169)) (gx2 : rg x2) (hR : RM c m) : PC (gZ L xs) k d 79 [.ref 8, .ref a1, yI x2] m n (qV c (F79_10 f a1 x2 m)) := by
  have hX : F79_10 f a1 x2 m = F79_10 f a1 x2 m := rfl
  have Hr : ∀ m', F79_10 f a1 x2 m = some m' → RM c m' → ∀ n' : Nat, (qV c (F79_10 f a1 x2 m)) (.inl none) m' n' := fun m' e h n' => ⟨rfl, h, e⟩
  refine PC.mk [some (.ref 8), some (.ref a1), some (yI x2)] kn79 rfl ?_
  refine p_aload 1 c79_0 rfl rfl ?_
  refine p_iload 2 c79_1 rfl rfl ?_
  refine p_iaX 3 (m a1 x2.toNat) c79_2 rfl hr1 gx2 rfl (fun hx2420 => ?_)
  refine p_iconst 4 c79_3 rfl ?_
  refine p_icmp 26 7 c79_4 rfl rfl (yc_ne (hR.rg _ _) (rgD rfl)) (fun hb2421 k2422 hk2422 => ?_) (fun hb2421 k2423 hk2423 => ?_)
  · have hX2424 := hX.trans (if_neg hb2421)
    exact p_return c79_26 (Hr _ hX2424 hR _)
  · have hX2425 := hX.trans (if_pos (Classical.not_not.mp hb2421))
    refine p_aload 8 c79_7 rfl rfl ?_
    refine p_iload 9 c79_8 rfl rfl ?_
    refine p_aload 10 c79_9 rfl rfl ?_
    refine p_getX 13 (m 8 5) c79_10 rfl kf8_5 rfl ?_
    refine p_iconst 14 c79_13 rfl ?_
    refine p_iadd 15 c79_14 rfl ?_
    refine p_iaS 16 c79_15 rfl hr1 gx2 (wr ((m 8 5) + 1)) (nar0 (rg_wr _)) (fun hx2426 => ?_)
    have hR2427 := hR.up a1 x2.toNat (v := wr ((m 8 5) + 1)) (nselA (by omega)) (rg_wr _)
    refine p_aload 17 c79_16 rfl rfl ?_
    refine p_aload 18 c79_17 rfl rfl ?_
    refine p_getX 21 (m 8 5) c79_18 rfl kf8_5 (yup_na (by omega)) ?_
    refine p_iconst 22 c79_21 rfl ?_
    refine p_iadd 23 c79_22 rfl ?_
    refine p_putI 26 c79_23 rfl kf8_6 ?_
    have hR2428 := hR2427.up 8 6 (v := wr ((m 8 5) + 1)) (nselD rfl) (rg_wr _)
    exact p_return c79_26 (Hr _ hX2425 hR2428 _)
def J86_106 (f : Nat) (A : Nat) (a1 : Nat) (x2 : Int) (m : yM) : Option ((Int × yM) ⊕ ((Int × yM) ⊕ (Unit × yM))) := (some (.inl ((wr (x2 + 1)), m)))
set_option maxRecDepth 100000 in
theorem tJ86_106 {L : Nat} {xs : Nat → Int32} {Q : xO → yM → Nat → Prop} {k d n : Nat} {c : yS3} {f : Nat} {A : Nat} {a1 : Nat} {x2 : Int} {m : yM} {j3 : Option Value} (hk : k ≤ f) (hc : c.2.1 = pX A) (hA : (A = 256 ∨ A = 316)) (hs1 : (276 ≤ a1 ∧ a1 < 316) ∨ (336 ≤ a1 ∧ a1 < 376)) (gx2 : rg x2) (hR : RM c m) (Hn : ∀ (y0 : Int) (z0 : Option Value) (m' : yM) (n' : Nat), J86_106 f A a1 x2 m = some (.inl (y0, m')) → rg y0 → RM c m' → ∀ k', k' < k → PW (gZ L xs) k' 86 d 2 [some (.ref 8), some (.ref a1), some (yI y0), z0] [] m' n' Q) (He : ∀ (y0 : Int) (z0 : Option Value) (m' : yM) (n' : Nat), J86_106 f A a1 x2 m = some (.inr (.inl (y0, m'))) → rg y0 → RM c m' → ∀ k', k' ≤ k → PW (gZ L xs) k' 86 d 112 [some (.ref 8), some (.ref a1), some (yI y0), z0] [] m' n' Q) (Hr : ∀ m', J86_106 f A a1 x2 m = some (.inr (.inr ((), m'))) → RM c m' → ∀ n', Q (.inl none) m' n') : PW (gZ L xs) k 86 d 106 [some (.ref 8), some (.ref a1), some (yI x2), j3] [] m n Q := by
  have hX : J86_106 f A a1 x2 m = J86_106 f A a1 x2 m := rfl
  refine p_iinc 109 c86_106 rfl rfl rfl ?_
  refine p_gotoD 2 c86_109 rfl (fun k2402 hk2402 => ?_)
  exact Hn _ _ _ _ hX (rg_wr _) hR _ (by omega)
def B86_2 (f : Nat) (A : Nat) (a1 : Nat) (x2 : Int) (m : yM) : Option ((Int × yM) ⊕ ((Int × yM) ⊕ (Unit × yM))) := (if x2 < m A 14 then (if 0 ≤ (m a1 3) ∧ (m a1 3) < ((48 : Nat) : Int) then (if F78 (m (10 + (m a1 3).toNat) x2.toNat) m = 0 then (J86_106 f A a1 x2 m) else (bP (F72 f A (m (A + 8) x2.toNat) (m a1 4) (m a1 8) m) (fun r2409 => (if r2409 = (-1) then (J86_106 f A a1 x2 m) else (if 0 ≤ (m a1 6) ∧ (m a1 6) < ((12 : Nat) : Int) then (bU (F79_10 f (59 + (m a1 6).toNat) r2409 m) (fun m2433 => (bU (F79_10 f 71 r2409 m2433) (fun m2441 => (if 0 ≤ r2409 ∧ r2409 < ((10 : Nat) : Int) then (if 0 ≤ (F57 (A + 10 + (r2409).toNat) m2441) ∧ (F57 (A + 10 + (r2409).toNat) m2441) < ((48 : Nat) : Int) then (bU (F79_12 f (10 + (F57 (A + 10 + (r2409).toNat) m2441).toNat) x2 m2441) (fun m2456 => (J86_106 f A a1 x2 m2456))) else none) else none))))) else none))))) else none) else (some (.inr (.inl (x2, m)))))
set_option maxRecDepth 100000 in
theorem tB86_2 {L : Nat} {xs : Nat → Int32} {Q : xO → yM → Nat → Prop} {k d n : Nat} {c : yS3} {f : Nat} {A : Nat} {a1 : Nat} {x2 : Int} {m : yM} {j3 : Option Value} (hk : k ≤ f) (hc : c.2.1 = pX A) (hA : (A = 256 ∨ A = 316)) (hs1 : (276 ≤ a1 ∧ a1 < 316) ∨ (336 ≤ a1 ∧ a1 < 376)) (gx2 : rg x2) (hR : RM c m) (Hn : ∀ (y0 : Int) (z0 : Option Value) (m' : yM) (n' : Nat), B86_2 f A a1 x2 m = some (.inl (y0, m')) → rg y0 → RM c m' → ∀ k', k' < k → PW (gZ L xs) k' 86 d 2 [some (.ref 8), some (.ref a1), some (yI y0), z0] [] m' n' Q) (He : ∀ (y0 : Int) (z0 : Option Value) (m' : yM) (n' : Nat), B86_2 f A a1 x2 m = some (.inr (.inl (y0, m'))) → rg y0 → RM c m' → ∀ k', k' ≤ k → PW (gZ L xs) k' 86 d 112 [some (.ref 8), some (.ref a1), some (yI y0), z0] [] m' n' Q) (Hr : ∀ m', B86_2 f A a1 x2 m = some (.inr (.inr ((), m'))) → RM c m' → ∀ n', Q (.inl none) m' n') : PW (gZ L xs) k 86 d 2 [some (.ref 8), some (.ref a1), some (yI x2), j3] [] m n Q := by
  have hX : B86_2 f A a1 x2 m = B86_2 f A a1 x2 m := rfl
  refine p_iload 3 c86_2 rfl rfl ?_
  refine p_aload 4 c86_3 rfl rfl ?_
  refine p_getV 7 (.ref A) c86_4 rfl kf8_4 (pX_of hA hR.2.2.2.2.1 hc) ?_
  refine p_getX 10 (m A 14) c86_7 rfl (kP_14 hA) rfl ?_
  refine p_icmp 112 13 c86_10 rfl rfl ((yc_ge gx2 (hR.rg _ _)).trans Int.not_lt.symm) (fun hb2387 k2388 hk2388 => ?_) (fun hb2387 k2389 hk2389 => ?_)
  · have hX2390 := hX.trans (if_neg hb2387)
    exact He _ _ _ _ hX2390 gx2 hR _ (by omega)
  · have hX2391 := hX.trans (if_pos (Classical.not_not.mp hb2387))
    refine p_aload 14 c86_13 rfl rfl ?_
    refine p_aload 15 c86_14 rfl rfl ?_
    refine p_getR 18 c86_15 rfl kf8_0 ?_
    refine p_aload 19 c86_18 rfl rfl ?_
    refine p_getX 22 (m a1 3) c86_19 rfl (kS_3 hs1) rfl ?_
    refine p_aaX 23 c86_22 rfl kr9 (hR.rg _ _) (fun hx2392 => ?_)
    have hX2393 := hX2391.trans (if_pos hx2392)
    refine p_iload 24 c86_23 rfl rfl ?_
    refine p_iaX 25 (m (10 + (m a1 3).toNat) x2.toNat) c86_24 rfl (kR9 hx2392) gx2 rfl (fun hx2394 => ?_)
    refine p_cX 28 [.ref 8, yI (m (10 + (m a1 3).toNat) x2.toNat)] [] c86_25 rfl rfl rfl (fun k' hk' d' => d78 (hR.rg _ _) hR) (fun hg2397 n2396 k2395 hk2395 => ?_)
    refine p_if 106 31 c86_28 rfl rfl (yz_eq hg2397) (fun hb2398 k2399 hk2399 => ?_) (fun hb2398 k2400 hk2400 => ?_)
    · have hX2401 := hX2393.trans (if_pos hb2398)
      exact tJ86_106 (f := f) (by omega) hc hA hs1 gx2 hR (fun y0 y1 m' n' e' h0 hR' k' hk' => Hn y0 y1 m' n' (hX2401.trans e') h0 hR' k' (by omega)) (fun y0 y1 m' n' e' h0 hR' k' hk' => He y0 y1 m' n' (hX2401.trans e') h0 hR' k' (by omega)) (fun m' e' => Hr m' (hX2401.trans e'))
    · have hX2403 := hX2393.trans (if_neg hb2398)
      refine p_aload 32 c86_31 rfl rfl ?_
      refine p_getV 35 (.ref A) c86_32 rfl kf8_4 (pX_of hA hR.2.2.2.2.1 hc) ?_
      refine p_aload 36 c86_35 rfl rfl ?_
      refine p_getV 39 (.ref A) c86_36 rfl kf8_4 (pX_of hA hR.2.2.2.2.1 hc) ?_
      refine p_getR 42 c86_39 rfl (kP_7 hA) ?_
      refine p_iload 43 c86_42 rfl rfl ?_
      refine p_iaX 44 (m (A + 8) x2.toNat) c86_43 rfl (kPa_8 hA) gx2 rfl (fun hx2404 => ?_)
      refine p_aload 45 c86_44 rfl rfl ?_
      refine p_getX 48 (m a1 4) c86_45 rfl (kS_4 hs1) rfl ?_
      refine p_aload 49 c86_48 rfl rfl ?_
      refine p_getX 52 (m a1 8) c86_49 rfl (kS_8 hs1) rfl ?_
      refine p_cO 55 [.ref A, yI (m (A + 8) x2.toNat), yI (m a1 4), yI (m a1 8)] [] c86_52 rfl rfl rfl (fun k' hk' d' => d72 (f := f) (by omega) hA (hR.rg _ _) (hR.rg _ _) (hR.rg _ _) hR) (fun r2409 hF2407 hg2408 n2406 k2405 hk2405 => ?_)
      have hX2410 := hX2403.trans (bP_s hF2407)
      refine p_istore 56 c86_55 rfl rfl ?_
      refine p_iload 57 c86_56 rfl rfl ?_
      refine p_iconst 58 c86_57 rfl ?_
      refine p_icmp 106 61 c86_58 rfl rfl (yc_eq hg2408 (rgD rfl)) (fun hb2411 k2412 hk2412 => ?_) (fun hb2411 k2413 hk2413 => ?_)
      · have hX2414 := hX2410.trans (if_pos hb2411)
        exact tJ86_106 (f := f) (by omega) hc hA hs1 gx2 hR (fun y0 y1 m' n' e' h0 hR' k' hk' => Hn y0 y1 m' n' (hX2414.trans e') h0 hR' k' (by omega)) (fun y0 y1 m' n' e' h0 hR' k' hk' => He y0 y1 m' n' (hX2414.trans e') h0 hR' k' (by omega)) (fun m' e' => Hr m' (hX2414.trans e'))
      · have hX2415 := hX2410.trans (if_neg hb2411)
        refine p_aload 62 c86_61 rfl rfl ?_
        refine p_aload 63 c86_62 rfl rfl ?_
        refine p_getR 66 c86_63 rfl kf8_1 ?_
        refine p_aload 67 c86_66 rfl rfl ?_
        refine p_getX 70 (m a1 6) c86_67 rfl (kS_6 hs1) rfl ?_
        refine p_aaX 71 c86_70 rfl kr58 (hR.rg _ _) (fun hx2416 => ?_)
        have hX2417 := hX2415.trans (if_pos hx2416)
        refine p_iload 72 c86_71 rfl rfl ?_
        refine p_cV 75 [.ref 8, .ref (59 + (m a1 6).toNat), yI r2409] [] c86_72 rfl rfl rfl (fun k' hk' d' => d79_10 (f := f) (by omega) (kR58 hx2416) (by omega) hg2408 hR) (fun m2433 hF2429 hR2434 n2419 k2418 hk2418 => ?_)
        have hX2432 := hX2417.trans (bU_s hF2429)
        refine p_aload 76 c86_75 rfl rfl ?_
        refine p_aload 77 c86_76 rfl rfl ?_
        refine p_getR 80 c86_77 rfl kf8_2 ?_
        refine p_iload 81 c86_80 rfl rfl ?_
        refine p_cV 84 [.ref 8, .ref 71, yI r2409] [] c86_81 rfl rfl rfl (fun k' hk' d' => d79_10 (f := f) (by omega) ka71 (by omega) hg2408 hR2434) (fun m2441 hF2437 hR2442 n2436 k2435 hk2435 => ?_)
        have hX2440 := hX2432.trans (bU_s hF2437)
        refine p_aload 85 c86_84 rfl rfl ?_
        refine p_aload 86 c86_85 rfl rfl ?_
        refine p_getR 89 c86_86 rfl kf8_0 ?_
        refine p_aload 90 c86_89 rfl rfl ?_
        refine p_getV 93 (.ref A) c86_90 rfl kf8_4 (pX_of hA hR2442.2.2.2.2.1 hc) ?_
        refine p_getR 96 c86_93 rfl (kP_5 hA) ?_
        refine p_iload 97 c86_96 rfl rfl ?_
        refine p_aaX 98 c86_97 rfl (kPr_6 hA) hg2408 (fun hx2443 => ?_)
        have hX2444 := hX2440.trans (if_pos hx2443)
        refine p_cX 101 [.ref (A + 10 + (r2409).toNat)] [.ref 9, .ref 8] c86_98 rfl rfl rfl (fun k' hk' d' => d57 (kMr hA hx2443) hR2442) (fun hg2447 n2446 k2445 hk2445 => ?_)
        refine p_aaX 102 c86_101 rfl kr9 hg2447 (fun hx2448 => ?_)
        have hX2449 := hX2444.trans (if_pos hx2448)
        refine p_iload 103 c86_102 rfl rfl ?_
        refine p_cV 106 [.ref 8, .ref (10 + (F57 (A + 10 + (r2409).toNat) m2441).toNat), yI x2] [] c86_103 rfl rfl rfl (fun k' hk' d' => d79_12 (f := f) (by omega) (kR9 hx2448) (by omega) gx2 hR2442) (fun m2456 hF2452 hR2457 n2451 k2450 hk2450 => ?_)
        have hX2455 := hX2449.trans (bU_s hF2452)
        exact tJ86_106 (f := f) (by omega) hc hA hs1 gx2 hR2457 (fun y0 y1 m' n' e' h0 hR' k' hk' => Hn y0 y1 m' n' (hX2455.trans e') h0 hR' k' (by omega)) (fun y0 y1 m' n' e' h0 hR' k' hk' => He y0 y1 m' n' (hX2455.trans e') h0 hR' k' (by omega)) (fun m' e' => Hr m' (hX2455.trans e'))
def F86 (f : Nat) (A : Nat) (a1 : Nat) (m : yM) : Option yM := (bL (yloop (fun (l : Int) ml => B86_2 f A a1 l ml) f 0 m) (fun l2458 m2464 => (some m2464)) (fun _ mr => some mr))
set_option maxRecDepth 100000 in
theorem d86 {L : Nat} {xs : Nat → Int32} {k d n : Nat} {c : yS3} {f : Nat} {A : Nat} {a1 : Nat} {m : yM} (hk : k ≤ f) (hc : c.2.1 = pX A) (hA : (A = 256 ∨ A = 316)) (hs1 : (276 ≤ a1 ∧ a1 < 316) ∨ (336 ≤ a1 ∧ a1 < 376)) (hR : RM c m) : PC (gZ L xs) k d 86 [.ref 8, .ref a1] m n (qV c (F86 f A a1 m)) := by
  have hX : F86 f A a1 m = F86 f A a1 m := rfl
  have Hr : ∀ m', F86 f A a1 m = some m' → RM c m' → ∀ n' : Nat, (qV c (F86 f A a1 m)) (.inl none) m' n' := fun m' e h n' => ⟨rfl, h, e⟩
  refine PC.mk [some (.ref 8), some (.ref a1), none, none] kn86 rfl ?_
  refine p_iconst 1 c86_0 rfl ?_
  refine p_istore 2 c86_1 rfl rfl ?_
  refine PW.loop (K := k) (pce := 112) (fun (l : Int) ml => B86_2 f A a1 l ml) (fun (l : Int) j => [some (.ref 8), some (.ref a1), some (yI l), j 3]) (fun (l : Int) => rg l) (RM c) (fun (r' : Unit) m' => RM c m' → ∀ n' : Nat, (qV c (F86 f A a1 m)) (.inl none) m' n') (fun k' hk' l j m' n' hl hI Hn' He' Hr' => tB86_2 (f := f) (by omega) hc hA hs1 hl hI (fun y0 y1 m2 n2 e h0 hR2 => Hn' y0 (fun q => ([none, none, none, y1] : List (Option Value)).getD q none) m2 n2 e h0 hR2) (fun y0 y1 m2 n2 e h0 hR2 => He' y0 (fun q => ([none, none, none, y1] : List (Option Value)).getD q none) m2 n2 e h0 hR2) (fun m2 e => Hr' () m2 e)) f k (by omega) (Nat.le_refl _) 0 (fun q => ([some (.ref 8), some (.ref a1), some (yI 0), none] : xL).getD q none) _ _ (rgD rfl) hR (fun l2458 j2461 m2464 n2463 e2460 hl2459 hR2465 k2462 hk2462 => ?_) (fun r' m' e' => ?_)
  · have hX2466 := hX.trans (bL_l e2460)
    exact p_return c86_112 (Hr _ hX2466 hR2465 _)
  · exact Hr m' (hX.trans (bL_r e'))
def F87 (a0 : Nat) (x1 : Int) (m : yM) : Int := (if x1 < m a0 3 then (wr ((wr ((m a0 2) + 2)) + x1)) else ((-1)))
set_option maxRecDepth 100000 in
theorem d87 {L : Nat} {xs : Nat → Int32} {k d n : Nat} {c : yS3} {a0 : Nat} {x1 : Int} {m : yM} (hm0 : (266 ≤ a0 ∧ a0 < 276) ∨ (326 ≤ a0 ∧ a0 < 336)) (gx1 : rg x1) (hR : RM c m) : PC (gZ L xs) k d 87 [.ref a0, yI x1] m n (qX m (F87 a0 x1 m)) := by
  have hX : F87 a0 x1 m = F87 a0 x1 m := rfl
  have Hr : ∀ r, F87 a0 x1 m = r → rg r → ∀ n' : Nat, (qX m (F87 a0 x1 m)) (.inl (some (yI r))) m n' := fun r e h n' => by subst e; exact ⟨rfl, h, rfl⟩
  refine PC.mk [some (.ref a0), some (yI x1)] kn87 rfl ?_
  refine p_iload 1 c87_0 rfl rfl ?_
  refine p_aload 2 c87_1 rfl rfl ?_
  refine p_getX 5 (m a0 3) c87_2 rfl (kM_3 hm0) rfl ?_
  refine p_icmp 19 8 c87_5 rfl rfl ((yc_ge gx1 (hR.rg _ _)).trans Int.not_lt.symm) (fun hb2526 k2527 hk2527 => ?_) (fun hb2526 k2528 hk2528 => ?_)
  · have hX2529 := hX.trans (if_neg hb2526)
    refine p_iconst 20 c87_19 rfl ?_
    exact p_ireturn c87_20 (Hr _ hX2529 (rgD rfl) _)
  · have hX2530 := hX.trans (if_pos (Classical.not_not.mp hb2526))
    refine p_aload 9 c87_8 rfl rfl ?_
    refine p_getX 12 (m a0 2) c87_9 rfl (kM_2 hm0) rfl ?_
    refine p_iconst 13 c87_12 rfl ?_
    refine p_iadd 14 c87_13 rfl ?_
    refine p_iload 15 c87_14 rfl rfl ?_
    refine p_iadd 16 c87_15 rfl ?_
    refine p_goto 20 c87_16 rfl ?_
    exact p_ireturn c87_20 (Hr _ hX2530 (rg_wr _) _)
def J88_61 (f : Nat) (A : Nat) (a1 : Nat) (a2 : Nat) (m : yM) : Option yM := (if m a1 2 = (-1) then (some m) else (if 0 ≤ (m a2 2) ∧ (m a2 2) < ((48 : Nat) : Int) then (if 0 ≤ (m a1 2) ∧ (m a1 2) < ((48 : Nat) : Int) then (bU (F80_12_12 f A (10 + (m a2 2).toNat) (10 + (m a1 2).toNat) m) (fun m2519 => (some m2519))) else none) else none))
set_option maxRecDepth 100000 in
theorem tJ88_61 {L : Nat} {xs : Nat → Int32} {Q : xO → yM → Nat → Prop} {k d n : Nat} {c : yS3} {f : Nat} {A : Nat} {a1 : Nat} {a2 : Nat} {m : yM} (hk : k ≤ f) (hc : c.2.1 = pX A) (hA : (A = 256 ∨ A = 316)) (hs1 : (276 ≤ a1 ∧ a1 < 316) ∨ (336 ≤ a1 ∧ a1 < 376)) (hm2 : (266 ≤ a2 ∧ a2 < 276) ∨ (326 ≤ a2 ∧ a2 < 336)) (hR : RM c m) (Hr : ∀ m', J88_61 f A a1 a2 m = some m' → RM c m' → ∀ n', Q (.inl none) m' n') : PW (gZ L xs) k 88 d 61 [some (.ref 8), some (.ref a1), some (.ref a2)] [] m n Q := by
  have hX : J88_61 f A a1 a2 m = J88_61 f A a1 a2 m := rfl
  refine p_aload 62 c88_61 rfl rfl ?_
  refine p_getX 65 (m a1 2) c88_62 rfl (kS_2 hs1) rfl ?_
  refine p_iconst 66 c88_65 rfl ?_
  refine p_icmp 91 69 c88_66 rfl rfl (yc_eq (hR.rg _ _) (rgD rfl)) (fun hb2504 k2505 hk2505 => ?_) (fun hb2504 k2506 hk2506 => ?_)
  · have hX2507 := hX.trans (if_pos hb2504)
    exact p_return c88_91 (Hr _ hX2507 hR _)
  · have hX2508 := hX.trans (if_neg hb2504)
    refine p_aload 70 c88_69 rfl rfl ?_
    refine p_aload 71 c88_70 rfl rfl ?_
    refine p_getR 74 c88_71 rfl kf8_0 ?_
    refine p_aload 75 c88_74 rfl rfl ?_
    refine p_getX 78 (m a2 2) c88_75 rfl (kM_2 hm2) rfl ?_
    refine p_aaX 79 c88_78 rfl kr9 (hR.rg _ _) (fun hx2509 => ?_)
    have hX2510 := hX2508.trans (if_pos hx2509)
    refine p_aload 80 c88_79 rfl rfl ?_
    refine p_getR 83 c88_80 rfl kf8_0 ?_
    refine p_aload 84 c88_83 rfl rfl ?_
    refine p_getX 87 (m a1 2) c88_84 rfl (kS_2 hs1) rfl ?_
    refine p_aaX 88 c88_87 rfl kr9 (hR.rg _ _) (fun hx2511 => ?_)
    have hX2512 := hX2510.trans (if_pos hx2511)
    refine p_cV 91 [.ref 8, .ref (10 + (m a2 2).toNat), .ref (10 + (m a1 2).toNat)] [] c88_88 rfl rfl rfl (fun k' hk' d' => d80_12_12 (f := f) (by omega) hc hA (kR9 hx2509) (by omega) (kR9 hx2511) (by omega) hR) (fun m2519 hF2515 hR2520 n2514 k2513 hk2513 => ?_)
    have hX2518 := hX2512.trans (bU_s hF2515)
    exact p_return c88_91 (Hr _ hX2518 hR2520 _)
def J88_30 (f : Nat) (A : Nat) (a1 : Nat) (a2 : Nat) (m : yM) : Option yM := (if 1 < m a1 8 then (if 0 ≤ (m a1 10) ∧ (m a1 10) < ((48 : Nat) : Int) then (if 0 ≤ (F87 a2 1 m) ∧ (F87 a2 1 m) < ((48 : Nat) : Int) then (bU (F80_12_12 f A (10 + (m a1 10).toNat) (10 + (F87 a2 1 m).toNat) m) (fun m2540 => (J88_61 f A a1 a2 m2540))) else none) else none) else (J88_61 f A a1 a2 m))
set_option maxRecDepth 100000 in
theorem tJ88_30 {L : Nat} {xs : Nat → Int32} {Q : xO → yM → Nat → Prop} {k d n : Nat} {c : yS3} {f : Nat} {A : Nat} {a1 : Nat} {a2 : Nat} {m : yM} (hk : k ≤ f) (hc : c.2.1 = pX A) (hA : (A = 256 ∨ A = 316)) (hs1 : (276 ≤ a1 ∧ a1 < 316) ∨ (336 ≤ a1 ∧ a1 < 376)) (hm2 : (266 ≤ a2 ∧ a2 < 276) ∨ (326 ≤ a2 ∧ a2 < 336)) (hR : RM c m) (Hr : ∀ m', J88_30 f A a1 a2 m = some m' → RM c m' → ∀ n', Q (.inl none) m' n') : PW (gZ L xs) k 88 d 30 [some (.ref 8), some (.ref a1), some (.ref a2)] [] m n Q := by
  have hX : J88_30 f A a1 a2 m = J88_30 f A a1 a2 m := rfl
  refine p_aload 31 c88_30 rfl rfl ?_
  refine p_getX 34 (m a1 8) c88_31 rfl (kS_8 hs1) rfl ?_
  refine p_iconst 35 c88_34 rfl ?_
  refine p_icmp 61 38 c88_35 rfl rfl ((yc_le (hR.rg _ _) (rgD rfl)).trans Int.not_lt.symm) (fun hb2500 k2501 hk2501 => ?_) (fun hb2500 k2502 hk2502 => ?_)
  · have hX2503 := hX.trans (if_neg hb2500)
    exact tJ88_61 (f := f) (by omega) hc hA hs1 hm2 hR (fun m' e' => Hr m' (hX2503.trans e'))
  · have hX2521 := hX.trans (if_pos (Classical.not_not.mp hb2500))
    refine p_aload 39 c88_38 rfl rfl ?_
    refine p_aload 40 c88_39 rfl rfl ?_
    refine p_getR 43 c88_40 rfl kf8_0 ?_
    refine p_aload 44 c88_43 rfl rfl ?_
    refine p_getX 47 (m a1 10) c88_44 rfl (kS_10 hs1) rfl ?_
    refine p_aaX 48 c88_47 rfl kr9 (hR.rg _ _) (fun hx2522 => ?_)
    have hX2523 := hX2521.trans (if_pos hx2522)
    refine p_aload 49 c88_48 rfl rfl ?_
    refine p_getR 52 c88_49 rfl kf8_0 ?_
    refine p_aload 53 c88_52 rfl rfl ?_
    refine p_iconst 54 c88_53 rfl ?_
    refine p_cX 57 [.ref a2, yI 1] [.ref 9, .ref (10 + (m a1 10).toNat), .ref 8] c88_54 rfl rfl rfl (fun k' hk' d' => d87 hm2 (rgD rfl) hR) (fun hg2531 n2525 k2524 hk2524 => ?_)
    refine p_aaX 58 c88_57 rfl kr9 hg2531 (fun hx2532 => ?_)
    have hX2533 := hX2523.trans (if_pos hx2532)
    refine p_cV 61 [.ref 8, .ref (10 + (m a1 10).toNat), .ref (10 + (F87 a2 1 m).toNat)] [] c88_58 rfl rfl rfl (fun k' hk' d' => d80_12_12 (f := f) (by omega) hc hA (kR9 hx2522) (by omega) (kR9 hx2532) (by omega) hR) (fun m2540 hF2536 hR2541 n2535 k2534 hk2534 => ?_)
    have hX2539 := hX2533.trans (bU_s hF2536)
    exact tJ88_61 (f := f) (by omega) hc hA hs1 hm2 hR2541 (fun m' e' => Hr m' (hX2539.trans e'))
def F88 (f : Nat) (A : Nat) (a1 : Nat) (a2 : Nat) (m : yM) : Option yM := (if 0 < m a1 8 then (if 0 ≤ (m a1 9) ∧ (m a1 9) < ((48 : Nat) : Int) then (if 0 ≤ (F87 a2 0 m) ∧ (F87 a2 0 m) < ((48 : Nat) : Int) then (bU (F80_12_12 f A (10 + (m a1 9).toNat) (10 + (F87 a2 0 m).toNat) m) (fun m2556 => (J88_30 f A a1 a2 m2556))) else none) else none) else (J88_30 f A a1 a2 m))
set_option maxRecDepth 100000 in
theorem d88 {L : Nat} {xs : Nat → Int32} {k d n : Nat} {c : yS3} {f : Nat} {A : Nat} {a1 : Nat} {a2 : Nat} {m : yM} (hk : k ≤ f) (hc : c.2.1 = pX A) (hA : (A = 256 ∨ A = 316)) (hs1 : (276 ≤ a1 ∧ a1 < 316) ∨ (336 ≤ a1 ∧ a1 < 376)) (hm2 : (266 ≤ a2 ∧ a2 < 276) ∨ (326 ≤ a2 ∧ a2 < 336)) (hR : RM c m) : PC (gZ L xs) k d 88 [.ref 8, .ref a1, .ref a2] m n (qV c (F88 f A a1 a2 m)) := by
  have hX : F88 f A a1 a2 m = F88 f A a1 a2 m := rfl
  have Hr : ∀ m', F88 f A a1 a2 m = some m' → RM c m' → ∀ n' : Nat, (qV c (F88 f A a1 a2 m)) (.inl none) m' n' := fun m' e h n' => ⟨rfl, h, e⟩
  refine PC.mk [some (.ref 8), some (.ref a1), some (.ref a2)] kn88 rfl ?_
  refine p_aload 1 c88_0 rfl rfl ?_
  refine p_getX 4 (m a1 8) c88_1 rfl (kS_8 hs1) rfl ?_
  refine p_if 30 7 c88_4 rfl rfl ((yz_le (hR.rg _ _)).trans Int.not_lt.symm) (fun hb2496 k2497 hk2497 => ?_) (fun hb2496 k2498 hk2498 => ?_)
  · have hX2499 := hX.trans (if_neg hb2496)
    exact tJ88_30 (f := f) (by omega) hc hA hs1 hm2 hR (fun m' e' => Hr m' (hX2499.trans e'))
  · have hX2542 := hX.trans (if_pos (Classical.not_not.mp hb2496))
    refine p_aload 8 c88_7 rfl rfl ?_
    refine p_aload 9 c88_8 rfl rfl ?_
    refine p_getR 12 c88_9 rfl kf8_0 ?_
    refine p_aload 13 c88_12 rfl rfl ?_
    refine p_getX 16 (m a1 9) c88_13 rfl (kS_9 hs1) rfl ?_
    refine p_aaX 17 c88_16 rfl kr9 (hR.rg _ _) (fun hx2543 => ?_)
    have hX2544 := hX2542.trans (if_pos hx2543)
    refine p_aload 18 c88_17 rfl rfl ?_
    refine p_getR 21 c88_18 rfl kf8_0 ?_
    refine p_aload 22 c88_21 rfl rfl ?_
    refine p_iconst 23 c88_22 rfl ?_
    refine p_cX 26 [.ref a2, yI 0] [.ref 9, .ref (10 + (m a1 9).toNat), .ref 8] c88_23 rfl rfl rfl (fun k' hk' d' => d87 hm2 (rgD rfl) hR) (fun hg2547 n2546 k2545 hk2545 => ?_)
    refine p_aaX 27 c88_26 rfl kr9 hg2547 (fun hx2548 => ?_)
    have hX2549 := hX2544.trans (if_pos hx2548)
    refine p_cV 30 [.ref 8, .ref (10 + (m a1 9).toNat), .ref (10 + (F87 a2 0 m).toNat)] [] c88_27 rfl rfl rfl (fun k' hk' d' => d80_12_12 (f := f) (by omega) hc hA (kR9 hx2543) (by omega) (kR9 hx2548) (by omega) hR) (fun m2556 hF2552 hR2557 n2551 k2550 hk2550 => ?_)
    have hX2555 := hX2549.trans (bU_s hF2552)
    exact tJ88_30 (f := f) (by omega) hc hA hs1 hm2 hR2557 (fun m' e' => Hr m' (hX2555.trans e'))
def J89_45 (f : Nat) (A : Nat) (a1 : Nat) (x2 : Int) (m : yM) : Option ((Int × yM) ⊕ ((Int × yM) ⊕ (Unit × yM))) := (some (.inl ((wr (x2 + 1)), m)))
set_option maxRecDepth 100000 in
theorem tJ89_45 {L : Nat} {xs : Nat → Int32} {Q : xO → yM → Nat → Prop} {k d n : Nat} {c : yS3} {f : Nat} {A : Nat} {a1 : Nat} {x2 : Int} {m : yM} (hk : k ≤ f) (hc : c.2.1 = pX A) (hA : (A = 256 ∨ A = 316)) (hs1 : (276 ≤ a1 ∧ a1 < 316) ∨ (336 ≤ a1 ∧ a1 < 376)) (gx2 : rg x2) (hR : RM c m) (Hn : ∀ (y0 : Int) (m' : yM) (n' : Nat), J89_45 f A a1 x2 m = some (.inl (y0, m')) → rg y0 → RM c m' → ∀ k', k' < k → PW (gZ L xs) k' 89 d 2 [some (.ref 8), some (.ref a1), some (yI y0)] [] m' n' Q) (He : ∀ (y0 : Int) (m' : yM) (n' : Nat), J89_45 f A a1 x2 m = some (.inr (.inl (y0, m'))) → rg y0 → RM c m' → ∀ k', k' ≤ k → PW (gZ L xs) k' 89 d 51 [some (.ref 8), some (.ref a1), some (yI y0)] [] m' n' Q) (Hr : ∀ m', J89_45 f A a1 x2 m = some (.inr (.inr ((), m'))) → RM c m' → ∀ n', Q (.inl none) m' n') : PW (gZ L xs) k 89 d 45 [some (.ref 8), some (.ref a1), some (yI x2)] [] m n Q := by
  have hX : J89_45 f A a1 x2 m = J89_45 f A a1 x2 m := rfl
  refine p_iinc 48 c89_45 rfl rfl rfl ?_
  refine p_gotoD 2 c89_48 rfl (fun k2490 hk2490 => ?_)
  exact Hn _ _ _ hX (rg_wr _) hR _ (by omega)
def B89_2 (f : Nat) (A : Nat) (a1 : Nat) (x2 : Int) (m : yM) : Option ((Int × yM) ⊕ ((Int × yM) ⊕ (Unit × yM))) := (if x2 < m A 10 then (if 0 ≤ (m a1 6) ∧ (m a1 6) < ((12 : Nat) : Int) then (if F78 (m (59 + (m a1 6).toNat) x2.toNat) m = 0 then (J89_45 f A a1 x2 m) else (if 0 ≤ x2 ∧ x2 < ((10 : Nat) : Int) then (bU (F88 f A a1 (A + 10 + (x2).toNat) m) (fun m2562 => (J89_45 f A a1 x2 m2562))) else none)) else none) else (some (.inr (.inl (x2, m)))))
set_option maxRecDepth 100000 in
theorem tB89_2 {L : Nat} {xs : Nat → Int32} {Q : xO → yM → Nat → Prop} {k d n : Nat} {c : yS3} {f : Nat} {A : Nat} {a1 : Nat} {x2 : Int} {m : yM} (hk : k ≤ f) (hc : c.2.1 = pX A) (hA : (A = 256 ∨ A = 316)) (hs1 : (276 ≤ a1 ∧ a1 < 316) ∨ (336 ≤ a1 ∧ a1 < 376)) (gx2 : rg x2) (hR : RM c m) (Hn : ∀ (y0 : Int) (m' : yM) (n' : Nat), B89_2 f A a1 x2 m = some (.inl (y0, m')) → rg y0 → RM c m' → ∀ k', k' < k → PW (gZ L xs) k' 89 d 2 [some (.ref 8), some (.ref a1), some (yI y0)] [] m' n' Q) (He : ∀ (y0 : Int) (m' : yM) (n' : Nat), B89_2 f A a1 x2 m = some (.inr (.inl (y0, m'))) → rg y0 → RM c m' → ∀ k', k' ≤ k → PW (gZ L xs) k' 89 d 51 [some (.ref 8), some (.ref a1), some (yI y0)] [] m' n' Q) (Hr : ∀ m', B89_2 f A a1 x2 m = some (.inr (.inr ((), m'))) → RM c m' → ∀ n', Q (.inl none) m' n') : PW (gZ L xs) k 89 d 2 [some (.ref 8), some (.ref a1), some (yI x2)] [] m n Q := by
  have hX : B89_2 f A a1 x2 m = B89_2 f A a1 x2 m := rfl
  refine p_iload 3 c89_2 rfl rfl ?_
  refine p_aload 4 c89_3 rfl rfl ?_
  refine p_getV 7 (.ref A) c89_4 rfl kf8_4 (pX_of hA hR.2.2.2.2.1 hc) ?_
  refine p_getX 10 (m A 10) c89_7 rfl (kP_10 hA) rfl ?_
  refine p_icmp 51 13 c89_10 rfl rfl ((yc_ge gx2 (hR.rg _ _)).trans Int.not_lt.symm) (fun hb2475 k2476 hk2476 => ?_) (fun hb2475 k2477 hk2477 => ?_)
  · have hX2478 := hX.trans (if_neg hb2475)
    exact He _ _ _ hX2478 gx2 hR _ (by omega)
  · have hX2479 := hX.trans (if_pos (Classical.not_not.mp hb2475))
    refine p_aload 14 c89_13 rfl rfl ?_
    refine p_aload 15 c89_14 rfl rfl ?_
    refine p_getR 18 c89_15 rfl kf8_1 ?_
    refine p_aload 19 c89_18 rfl rfl ?_
    refine p_getX 22 (m a1 6) c89_19 rfl (kS_6 hs1) rfl ?_
    refine p_aaX 23 c89_22 rfl kr58 (hR.rg _ _) (fun hx2480 => ?_)
    have hX2481 := hX2479.trans (if_pos hx2480)
    refine p_iload 24 c89_23 rfl rfl ?_
    refine p_iaX 25 (m (59 + (m a1 6).toNat) x2.toNat) c89_24 rfl (kR58 hx2480) gx2 rfl (fun hx2482 => ?_)
    refine p_cX 28 [.ref 8, yI (m (59 + (m a1 6).toNat) x2.toNat)] [] c89_25 rfl rfl rfl (fun k' hk' d' => d78 (hR.rg _ _) hR) (fun hg2485 n2484 k2483 hk2483 => ?_)
    refine p_if 45 31 c89_28 rfl rfl (yz_eq hg2485) (fun hb2486 k2487 hk2487 => ?_) (fun hb2486 k2488 hk2488 => ?_)
    · have hX2489 := hX2481.trans (if_pos hb2486)
      exact tJ89_45 (f := f) (by omega) hc hA hs1 gx2 hR (fun y0 m' n' e' h0 hR' k' hk' => Hn y0 m' n' (hX2489.trans e') h0 hR' k' (by omega)) (fun y0 m' n' e' h0 hR' k' hk' => He y0 m' n' (hX2489.trans e') h0 hR' k' (by omega)) (fun m' e' => Hr m' (hX2489.trans e'))
    · have hX2491 := hX2481.trans (if_neg hb2486)
      refine p_aload 32 c89_31 rfl rfl ?_
      refine p_aload 33 c89_32 rfl rfl ?_
      refine p_aload 34 c89_33 rfl rfl ?_
      refine p_getV 37 (.ref A) c89_34 rfl kf8_4 (pX_of hA hR.2.2.2.2.1 hc) ?_
      refine p_getR 40 c89_37 rfl (kP_5 hA) ?_
      refine p_iload 41 c89_40 rfl rfl ?_
      refine p_aaX 42 c89_41 rfl (kPr_6 hA) gx2 (fun hx2492 => ?_)
      have hX2493 := hX2491.trans (if_pos hx2492)
      refine p_cV 45 [.ref 8, .ref a1, .ref (A + 10 + (x2).toNat)] [] c89_42 rfl rfl rfl (fun k' hk' d' => d88 (f := f) (by omega) hc hA hs1 (kMr hA hx2492) hR) (fun m2562 hF2558 hR2563 n2495 k2494 hk2494 => ?_)
      have hX2561 := hX2493.trans (bU_s hF2558)
      exact tJ89_45 (f := f) (by omega) hc hA hs1 gx2 hR2563 (fun y0 m' n' e' h0 hR' k' hk' => Hn y0 m' n' (hX2561.trans e') h0 hR' k' (by omega)) (fun y0 m' n' e' h0 hR' k' hk' => He y0 m' n' (hX2561.trans e') h0 hR' k' (by omega)) (fun m' e' => Hr m' (hX2561.trans e'))
def F89 (f : Nat) (A : Nat) (a1 : Nat) (m : yM) : Option yM := (bL (yloop (fun (l : Int) ml => B89_2 f A a1 l ml) f 0 m) (fun l2564 m2570 => (some m2570)) (fun _ mr => some mr))
set_option maxRecDepth 100000 in
theorem d89 {L : Nat} {xs : Nat → Int32} {k d n : Nat} {c : yS3} {f : Nat} {A : Nat} {a1 : Nat} {m : yM} (hk : k ≤ f) (hc : c.2.1 = pX A) (hA : (A = 256 ∨ A = 316)) (hs1 : (276 ≤ a1 ∧ a1 < 316) ∨ (336 ≤ a1 ∧ a1 < 376)) (hR : RM c m) : PC (gZ L xs) k d 89 [.ref 8, .ref a1] m n (qV c (F89 f A a1 m)) := by
  have hX : F89 f A a1 m = F89 f A a1 m := rfl
  have Hr : ∀ m', F89 f A a1 m = some m' → RM c m' → ∀ n' : Nat, (qV c (F89 f A a1 m)) (.inl none) m' n' := fun m' e h n' => ⟨rfl, h, e⟩
  refine PC.mk [some (.ref 8), some (.ref a1), none] kn89 rfl ?_
  refine p_iconst 1 c89_0 rfl ?_
  refine p_istore 2 c89_1 rfl rfl ?_
  refine PW.loop (K := k) (pce := 51) (fun (l : Int) ml => B89_2 f A a1 l ml) (fun (l : Int) j => [some (.ref 8), some (.ref a1), some (yI l)]) (fun (l : Int) => rg l) (RM c) (fun (r' : Unit) m' => RM c m' → ∀ n' : Nat, (qV c (F89 f A a1 m)) (.inl none) m' n') (fun k' hk' l j m' n' hl hI Hn' He' Hr' => tB89_2 (f := f) (by omega) hc hA hs1 hl hI (fun y0 m2 n2 e h0 hR2 => Hn' y0 (fun q => ([none, none, none] : List (Option Value)).getD q none) m2 n2 e h0 hR2) (fun y0 m2 n2 e h0 hR2 => He' y0 (fun q => ([none, none, none] : List (Option Value)).getD q none) m2 n2 e h0 hR2) (fun m2 e => Hr' () m2 e)) f k (by omega) (Nat.le_refl _) 0 (fun q => ([some (.ref 8), some (.ref a1), some (yI 0)] : xL).getD q none) _ _ (rgD rfl) hR (fun l2564 j2567 m2570 n2569 e2566 hl2565 hR2571 k2568 hk2568 => ?_) (fun r' m' e' => ?_)
  · have hX2572 := hX.trans (bL_l e2566)
    exact p_return c89_51 (Hr _ hX2572 hR2571 _)
  · exact Hr m' (hX.trans (bL_r e'))
def B81_5 (f : Nat) (A : Nat) (x2 : Int) (x3 : Int) (x4 : Int) (m : yM) : Option ((Int × Int) ⊕ ((Int × Int) ⊕ Int)) := (if x4 < 6 then (if x3 = (-1) then (some (.inr (.inl (x3, x4)))) else (if x3 = x2 then (some (.inr (.inr 1))) else (some (.inl (m (A + 2) x3.toNat, wr (x4 + 1)))))) else (some (.inr (.inl (x3, x4)))))
set_option maxRecDepth 100000 in
theorem tB81_5 {L : Nat} {xs : Nat → Int32} {Q : xO → yM → Nat → Prop} {k d n : Nat} {c : yS3} {f : Nat} {A : Nat} {x2 : Int} {x3 : Int} {x4 : Int} {m : yM} {j1 : Option Value} (hk : k ≤ f) (hA : (A = 256 ∨ A = 316)) (gx2 : rg x2) (gx3 : rg x3) (gx4 : rg x4) (hR : RM c m) (Hn : ∀ (y0 y1 : Int) (z0 : Option Value) (n' : Nat), B81_5 f A x2 x3 x4 m = some (.inl (y0, y1)) → rg y0 → rg y1 → ∀ k', k' < k → PW (gZ L xs) k' 81 d 5 [some (.ref A), z0, some (yI x2), some (yI y0), some (yI y1)] [] m n' Q) (He : ∀ (y0 y1 : Int) (z0 : Option Value) (n' : Nat), B81_5 f A x2 x3 x4 m = some (.inr (.inl (y0, y1))) → rg y0 → rg y1 → ∀ k', k' ≤ k → PW (gZ L xs) k' 81 d 37 [some (.ref A), z0, some (yI x2), some (yI y0), some (yI y1)] [] m n' Q) (Hr : ∀ r, B81_5 f A x2 x3 x4 m = some (.inr (.inr r)) → rg r → ∀ n', Q (.inl (some (yI r))) m n') : PW (gZ L xs) k 81 d 5 [some (.ref A), j1, some (yI x2), some (yI x3), some (yI x4)] [] m n Q := by
  have hX : B81_5 f A x2 x3 x4 m = B81_5 f A x2 x3 x4 m := rfl
  refine p_iload 7 c81_5 rfl rfl ?_
  refine p_iconst 9 c81_7 rfl ?_
  refine p_icmp 37 12 c81_9 rfl rfl ((yc_ge gx4 (rgD rfl)).trans Int.not_lt.symm) (fun hb2620 k2621 hk2621 => ?_) (fun hb2620 k2622 hk2622 => ?_)
  · have hX2623 := hX.trans (if_neg hb2620)
    exact He _ _ _ _ hX2623 gx3 gx4 _ (by omega)
  · have hX2624 := hX.trans (if_pos (Classical.not_not.mp hb2620))
    refine p_iload 13 c81_12 rfl rfl ?_
    refine p_iconst 14 c81_13 rfl ?_
    refine p_icmp 37 17 c81_14 rfl rfl (yc_eq gx3 (rgD rfl)) (fun hb2625 k2626 hk2626 => ?_) (fun hb2625 k2627 hk2627 => ?_)
    · have hX2628 := hX2624.trans (if_pos hb2625)
      exact He _ _ _ _ hX2628 gx3 gx4 _ (by omega)
    · have hX2629 := hX2624.trans (if_neg hb2625)
      refine p_iload 18 c81_17 rfl rfl ?_
      refine p_iload 19 c81_18 rfl rfl ?_
      refine p_icmp 24 22 c81_19 rfl rfl (yc_ne gx3 gx2) (fun hb2630 k2631 hk2631 => ?_) (fun hb2630 k2632 hk2632 => ?_)
      · have hX2633 := hX2629.trans (if_neg hb2630)
        refine p_aload 25 c81_24 rfl rfl ?_
        refine p_getR 28 c81_25 rfl (kP_1 hA) ?_
        refine p_iload 29 c81_28 rfl rfl ?_
        refine p_iaX 30 (m (A + 2) x3.toNat) c81_29 rfl (kPa_2 hA) gx3 rfl (fun hx2634 => ?_)
        refine p_istore 31 c81_30 rfl rfl ?_
        refine p_iinc 34 c81_31 rfl rfl rfl ?_
        refine p_gotoD 5 c81_34 rfl (fun k2635 hk2635 => ?_)
        exact Hn _ _ _ _ hX2633 (hR.rg _ _) (rg_wr _) _ (by omega)
      · have hX2636 := hX2629.trans (if_pos (Classical.not_not.mp hb2630))
        refine p_iconst 23 c81_22 rfl ?_
        exact p_ireturn c81_23 (Hr _ hX2636 (rgD rfl) _)
def F81 (f : Nat) (A : Nat) (x1 : Int) (x2 : Int) (m : yM) : Option Int := (bQ (ploop (fun (l : Int × Int) => B81_5 f A x2 l.1 l.2 m) f (x1, 0)) (fun l2637 => (some 0)) (fun r => some r))
set_option maxRecDepth 100000 in
theorem d81 {L : Nat} {xs : Nat → Int32} {k d n : Nat} {c : yS3} {f : Nat} {A : Nat} {x1 : Int} {x2 : Int} {m : yM} (hk : k ≤ f) (hA : (A = 256 ∨ A = 316)) (gx1 : rg x1) (gx2 : rg x2) (hR : RM c m) : PC (gZ L xs) k d 81 [.ref A, yI x1, yI x2] m n (qO m (F81 f A x1 x2 m)) := by
  have hX : F81 f A x1 x2 m = F81 f A x1 x2 m := rfl
  have Hr : ∀ r, F81 f A x1 x2 m = some r → rg r → ∀ n' : Nat, (qO m (F81 f A x1 x2 m)) (.inl (some (yI r))) m n' := fun r e h n' => ⟨r, rfl, h, rfl, e⟩
  refine PC.mk [some (.ref A), some (yI x1), some (yI x2), none, none] kn81 rfl ?_
  refine p_iload 1 c81_0 rfl rfl ?_
  refine p_istore 2 c81_1 rfl rfl ?_
  refine p_iconst 3 c81_2 rfl ?_
  refine p_istore 5 c81_3 rfl rfl ?_
  refine PW.ploop (K := k) (pce := 37) (fun (l : Int × Int) => B81_5 f A x2 l.1 l.2 m) (fun (l : Int × Int) j => [some (.ref A), j 1, some (yI x2), some (yI l.1), some (yI l.2)]) (fun (l : Int × Int) => rg l.1 ∧ rg l.2) (fun r' => rg r' → ∀ n' : Nat, (qO m (F81 f A x1 x2 m)) (.inl (some (yI r'))) m n') (fun k' hk' l j n' hl Hn' He' Hr' => tB81_5 (f := f) (by omega) hA gx2 hl.1 hl.2 hR (fun y0 y1 y2 n2 e h0 h1 => Hn' (y0, y1) (fun q => ([none, y2, none, none, none] : List (Option Value)).getD q none) n2 e ⟨h0, h1⟩) (fun y0 y1 y2 n2 e h0 h1 => He' (y0, y1) (fun q => ([none, y2, none, none, none] : List (Option Value)).getD q none) n2 e ⟨h0, h1⟩) Hr') f k (by omega) (Nat.le_refl _) (x1, 0) (fun q => ([some (.ref A), some (yI x1), some (yI x2), some (yI x1), some (yI 0)] : xL).getD q none) _ ⟨gx1, (rgD rfl)⟩ (fun l2637 j2640 n2642 e2639 hl2638 k2641 hk2641 => ?_) (fun r' e' => ?_)
  · have hX2643 := hX.trans (bQ_l e2639)
    refine p_iconst 38 c81_37 rfl ?_
    exact p_ireturn c81_38 (Hr _ hX2643 (rgD rfl) _)
  · exact Hr r' (hX.trans (bQ_r e'))
def J82_68 (f : Nat) (A : Nat) (a1 : Nat) (x2 : Int) (m : yM) : Option ((Int × yM) ⊕ ((Int × yM) ⊕ (Unit × yM))) := (some (.inl ((wr (x2 + 1)), m)))
set_option maxRecDepth 100000 in
theorem tJ82_68 {L : Nat} {xs : Nat → Int32} {Q : xO → yM → Nat → Prop} {k d n : Nat} {c : yS3} {f : Nat} {A : Nat} {a1 : Nat} {x2 : Int} {m : yM} (hk : k ≤ f) (hc : c.2.1 = pX A) (hA : (A = 256 ∨ A = 316)) (hs1 : (276 ≤ a1 ∧ a1 < 316) ∨ (336 ≤ a1 ∧ a1 < 376)) (gx2 : rg x2) (hR : RM c m) (Hn : ∀ (y0 : Int) (m' : yM) (n' : Nat), J82_68 f A a1 x2 m = some (.inl (y0, m')) → rg y0 → RM c m' → ∀ k', k' < k → PW (gZ L xs) k' 82 d 2 [some (.ref 8), some (.ref a1), some (yI y0)] [] m' n' Q) (He : ∀ (y0 : Int) (m' : yM) (n' : Nat), J82_68 f A a1 x2 m = some (.inr (.inl (y0, m'))) → rg y0 → RM c m' → ∀ k', k' ≤ k → PW (gZ L xs) k' 82 d 74 [some (.ref 8), some (.ref a1), some (yI y0)] [] m' n' Q) (Hr : ∀ m', J82_68 f A a1 x2 m = some (.inr (.inr ((), m'))) → RM c m' → ∀ n', Q (.inl none) m' n') : PW (gZ L xs) k 82 d 68 [some (.ref 8), some (.ref a1), some (yI x2)] [] m n Q := by
  have hX : J82_68 f A a1 x2 m = J82_68 f A a1 x2 m := rfl
  refine p_iinc 71 c82_68 rfl rfl rfl ?_
  refine p_gotoD 2 c82_71 rfl (fun k2615 hk2615 => ?_)
  exact Hn _ _ _ hX (rg_wr _) hR _ (by omega)
def B82_2 (f : Nat) (A : Nat) (a1 : Nat) (x2 : Int) (m : yM) : Option ((Int × yM) ⊕ ((Int × yM) ⊕ (Unit × yM))) := (if x2 < m A 14 then (if 0 ≤ (m a1 3) ∧ (m a1 3) < ((48 : Nat) : Int) then (if F78 (m (10 + (m a1 3).toNat) x2.toNat) m = 0 then (J82_68 f A a1 x2 m) else (bP (F81 f A (m (A + 8) x2.toNat) (m a1 7) m) (fun r2646 => (if r2646 = 0 then (J82_68 f A a1 x2 m) else (if 0 ≤ (m a1 2) ∧ (m a1 2) < ((48 : Nat) : Int) then (bU (F79_12 f (10 + (m a1 2).toNat) x2 m) (fun m2661 => (J82_68 f A a1 x2 m2661))) else none))))) else none) else (some (.inr (.inl (x2, m)))))
set_option maxRecDepth 100000 in
theorem tB82_2 {L : Nat} {xs : Nat → Int32} {Q : xO → yM → Nat → Prop} {k d n : Nat} {c : yS3} {f : Nat} {A : Nat} {a1 : Nat} {x2 : Int} {m : yM} (hk : k ≤ f) (hc : c.2.1 = pX A) (hA : (A = 256 ∨ A = 316)) (hs1 : (276 ≤ a1 ∧ a1 < 316) ∨ (336 ≤ a1 ∧ a1 < 376)) (gx2 : rg x2) (hR : RM c m) (Hn : ∀ (y0 : Int) (m' : yM) (n' : Nat), B82_2 f A a1 x2 m = some (.inl (y0, m')) → rg y0 → RM c m' → ∀ k', k' < k → PW (gZ L xs) k' 82 d 2 [some (.ref 8), some (.ref a1), some (yI y0)] [] m' n' Q) (He : ∀ (y0 : Int) (m' : yM) (n' : Nat), B82_2 f A a1 x2 m = some (.inr (.inl (y0, m'))) → rg y0 → RM c m' → ∀ k', k' ≤ k → PW (gZ L xs) k' 82 d 74 [some (.ref 8), some (.ref a1), some (yI y0)] [] m' n' Q) (Hr : ∀ m', B82_2 f A a1 x2 m = some (.inr (.inr ((), m'))) → RM c m' → ∀ n', Q (.inl none) m' n') : PW (gZ L xs) k 82 d 2 [some (.ref 8), some (.ref a1), some (yI x2)] [] m n Q := by
  have hX : B82_2 f A a1 x2 m = B82_2 f A a1 x2 m := rfl
  refine p_iload 3 c82_2 rfl rfl ?_
  refine p_aload 4 c82_3 rfl rfl ?_
  refine p_getV 7 (.ref A) c82_4 rfl kf8_4 (pX_of hA hR.2.2.2.2.1 hc) ?_
  refine p_getX 10 (m A 14) c82_7 rfl (kP_14 hA) rfl ?_
  refine p_icmp 74 13 c82_10 rfl rfl ((yc_ge gx2 (hR.rg _ _)).trans Int.not_lt.symm) (fun hb2600 k2601 hk2601 => ?_) (fun hb2600 k2602 hk2602 => ?_)
  · have hX2603 := hX.trans (if_neg hb2600)
    exact He _ _ _ hX2603 gx2 hR _ (by omega)
  · have hX2604 := hX.trans (if_pos (Classical.not_not.mp hb2600))
    refine p_aload 14 c82_13 rfl rfl ?_
    refine p_aload 15 c82_14 rfl rfl ?_
    refine p_getR 18 c82_15 rfl kf8_0 ?_
    refine p_aload 19 c82_18 rfl rfl ?_
    refine p_getX 22 (m a1 3) c82_19 rfl (kS_3 hs1) rfl ?_
    refine p_aaX 23 c82_22 rfl kr9 (hR.rg _ _) (fun hx2605 => ?_)
    have hX2606 := hX2604.trans (if_pos hx2605)
    refine p_iload 24 c82_23 rfl rfl ?_
    refine p_iaX 25 (m (10 + (m a1 3).toNat) x2.toNat) c82_24 rfl (kR9 hx2605) gx2 rfl (fun hx2607 => ?_)
    refine p_cX 28 [.ref 8, yI (m (10 + (m a1 3).toNat) x2.toNat)] [] c82_25 rfl rfl rfl (fun k' hk' d' => d78 (hR.rg _ _) hR) (fun hg2610 n2609 k2608 hk2608 => ?_)
    refine p_if 68 31 c82_28 rfl rfl (yz_eq hg2610) (fun hb2611 k2612 hk2612 => ?_) (fun hb2611 k2613 hk2613 => ?_)
    · have hX2614 := hX2606.trans (if_pos hb2611)
      exact tJ82_68 (f := f) (by omega) hc hA hs1 gx2 hR (fun y0 m' n' e' h0 hR' k' hk' => Hn y0 m' n' (hX2614.trans e') h0 hR' k' (by omega)) (fun y0 m' n' e' h0 hR' k' hk' => He y0 m' n' (hX2614.trans e') h0 hR' k' (by omega)) (fun m' e' => Hr m' (hX2614.trans e'))
    · have hX2616 := hX2606.trans (if_neg hb2611)
      refine p_aload 32 c82_31 rfl rfl ?_
      refine p_getV 35 (.ref A) c82_32 rfl kf8_4 (pX_of hA hR.2.2.2.2.1 hc) ?_
      refine p_aload 36 c82_35 rfl rfl ?_
      refine p_getV 39 (.ref A) c82_36 rfl kf8_4 (pX_of hA hR.2.2.2.2.1 hc) ?_
      refine p_getR 42 c82_39 rfl (kP_7 hA) ?_
      refine p_iload 43 c82_42 rfl rfl ?_
      refine p_iaX 44 (m (A + 8) x2.toNat) c82_43 rfl (kPa_8 hA) gx2 rfl (fun hx2617 => ?_)
      refine p_aload 45 c82_44 rfl rfl ?_
      refine p_getX 48 (m a1 7) c82_45 rfl (kS_7 hs1) rfl ?_
      refine p_cO 51 [.ref A, yI (m (A + 8) x2.toNat), yI (m a1 7)] [] c82_48 rfl rfl rfl (fun k' hk' d' => d81 (f := f) (by omega) hA (hR.rg _ _) (hR.rg _ _) hR) (fun r2646 hF2644 hg2645 n2619 k2618 hk2618 => ?_)
      have hX2647 := hX2616.trans (bP_s hF2644)
      refine p_if 68 54 c82_51 rfl rfl (yz_eq hg2645) (fun hb2648 k2649 hk2649 => ?_) (fun hb2648 k2650 hk2650 => ?_)
      · have hX2651 := hX2647.trans (if_pos hb2648)
        exact tJ82_68 (f := f) (by omega) hc hA hs1 gx2 hR (fun y0 m' n' e' h0 hR' k' hk' => Hn y0 m' n' (hX2651.trans e') h0 hR' k' (by omega)) (fun y0 m' n' e' h0 hR' k' hk' => He y0 m' n' (hX2651.trans e') h0 hR' k' (by omega)) (fun m' e' => Hr m' (hX2651.trans e'))
      · have hX2652 := hX2647.trans (if_neg hb2648)
        refine p_aload 55 c82_54 rfl rfl ?_
        refine p_aload 56 c82_55 rfl rfl ?_
        refine p_getR 59 c82_56 rfl kf8_0 ?_
        refine p_aload 60 c82_59 rfl rfl ?_
        refine p_getX 63 (m a1 2) c82_60 rfl (kS_2 hs1) rfl ?_
        refine p_aaX 64 c82_63 rfl kr9 (hR.rg _ _) (fun hx2653 => ?_)
        have hX2654 := hX2652.trans (if_pos hx2653)
        refine p_iload 65 c82_64 rfl rfl ?_
        refine p_cV 68 [.ref 8, .ref (10 + (m a1 2).toNat), yI x2] [] c82_65 rfl rfl rfl (fun k' hk' d' => d79_12 (f := f) (by omega) (kR9 hx2653) (by omega) gx2 hR) (fun m2661 hF2657 hR2662 n2656 k2655 hk2655 => ?_)
        have hX2660 := hX2654.trans (bU_s hF2657)
        exact tJ82_68 (f := f) (by omega) hc hA hs1 gx2 hR2662 (fun y0 m' n' e' h0 hR' k' hk' => Hn y0 m' n' (hX2660.trans e') h0 hR' k' (by omega)) (fun y0 m' n' e' h0 hR' k' hk' => He y0 m' n' (hX2660.trans e') h0 hR' k' (by omega)) (fun m' e' => Hr m' (hX2660.trans e'))
def F82 (f : Nat) (A : Nat) (a1 : Nat) (m : yM) : Option yM := (bL (yloop (fun (l : Int) ml => B82_2 f A a1 l ml) f 0 m) (fun l2663 m2669 => (some m2669)) (fun _ mr => some mr))
set_option maxRecDepth 100000 in
theorem d82 {L : Nat} {xs : Nat → Int32} {k d n : Nat} {c : yS3} {f : Nat} {A : Nat} {a1 : Nat} {m : yM} (hk : k ≤ f) (hc : c.2.1 = pX A) (hA : (A = 256 ∨ A = 316)) (hs1 : (276 ≤ a1 ∧ a1 < 316) ∨ (336 ≤ a1 ∧ a1 < 376)) (hR : RM c m) : PC (gZ L xs) k d 82 [.ref 8, .ref a1] m n (qV c (F82 f A a1 m)) := by
  have hX : F82 f A a1 m = F82 f A a1 m := rfl
  have Hr : ∀ m', F82 f A a1 m = some m' → RM c m' → ∀ n' : Nat, (qV c (F82 f A a1 m)) (.inl none) m' n' := fun m' e h n' => ⟨rfl, h, e⟩
  refine PC.mk [some (.ref 8), some (.ref a1), none] kn82 rfl ?_
  refine p_iconst 1 c82_0 rfl ?_
  refine p_istore 2 c82_1 rfl rfl ?_
  refine PW.loop (K := k) (pce := 74) (fun (l : Int) ml => B82_2 f A a1 l ml) (fun (l : Int) j => [some (.ref 8), some (.ref a1), some (yI l)]) (fun (l : Int) => rg l) (RM c) (fun (r' : Unit) m' => RM c m' → ∀ n' : Nat, (qV c (F82 f A a1 m)) (.inl none) m' n') (fun k' hk' l j m' n' hl hI Hn' He' Hr' => tB82_2 (f := f) (by omega) hc hA hs1 hl hI (fun y0 m2 n2 e h0 hR2 => Hn' y0 (fun q => ([none, none, none] : List (Option Value)).getD q none) m2 n2 e h0 hR2) (fun y0 m2 n2 e h0 hR2 => He' y0 (fun q => ([none, none, none] : List (Option Value)).getD q none) m2 n2 e h0 hR2) (fun m2 e => Hr' () m2 e)) f k (by omega) (Nat.le_refl _) 0 (fun q => ([some (.ref 8), some (.ref a1), some (yI 0)] : xL).getD q none) _ _ (rgD rfl) hR (fun l2663 j2666 m2669 n2668 e2665 hl2664 hR2670 k2667 hk2667 => ?_) (fun r' m' e' => ?_)
  · have hX2671 := hX.trans (bL_l e2665)
    exact p_return c82_74 (Hr _ hX2671 hR2670 _)
  · exact Hr m' (hX.trans (bL_r e'))
