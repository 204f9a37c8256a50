section
/-! FUNCTIONS OF THE METHODS: printed by wip/fn/dc.py -/
def J74_133 (f : Nat) (A : Nat) (x4 : Int) (x5 : Int) (m : yM) : Option (((Int × Int) × yM) ⊕ (((Int × Int) × yM) ⊕ (Int × yM))) := (some (.inl ((x4, wr (x5 + 1)), m)))
set_option maxRecDepth 100000 in
theorem tJ74_133 {L : Nat} {xs : Nat → Int32} {Q : xO → yM → Nat → Prop} {k d n : Nat} {c : yS3} {f : Nat} {A : Nat} {x4 : Int} {x5 : Int} {m : yM} {j1 j2 j3 : Option Value} (hk : k ≤ f) (hc : c.1 = pX A) (hA : (A = 256 ∨ A = 316)) (gx4 : rg x4) (gx5 : rg x5) (hR : RM c m) (Hn : ∀ (y0 y1 : Int) (z0 z1 z2 : Option Value) (m' : yM) (n' : Nat), J74_133 f A x4 x5 m = some (.inl ((y0, y1), m')) → rg y0 → rg y1 → RM c m' → ∀ k', k' < k → PW (gZ L xs) k' 74 d 40 [some (.ref 2), z0, z1, z2, some (yI y0), some (yI y1)] [] m' n' Q) (He : ∀ (y0 y1 : Int) (z0 z1 z2 : Option Value) (m' : yM) (n' : Nat), J74_133 f A x4 x5 m = some (.inr (.inl ((y0, y1), m'))) → rg y0 → rg y1 → RM c m' → ∀ k', k' ≤ k → PW (gZ L xs) k' 74 d 139 [some (.ref 2), z0, z1, z2, some (yI y0), some (yI y1)] [] m' n' Q) (Hr : ∀ r m', J74_133 f A x4 x5 m = some (.inr (.inr (r, m'))) → rg r → RM c m' → ∀ n', Q (.inl (some (yI r))) m' n') : PW (gZ L xs) k 74 d 133 [some (.ref 2), j1, j2, j3, some (yI x4), some (yI x5)] [] m n Q := by
  have hX : J74_133 f A x4 x5 m = J74_133 f A x4 x5 m := rfl
  refine p_iinc 136 c74_133 rfl rfl rfl ?_
  refine p_gotoD 40 c74_136 rfl (fun k854 hk854 => ?_)
  exact Hn _ _ _ _ _ _ _ hX gx4 (rg_wr _) hR _ (by omega)
def B74_40 (f : Nat) (A : Nat) (x4 : Int) (x5 : Int) (m : yM) : Option (((Int × Int) × yM) ⊕ (((Int × Int) × yM) ⊕ (Int × yM))) := (if x5 < 320 then (if x4 = 0 then (some (.inr (.inl ((x4, x5), m)))) else (if m 2 3 = 0 then (if F38 m = 2 then (bI (F49 f A m) (fun r850 m852 => (J74_133 f A r850 x5 m852))) else (if F38 m = 3 then (bI (F70 f A m) (fun r1864 m1866 => (J74_133 f A r1864 x5 m1866))) else (if F38 m = 125 then (bI (F71 f A m) (fun r1903 m1905 => (J74_133 f A r1903 x5 m1905))) else (bI (F43 f m) (fun r1912 m1914 => (J74_133 f A r1912 x5 m1914)))))) else (some (.inr (.inl ((x4, x5), m)))))) else (some (.inr (.inl ((x4, x5), m)))))
set_option maxRecDepth 100000 in
theorem tB74_40 {L : Nat} {xs : Nat → Int32} {Q : xO → yM → Nat → Prop} {k d n : Nat} {c : yS3} {f : Nat} {A : Nat} {x4 : Int} {x5 : Int} {m : yM} {j1 j2 j3 : Option Value} (hk : k ≤ f) (hc : c.1 = pX A) (hA : (A = 256 ∨ A = 316)) (gx4 : rg x4) (gx5 : rg x5) (hR : RM c m) (Hn : ∀ (y0 y1 : Int) (z0 z1 z2 : Option Value) (m' : yM) (n' : Nat), B74_40 f A x4 x5 m = some (.inl ((y0, y1), m')) → rg y0 → rg y1 → RM c m' → ∀ k', k' < k → PW (gZ L xs) k' 74 d 40 [some (.ref 2), z0, z1, z2, some (yI y0), some (yI y1)] [] m' n' Q) (He : ∀ (y0 y1 : Int) (z0 z1 z2 : Option Value) (m' : yM) (n' : Nat), B74_40 f A x4 x5 m = some (.inr (.inl ((y0, y1), m'))) → rg y0 → rg y1 → RM c m' → ∀ k', k' ≤ k → PW (gZ L xs) k' 74 d 139 [some (.ref 2), z0, z1, z2, some (yI y0), some (yI y1)] [] m' n' Q) (Hr : ∀ r m', B74_40 f A x4 x5 m = some (.inr (.inr (r, m'))) → rg r → RM c m' → ∀ n', Q (.inl (some (yI r))) m' n') : PW (gZ L xs) k 74 d 40 [some (.ref 2), j1, j2, j3, some (yI x4), some (yI x5)] [] m n Q := by
  have hX : B74_40 f A x4 x5 m = B74_40 f A x4 x5 m := rfl
  refine p_iload 42 c74_40 rfl rfl ?_
  refine p_iconst 45 c74_42 rfl ?_
  refine p_icmp 139 48 c74_45 rfl rfl ((yc_ge gx5 (rgD rfl)).trans Int.not_lt.symm) (fun hb718 k719 hk719 => ?_) (fun hb718 k720 hk720 => ?_)
  · have hX721 := hX.trans (if_neg hb718)
    exact He _ _ _ _ _ _ _ hX721 gx4 gx5 hR _ (by omega)
  · have hX722 := hX.trans (if_pos (Classical.not_not.mp hb718))
    refine p_iload 50 c74_48 rfl rfl ?_
    refine p_if 139 53 c74_50 rfl rfl (yz_eq gx4) (fun hb723 k724 hk724 => ?_) (fun hb723 k725 hk725 => ?_)
    · have hX726 := hX722.trans (if_pos hb723)
      exact He _ _ _ _ _ _ _ hX726 gx4 gx5 hR _ (by omega)
    · have hX727 := hX722.trans (if_neg hb723)
      refine p_aload 54 c74_53 rfl rfl ?_
      refine p_getX 57 (m 2 3) c74_54 rfl kf2_3 rfl ?_
      refine p_if 139 60 c74_57 rfl rfl (yz_ne (hR.rg _ _)) (fun hb728 k729 hk729 => ?_) (fun hb728 k730 hk730 => ?_)
      · have hX731 := hX727.trans (if_neg hb728)
        exact He _ _ _ _ _ _ _ hX731 gx4 gx5 hR _ (by omega)
      · have hX732 := hX727.trans (if_pos (Classical.not_not.mp hb728))
        refine p_aload 61 c74_60 rfl rfl ?_
        refine p_cX 64 [.ref 2] [] c74_61 rfl rfl rfl (fun k' hk' d' => d38 hR) (fun hg735 n734 k733 hk733 => ?_)
        by_cases hk736 : F38 m = 2
        · have hX737 := hX732.trans (if_pos hk736)
          refine p_top 2 hk736 ?_
          refine p_lsw 100 c74_64 (rgD rfl) (o := 36) (by decide) rfl ?_
          refine p_aload 101 c74_100 rfl rfl ?_
          refine p_cS 104 [.ref 2] [] c74_101 rfl rfl rfl (fun k' hk' d' => d49 (f := f) (by omega) hc hA hR) (fun r850 m852 hF848 hg849 hR853 n739 k738 hk738 => ?_)
          have hX851 := hX737.trans (bI_s hF848)
          refine p_istore 106 c74_104 rfl rfl ?_
          refine p_goto 133 c74_106 rfl ?_
          exact tJ74_133 (f := f) (by omega) hc hA hg849 gx5 hR853 (fun y0 y1 y2 y3 y4 m' n' e' h0 h1 hR' k' hk' => Hn y0 y1 y2 y3 y4 m' n' (hX851.trans e') h0 h1 hR' k' (by omega)) (fun y0 y1 y2 y3 y4 m' n' e' h0 h1 hR' k' hk' => He y0 y1 y2 y3 y4 m' n' (hX851.trans e') h0 h1 hR' k' (by omega)) (fun r' m' e' => Hr r' m' (hX851.trans e'))
        have hX855 := hX732.trans (if_neg hk736)
        by_cases hk856 : F38 m = 3
        · have hX857 := hX855.trans (if_pos hk856)
          refine p_top 3 hk856 ?_
          refine p_lsw 109 c74_64 (rgD rfl) (o := 45) (by decide) rfl ?_
          refine p_aload 110 c74_109 rfl rfl ?_
          refine p_cS 113 [.ref 2] [] c74_110 rfl rfl rfl (fun k' hk' d' => d70 (f := f) (by omega) hc hA hR) (fun r1864 m1866 hF1862 hg1863 hR1867 n859 k858 hk858 => ?_)
          have hX1865 := hX857.trans (bI_s hF1862)
          refine p_istore 115 c74_113 rfl rfl ?_
          refine p_goto 133 c74_115 rfl ?_
          exact tJ74_133 (f := f) (by omega) hc hA hg1863 gx5 hR1867 (fun y0 y1 y2 y3 y4 m' n' e' h0 h1 hR' k' hk' => Hn y0 y1 y2 y3 y4 m' n' (hX1865.trans e') h0 h1 hR' k' (by omega)) (fun y0 y1 y2 y3 y4 m' n' e' h0 h1 hR' k' hk' => He y0 y1 y2 y3 y4 m' n' (hX1865.trans e') h0 h1 hR' k' (by omega)) (fun r' m' e' => Hr r' m' (hX1865.trans e'))
        have hX1868 := hX855.trans (if_neg hk856)
        by_cases hk1869 : F38 m = 125
        · have hX1870 := hX1868.trans (if_pos hk1869)
          refine p_top 125 hk1869 ?_
          refine p_lsw 118 c74_64 (rgD rfl) (o := 54) (by decide) rfl ?_
          refine p_aload 119 c74_118 rfl rfl ?_
          refine p_cS 122 [.ref 2] [] c74_119 rfl rfl rfl (fun k' hk' d' => d71 (f := f) (by omega) hc hA hR) (fun r1903 m1905 hF1901 hg1902 hR1906 n1872 k1871 hk1871 => ?_)
          have hX1904 := hX1870.trans (bI_s hF1901)
          refine p_istore 124 c74_122 rfl rfl ?_
          refine p_goto 133 c74_124 rfl ?_
          exact tJ74_133 (f := f) (by omega) hc hA hg1902 gx5 hR1906 (fun y0 y1 y2 y3 y4 m' n' e' h0 h1 hR' k' hk' => Hn y0 y1 y2 y3 y4 m' n' (hX1904.trans e') h0 h1 hR' k' (by omega)) (fun y0 y1 y2 y3 y4 m' n' e' h0 h1 hR' k' hk' => He y0 y1 y2 y3 y4 m' n' (hX1904.trans e') h0 h1 hR' k' (by omega)) (fun r' m' e' => Hr r' m' (hX1904.trans e'))
        have hX1907 := hX1868.trans (if_neg hk1869)
        refine p_lsw 127 c74_64 hg735 (o := 63) (by simp [Op.lookupswitch.offset, List.find?]; rw [if_neg (fun e => hk736 e.symm), if_neg (fun e => hk856 e.symm), if_neg (fun e => hk1869 e.symm)]) rfl ?_
        refine p_aload 128 c74_127 rfl rfl ?_
        refine p_cS 131 [.ref 2] [] c74_128 rfl rfl rfl (fun k' hk' d' => d43 (f := f) (by omega) hR) (fun r1912 m1914 hF1910 hg1911 hR1915 n1909 k1908 hk1908 => ?_)
        have hX1913 := hX1907.trans (bI_s hF1910)
        refine p_istore 133 c74_131 rfl rfl ?_
        exact tJ74_133 (f := f) (by omega) hc hA hg1911 gx5 hR1915 (fun y0 y1 y2 y3 y4 m' n' e' h0 h1 hR' k' hk' => Hn y0 y1 y2 y3 y4 m' n' (hX1913.trans e') h0 h1 hR' k' (by omega)) (fun y0 y1 y2 y3 y4 m' n' e' h0 h1 hR' k' hk' => He y0 y1 y2 y3 y4 m' n' (hX1913.trans e') h0 h1 hR' k' (by omega)) (fun r' m' e' => Hr r' m' (hX1913.trans e'))
def J74_139 (f : Nat) (A : Nat) (x4 : Int) (m : yM) : Option (Int × yM) := (if x4 = 0 then (some (m 2 4, m)) else (bI (F73 f A m) (fun r2041 m2043 => (some (r2041, m2043)))))
set_option maxRecDepth 100000 in
theorem tJ74_139 {L : Nat} {xs : Nat → Int32} {Q : xO → yM → Nat → Prop} {k d n : Nat} {c : yS3} {f : Nat} {A : Nat} {x4 : Int} {m : yM} {j1 j2 j3 j5 : Option Value} (hk : k ≤ f) (hc : c.1 = pX A) (hA : (A = 256 ∨ A = 316)) (gx4 : rg x4) (hR : RM c m) (Hr : ∀ r m', J74_139 f A x4 m = some (r, m') → rg r → RM c m' → ∀ n', Q (.inl (some (yI r))) m' n') : PW (gZ L xs) k 74 d 139 [some (.ref 2), j1, j2, j3, some (yI x4), j5] [] m n Q := by
  have hX : J74_139 f A x4 m = J74_139 f A x4 m := rfl
  refine p_iload 141 c74_139 rfl rfl ?_
  refine p_if 154 144 c74_141 rfl rfl (yz_eq gx4) (fun hb1925 k1926 hk1926 => ?_) (fun hb1925 k1927 hk1927 => ?_)
  · have hX1928 := hX.trans (if_pos hb1925)
    refine p_aload 155 c74_154 rfl rfl ?_
    refine p_getX 158 (m 2 4) c74_155 rfl kf2_4 rfl ?_
    exact p_ireturn c74_158 (Hr _ _ hX1928 (hR.rg _ _) hR _)
  · have hX1929 := hX.trans (if_neg hb1925)
    refine p_aload 145 c74_144 rfl rfl ?_
    refine p_getV 148 (.ref A) c74_145 rfl kf2_1 (pX_of hA hR.2.2.2.1 hc) ?_
    refine p_cS 151 [.ref A] [] c74_148 rfl rfl rfl (fun k' hk' d' => d73 (f := f) (by omega) hA hR) (fun r2041 m2043 hF2039 hg2040 hR2044 n1931 k1930 hk1930 => ?_)
    have hX2042 := hX1929.trans (bI_s hF2039)
    refine p_goto 158 c74_151 rfl ?_
    exact p_ireturn c74_158 (Hr _ _ hX2042 hg2040 hR2044 _)
def F74 (f : Nat) (x2 : Int) (A : Nat) (m : yM) : Option (Int × yM) := (bU (F30 f A (yup m 2 1 (pX A))) (fun m312 => (bU (F36 f x2 m312) (fun m528 => (bI (F45 f A (yup (yup m528 2 2 0) 2 3 0)) (fun r714 m716 => (bL (yloop (fun (l : Int × Int) ml => B74_40 f A l.1 l.2 ml) f (r714, 0) m716) (fun l1916 m1922 => (J74_139 f A l1916.1 m1922)) (fun r mr => some (r, mr)))))))))
set_option maxRecDepth 100000 in
theorem d74 {L : Nat} {xs : Nat → Int32} {k d n : Nat} {c : yS3} {f : Nat} {x2 : Int} {A : Nat} {m : yM} (hk : k ≤ f) (gx2 : rg x2) (hA : (A = 256 ∨ A = 316)) (hR : RM c m) : PC (gZ L xs) k d 74 [.ref 2, .ref 1, yI x2, .ref A] m n (qS (pX A, c.2) (F74 f x2 A m)) := by
  have hX : F74 f x2 A m = F74 f x2 A m := rfl
  have Hr : ∀ r m', F74 f x2 A m = some (r, m') → rg r → RM (pX A, c.2) m' → ∀ n' : Nat, (qS (pX A, c.2) (F74 f x2 A m)) (.inl (some (yI r))) m' n' := fun r m' e h1 h2 n' => ⟨r, rfl, h1, h2, e⟩
  refine PC.mk [some (.ref 2), some (.ref 1), some (yI x2), some (.ref A), none, none] kn74 rfl ?_
  refine p_aload 1 c74_0 rfl rfl ?_
  refine p_aload 2 c74_1 rfl rfl ?_
  refine p_put 5 (x := pX A) c74_2 rfl kf2_1 (pX_sv hA) ?_
  have hR297 := RM.s2 hR (pX_01 A)
  refine p_aload 6 c74_5 rfl rfl ?_
  refine p_getV 9 (.ref A) c74_6 rfl kf2_1 (pX_of hA hR297.2.2.2.1 (rfl : ((pX A, c.2) : yS3).1 = pX A)) ?_
  refine p_cV 12 [.ref A] [] c74_9 rfl rfl rfl (fun k' hk' d' => d30 (f := f) (by omega) hA hR297) (fun m312 hF308 hR313 n299 k298 hk298 => ?_)
  have hX311 := hX.trans (bU_s hF308)
  refine p_aload 13 c74_12 rfl rfl ?_
  refine p_getR 16 c74_13 rfl kf2_0 ?_
  refine p_aload 17 c74_16 rfl rfl ?_
  refine p_iload 18 c74_17 rfl rfl ?_
  refine p_cV 21 [.ref 3, .ref 1, yI x2] [] c74_18 rfl rfl rfl (fun k' hk' d' => d36 (f := f) (by omega) gx2 hR313) (fun m528 hF524 hR529 n315 k314 hk314 => ?_)
  have hX527 := hX311.trans (bU_s hF524)
  refine p_aload 22 c74_21 rfl rfl ?_
  refine p_iconst 23 c74_22 rfl ?_
  refine p_putI 26 c74_23 rfl kf2_2 ?_
  have hR530 := hR529.up 2 2 (v := 0) (nselD rfl) (rgD rfl)
  refine p_aload 27 c74_26 rfl rfl ?_
  refine p_iconst 28 c74_27 rfl ?_
  refine p_putI 31 c74_28 rfl kf2_3 ?_
  have hR531 := hR530.up 2 3 (v := 0) (nselD rfl) (rgD rfl)
  refine p_aload 32 c74_31 rfl rfl ?_
  refine p_cS 35 [.ref 2] [] c74_32 rfl rfl rfl (fun k' hk' d' => d45 (f := f) (by omega) (rfl : ((pX A, c.2) : yS3).1 = pX A) hA hR531) (fun r714 m716 hF712 hg713 hR717 n533 k532 hk532 => ?_)
  have hX715 := hX527.trans (bI_s hF712)
  refine p_istore 37 c74_35 rfl rfl ?_
  refine p_iconst 38 c74_37 rfl ?_
  refine p_istore 40 c74_38 rfl rfl ?_
  refine PW.loop (K := k532) (pce := 139) (fun (l : Int × Int) ml => B74_40 f A l.1 l.2 ml) (fun (l : Int × Int) j => [some (.ref 2), j 1, j 2, j 3, some (yI l.1), some (yI l.2)]) (fun (l : Int × Int) => rg l.1 ∧ rg l.2) (RM ((pX A, c.2))) (fun r' m' => rg r' → RM ((pX A, c.2)) m' → ∀ n' : Nat, (qS (pX A, c.2) (F74 f x2 A m)) (.inl (some (yI r'))) m' n') (fun k' hk' l j m' n' hl hI Hn' He' Hr' => tB74_40 (f := f) (by omega) (rfl : ((pX A, c.2) : yS3).1 = pX A) hA hl.1 hl.2 hI (fun y0 y1 y2 y3 y4 m2 n2 e h0 h1 hR2 => Hn' (y0, y1) (fun q => ([none, y2, y3, y4, none, none] : List (Option Value)).getD q none) m2 n2 e ⟨h0, h1⟩ hR2) (fun y0 y1 y2 y3 y4 m2 n2 e h0 h1 hR2 => He' (y0, y1) (fun q => ([none, y2, y3, y4, none, none] : List (Option Value)).getD q none) m2 n2 e ⟨h0, h1⟩ hR2) Hr') f k532 (by omega) (Nat.le_refl _) (r714, 0) (fun q => ([some (.ref 2), some (.ref 1), some (yI x2), some (.ref A), some (yI r714), some (yI 0)] : xL).getD q none) _ _ ⟨hg713, (rgD rfl)⟩ hR717 (fun l1916 j1919 m1922 n1921 e1918 hl1917 hR1923 k1920 hk1920 => ?_) (fun r' m' e' => ?_)
  · have hX1924 := hX715.trans (bL_l e1918)
    exact tJ74_139 (f := f) (by omega) (rfl : ((pX A, c.2) : yS3).1 = pX A) hA hl1917.1 hR1923 (fun r' m' e' => Hr r' m' (hX1924.trans e'))
  · exact Hr r' m' (hX715.trans (bL_r e'))
def B75_12_5 (f : Nat) (a0 : Nat) (x1 : Int) (x3 : Int) (x2 : Int) (m : yM) : Option ((Int × yM) ⊕ ((Int × yM) ⊕ (Unit × yM))) := (if x2 < x3 then (some (.inl ((wr (x2 + 1)), yup m a0 x2.toNat x1))) else (some (.inr (.inl (x2, m)))))
set_option maxRecDepth 100000 in
theorem tB75_12_5 {L : Nat} {xs : Nat → Int32} {Q : xO → yM → Nat → Prop} {k d n : Nat} {c : yS3} {f : Nat} {a0 : Nat} {x1 : Int} {x3 : Int} {x2 : Int} {m : yM} (hk : k ≤ f) (hr0 : yarr gSh 414 a0 = some (0, 12)) (hq0 : (10 ≤ a0 ∧ a0 < 72) ∨ (73 ≤ a0 ∧ a0 < 169) ∨ (171 ≤ a0 ∧ a0 < 219) ∨ (221 ≤ a0 ∧ a0 < 251) ∨ (252 ≤ a0 ∧ a0 < 256)) (gx1 : rg x1) (gx3 : rg x3) (gx2 : rg x2) (hR : RM c m) (Hn : ∀ (y0 : Int) (m' : yM) (n' : Nat), B75_12_5 f a0 x1 x3 x2 m = some (.inl (y0, m')) → rg y0 → RM c m' → ∀ k', k' < k → PW (gZ L xs) k' 75 d 5 [some (.ref a0), some (yI x1), some (yI y0), some (yI x3)] [] m' n' Q) (He : ∀ (y0 : Int) (m' : yM) (n' : Nat), B75_12_5 f a0 x1 x3 x2 m = some (.inr (.inl (y0, m'))) → rg y0 → RM c m' → ∀ k', k' ≤ k → PW (gZ L xs) k' 75 d 20 [some (.ref a0), some (yI x1), some (yI y0), some (yI x3)] [] m' n' Q) (Hr : ∀ m', B75_12_5 f a0 x1 x3 x2 m = some (.inr (.inr ((), m'))) → RM c m' → ∀ n', Q (.inl none) m' n') : PW (gZ L xs) k 75 d 5 [some (.ref a0), some (yI x1), some (yI x2), some (yI x3)] [] m n Q := by
  have hX : B75_12_5 f a0 x1 x3 x2 m = B75_12_5 f a0 x1 x3 x2 m := rfl
  refine p_iload 6 c75_5 rfl rfl ?_
  refine p_iload 7 c75_6 rfl rfl ?_
  refine p_icmp 20 10 c75_7 rfl rfl ((yc_ge gx2 gx3).trans Int.not_lt.symm) (fun hb2074 k2075 hk2075 => ?_) (fun hb2074 k2076 hk2076 => ?_)
  · have hX2077 := hX.trans (if_neg hb2074)
    exact He _ _ _ hX2077 gx2 hR _ (by omega)
  · have hX2078 := hX.trans (if_pos (Classical.not_not.mp hb2074))
    refine p_aload 11 c75_10 rfl rfl ?_
    refine p_iload 12 c75_11 rfl rfl ?_
    refine p_iload 13 c75_12 rfl rfl ?_
    refine p_iaS 14 c75_13 rfl hr0 gx2 x1 (nar0 gx1) (fun hx2079 => ?_)
    have hR2080 := hR.up a0 x2.toNat (v := x1) (nselA (by omega)) gx1
    refine p_iinc 17 c75_14 rfl rfl rfl ?_
    refine p_gotoD 5 c75_17 rfl (fun k2081 hk2081 => ?_)
    exact Hn _ _ _ hX2078 (rg_wr _) hR2080 _ (by omega)
def F75_12 (f : Nat) (a0 : Nat) (x1 : Int) (m : yM) : Option yM := (bL (yloop (fun (l : Int) ml => B75_12_5 f a0 x1 12 l ml) f 0 m) (fun l2082 m2088 => (some m2088)) (fun _ mr => some mr))
set_option maxRecDepth 100000 in
theorem d75_12 {L : Nat} {xs : Nat → Int32} {k d n : Nat} {c : yS3} {f : Nat} {a0 : Nat} {x1 : Int} {m : yM} (hk : k ≤ f) (hr0 : yarr gSh 414 a0 = some (0, 12)) (hq0 : (10 ≤ a0 ∧ a0 < 72) ∨ (73 ≤ a0 ∧ a0 < 169) ∨ (171 ≤ a0 ∧ a0 < 219) ∨ (221 ≤ a0 ∧ a0 < 251) ∨ (252 ≤ a0 ∧ a0 < 256)) (gx1 : rg x1) (hR : RM c m) : PC (gZ L xs) k d 75 [.ref a0, yI x1] m n (qV c (F75_12 f a0 x1 m)) := by
  have hX : F75_12 f a0 x1 m = F75_12 f a0 x1 m := rfl
  have Hr : ∀ m', F75_12 f a0 x1 m = some m' → RM c m' → ∀ n' : Nat, (qV c (F75_12 f a0 x1 m)) (.inl none) m' n' := fun m' e h n' => ⟨rfl, h, e⟩
  refine PC.mk [some (.ref a0), some (yI x1), none, none] kn75 rfl ?_
  refine p_iconst 1 c75_0 rfl ?_
  refine p_istore 2 c75_1 rfl rfl ?_
  refine p_aload 3 c75_2 rfl rfl ?_
  refine p_alen 4 c75_3 rfl hr0 ?_
  refine p_istore 5 c75_4 rfl rfl ?_
  refine PW.loop (K := k) (pce := 20) (fun (l : Int) ml => B75_12_5 f a0 x1 12 l ml) (fun (l : Int) j => [some (.ref a0), some (yI x1), some (yI l), some (yI 12)]) (fun (l : Int) => rg l) (RM c) (fun (r' : Unit) m' => RM c m' → ∀ n' : Nat, (qV c (F75_12 f a0 x1 m)) (.inl none) m' n') (fun k' hk' l j m' n' hl hI Hn' He' Hr' => tB75_12_5 (f := f) (by omega) hr0 (by omega) gx1 (rgD rfl) hl hI (fun y0 m2 n2 e h0 hR2 => Hn' y0 (fun q => ([none, none, none, none] : List (Option Value)).getD q none) m2 n2 e h0 hR2) (fun y0 m2 n2 e h0 hR2 => He' y0 (fun q => ([none, none, none, none] : List (Option Value)).getD q none) m2 n2 e h0 hR2) (fun m2 e => Hr' () m2 e)) f k (by omega) (Nat.le_refl _) 0 (fun q => ([some (.ref a0), some (yI x1), some (yI 0), some (yI 12)] : xL).getD q none) _ _ (rgD rfl) hR (fun l2082 j2085 m2088 n2087 e2084 hl2083 hR2089 k2086 hk2086 => ?_) (fun r' m' e' => ?_)
  · have hX2090 := hX.trans (bL_l e2084)
    exact p_return c75_20 (Hr _ hX2090 hR2089 _)
  · exact Hr m' (hX.trans (bL_r e'))
def B76_c9_2 (f : Nat) (x1 : Int) (m : yM) : Option ((Int × yM) ⊕ ((Int × yM) ⊕ (Unit × yM))) := (if x1 < 48 then (if 0 ≤ x1 ∧ x1 < ((48 : Nat) : Int) then (bU (F75_12 f (10 + (x1).toNat) ((-1)) m) (fun m2095 => (some (.inl ((wr (x1 + 1)), m2095))))) else none) else (some (.inr (.inl (x1, m)))))
set_option maxRecDepth 100000 in
theorem tB76_c9_2 {L : Nat} {xs : Nat → Int32} {Q : xO → yM → Nat → Prop} {k d n : Nat} {c : yS3} {f : Nat} {x1 : Int} {m : yM} (hk : k ≤ f) (gx1 : rg x1) (hR : RM c m) (Hn : ∀ (y0 : Int) (m' : yM) (n' : Nat), B76_c9_2 f x1 m = some (.inl (y0, m')) → rg y0 → RM c m' → ∀ k', k' < k → PW (gZ L xs) k' 76 d 2 [some (.ref 9), some (yI y0)] [] m' n' Q) (He : ∀ (y0 : Int) (m' : yM) (n' : Nat), B76_c9_2 f x1 m = some (.inr (.inl (y0, m'))) → rg y0 → RM c m' → ∀ k', k' ≤ k → PW (gZ L xs) k' 76 d 21 [some (.ref 9), some (yI y0)] [] m' n' Q) (Hr : ∀ m', B76_c9_2 f x1 m = some (.inr (.inr ((), m'))) → RM c m' → ∀ n', Q (.inl none) m' n') : PW (gZ L xs) k 76 d 2 [some (.ref 9), some (yI x1)] [] m n Q := by
  have hX : B76_c9_2 f x1 m = B76_c9_2 f x1 m := rfl
  refine p_iload 3 c76_2 rfl rfl ?_
  refine p_aload 4 c76_3 rfl rfl ?_
  refine p_rlen 5 c76_4 rfl kr9 ?_
  refine p_icmp 21 8 c76_5 rfl rfl ((yc_ge gx1 (rgD rfl)).trans Int.not_lt.symm) (fun hb2065 k2066 hk2066 => ?_) (fun hb2065 k2067 hk2067 => ?_)
  · have hX2068 := hX.trans (if_neg hb2065)
    exact He _ _ _ hX2068 gx1 hR _ (by omega)
  · have hX2069 := hX.trans (if_pos (Classical.not_not.mp hb2065))
    refine p_aload 9 c76_8 rfl rfl ?_
    refine p_iload 10 c76_9 rfl rfl ?_
    refine p_aaX 11 c76_10 rfl kr9 gx1 (fun hx2070 => ?_)
    have hX2071 := hX2069.trans (if_pos hx2070)
    refine p_iconst 12 c76_11 rfl ?_
    refine p_cV 15 [.ref (10 + (x1).toNat), yI ((-1))] [] c76_12 rfl rfl rfl (fun k' hk' d' => d75_12 (f := f) (by omega) (kR9 hx2070) (by omega) (rgD rfl) hR) (fun m2095 hF2091 hR2096 n2073 k2072 hk2072 => ?_)
    have hX2094 := hX2071.trans (bU_s hF2091)
    refine p_iinc 18 c76_15 rfl rfl rfl ?_
    refine p_gotoD 2 c76_18 rfl (fun k2097 hk2097 => ?_)
    exact Hn _ _ _ hX2094 (rg_wr _) hR2096 _ (by omega)
def F76_c9 (f : Nat) (m : yM) : Option yM := (bL (yloop (fun (l : Int) ml => B76_c9_2 f l ml) f 0 m) (fun l2098 m2104 => (some m2104)) (fun _ mr => some mr))
set_option maxRecDepth 100000 in
theorem d76_c9 {L : Nat} {xs : Nat → Int32} {k d n : Nat} {c : yS3} {f : Nat} {m : yM} (hk : k ≤ f) (hR : RM c m) : PC (gZ L xs) k d 76 [.ref 9] m n (qV c (F76_c9 f m)) := by
  have hX : F76_c9 f m = F76_c9 f m := rfl
  have Hr : ∀ m', F76_c9 f m = some m' → RM c m' → ∀ n' : Nat, (qV c (F76_c9 f m)) (.inl none) m' n' := fun m' e h n' => ⟨rfl, h, e⟩
  refine PC.mk [some (.ref 9), none] kn76 rfl ?_
  refine p_iconst 1 c76_0 rfl ?_
  refine p_istore 2 c76_1 rfl rfl ?_
  refine PW.loop (K := k) (pce := 21) (fun (l : Int) ml => B76_c9_2 f l ml) (fun (l : Int) j => [some (.ref 9), some (yI l)]) (fun (l : Int) => rg l) (RM c) (fun (r' : Unit) m' => RM c m' → ∀ n' : Nat, (qV c (F76_c9 f m)) (.inl none) m' n') (fun k' hk' l j m' n' hl hI Hn' He' Hr' => tB76_c9_2 (f := f) (by omega) hl hI (fun y0 m2 n2 e h0 hR2 => Hn' y0 (fun q => ([none, none] : List (Option Value)).getD q none) m2 n2 e h0 hR2) (fun y0 m2 n2 e h0 hR2 => He' y0 (fun q => ([none, none] : List (Option Value)).getD q none) m2 n2 e h0 hR2) (fun m2 e => Hr' () m2 e)) f k (by omega) (Nat.le_refl _) 0 (fun q => ([some (.ref 9), some (yI 0)] : xL).getD q none) _ _ (rgD rfl) hR (fun l2098 j2101 m2104 n2103 e2100 hl2099 hR2105 k2102 hk2102 => ?_) (fun r' m' e' => ?_)
  · have hX2106 := hX.trans (bL_l e2100)
    exact p_return c76_21 (Hr _ hX2106 hR2105 _)
  · exact Hr m' (hX.trans (bL_r e'))
def B75_10_5 (f : Nat) (a0 : Nat) (x1 : Int) (x3 : Int) (x2 : Int) (m : yM) : Option ((Int × yM) ⊕ ((Int × yM) ⊕ (Unit × yM))) := (if x2 < x3 then (some (.inl ((wr (x2 + 1)), yup m a0 x2.toNat x1))) else (some (.inr (.inl (x2, m)))))
set_option maxRecDepth 100000 in
theorem tB75_10_5 {L : Nat} {xs : Nat → Int32} {Q : xO → yM → Nat → Prop} {k d n : Nat} {c : yS3} {f : Nat} {a0 : Nat} {x1 : Int} {x3 : Int} {x2 : Int} {m : yM} (hk : k ≤ f) (hr0 : yarr gSh 414 a0 = some (0, 10)) (hq0 : (10 ≤ a0 ∧ a0 < 72) ∨ (73 ≤ a0 ∧ a0 < 169) ∨ (171 ≤ a0 ∧ a0 < 219) ∨ (221 ≤ a0 ∧ a0 < 251) ∨ (252 ≤ a0 ∧ a0 < 256)) (gx1 : rg x1) (gx3 : rg x3) (gx2 : rg x2) (hR : RM c m) (Hn : ∀ (y0 : Int) (m' : yM) (n' : Nat), B75_10_5 f a0 x1 x3 x2 m = some (.inl (y0, m')) → rg y0 → RM c m' → ∀ k', k' < k → PW (gZ L xs) k' 75 d 5 [some (.ref a0), some (yI x1), some (yI y0), some (yI x3)] [] m' n' Q) (He : ∀ (y0 : Int) (m' : yM) (n' : Nat), B75_10_5 f a0 x1 x3 x2 m = some (.inr (.inl (y0, m'))) → rg y0 → RM c m' → ∀ k', k' ≤ k → PW (gZ L xs) k' 75 d 20 [some (.ref a0), some (yI x1), some (yI y0), some (yI x3)] [] m' n' Q) (Hr : ∀ m', B75_10_5 f a0 x1 x3 x2 m = some (.inr (.inr ((), m'))) → RM c m' → ∀ n', Q (.inl none) m' n') : PW (gZ L xs) k 75 d 5 [some (.ref a0), some (yI x1), some (yI x2), some (yI x3)] [] m n Q := by
  have hX : B75_10_5 f a0 x1 x3 x2 m = B75_10_5 f a0 x1 x3 x2 m := rfl
  refine p_iload 6 c75_5 rfl rfl ?_
  refine p_iload 7 c75_6 rfl rfl ?_
  refine p_icmp 20 10 c75_7 rfl rfl ((yc_ge gx2 gx3).trans Int.not_lt.symm) (fun hb2124 k2125 hk2125 => ?_) (fun hb2124 k2126 hk2126 => ?_)
  · have hX2127 := hX.trans (if_neg hb2124)
    exact He _ _ _ hX2127 gx2 hR _ (by omega)
  · have hX2128 := hX.trans (if_pos (Classical.not_not.mp hb2124))
    refine p_aload 11 c75_10 rfl rfl ?_
    refine p_iload 12 c75_11 rfl rfl ?_
    refine p_iload 13 c75_12 rfl rfl ?_
    refine p_iaS 14 c75_13 rfl hr0 gx2 x1 (nar0 gx1) (fun hx2129 => ?_)
    have hR2130 := hR.up a0 x2.toNat (v := x1) (nselA (by omega)) gx1
    refine p_iinc 17 c75_14 rfl rfl rfl ?_
    refine p_gotoD 5 c75_17 rfl (fun k2131 hk2131 => ?_)
    exact Hn _ _ _ hX2128 (rg_wr _) hR2130 _ (by omega)
def F75_10 (f : Nat) (a0 : Nat) (x1 : Int) (m : yM) : Option yM := (bL (yloop (fun (l : Int) ml => B75_10_5 f a0 x1 10 l ml) f 0 m) (fun l2132 m2138 => (some m2138)) (fun _ mr => some mr))
set_option maxRecDepth 100000 in
theorem d75_10 {L : Nat} {xs : Nat → Int32} {k d n : Nat} {c : yS3} {f : Nat} {a0 : Nat} {x1 : Int} {m : yM} (hk : k ≤ f) (hr0 : yarr gSh 414 a0 = some (0, 10)) (hq0 : (10 ≤ a0 ∧ a0 < 72) ∨ (73 ≤ a0 ∧ a0 < 169) ∨ (171 ≤ a0 ∧ a0 < 219) ∨ (221 ≤ a0 ∧ a0 < 251) ∨ (252 ≤ a0 ∧ a0 < 256)) (gx1 : rg x1) (hR : RM c m) : PC (gZ L xs) k d 75 [.ref a0, yI x1] m n (qV c (F75_10 f a0 x1 m)) := by
  have hX : F75_10 f a0 x1 m = F75_10 f a0 x1 m := rfl
  have Hr : ∀ m', F75_10 f a0 x1 m = some m' → RM c m' → ∀ n' : Nat, (qV c (F75_10 f a0 x1 m)) (.inl none) m' n' := fun m' e h n' => ⟨rfl, h, e⟩
  refine PC.mk [some (.ref a0), some (yI x1), none, none] kn75 rfl ?_
  refine p_iconst 1 c75_0 rfl ?_
  refine p_istore 2 c75_1 rfl rfl ?_
  refine p_aload 3 c75_2 rfl rfl ?_
  refine p_alen 4 c75_3 rfl hr0 ?_
  refine p_istore 5 c75_4 rfl rfl ?_
  refine PW.loop (K := k) (pce := 20) (fun (l : Int) ml => B75_10_5 f a0 x1 10 l ml) (fun (l : Int) j => [some (.ref a0), some (yI x1), some (yI l), some (yI 10)]) (fun (l : Int) => rg l) (RM c) (fun (r' : Unit) m' => RM c m' → ∀ n' : Nat, (qV c (F75_10 f a0 x1 m)) (.inl none) m' n') (fun k' hk' l j m' n' hl hI Hn' He' Hr' => tB75_10_5 (f := f) (by omega) hr0 (by omega) gx1 (rgD rfl) hl hI (fun y0 m2 n2 e h0 hR2 => Hn' y0 (fun q => ([none, none, none, none] : List (Option Value)).getD q none) m2 n2 e h0 hR2) (fun y0 m2 n2 e h0 hR2 => He' y0 (fun q => ([none, none, none, none] : List (Option Value)).getD q none) m2 n2 e h0 hR2) (fun m2 e => Hr' () m2 e)) f k (by omega) (Nat.le_refl _) 0 (fun q => ([some (.ref a0), some (yI x1), some (yI 0), some (yI 10)] : xL).getD q none) _ _ (rgD rfl) hR (fun l2132 j2135 m2138 n2137 e2134 hl2133 hR2139 k2136 hk2136 => ?_) (fun r' m' e' => ?_)
  · have hX2140 := hX.trans (bL_l e2134)
    exact p_return c75_20 (Hr _ hX2140 hR2139 _)
  · exact Hr m' (hX.trans (bL_r e'))
def B76_c58_2 (f : Nat) (x1 : Int) (m : yM) : Option ((Int × yM) ⊕ ((Int × yM) ⊕ (Unit × yM))) := (if x1 < 12 then (if 0 ≤ x1 ∧ x1 < ((12 : Nat) : Int) then (bU (F75_10 f (59 + (x1).toNat) ((-1)) m) (fun m2145 => (some (.inl ((wr (x1 + 1)), m2145))))) else none) else (some (.inr (.inl (x1, m)))))
set_option maxRecDepth 100000 in
theorem tB76_c58_2 {L : Nat} {xs : Nat → Int32} {Q : xO → yM → Nat → Prop} {k d n : Nat} {c : yS3} {f : Nat} {x1 : Int} {m : yM} (hk : k ≤ f) (gx1 : rg x1) (hR : RM c m) (Hn : ∀ (y0 : Int) (m' : yM) (n' : Nat), B76_c58_2 f x1 m = some (.inl (y0, m')) → rg y0 → RM c m' → ∀ k', k' < k → PW (gZ L xs) k' 76 d 2 [some (.ref 58), some (yI y0)] [] m' n' Q) (He : ∀ (y0 : Int) (m' : yM) (n' : Nat), B76_c58_2 f x1 m = some (.inr (.inl (y0, m'))) → rg y0 → RM c m' → ∀ k', k' ≤ k → PW (gZ L xs) k' 76 d 21 [some (.ref 58), some (yI y0)] [] m' n' Q) (Hr : ∀ m', B76_c58_2 f x1 m = some (.inr (.inr ((), m'))) → RM c m' → ∀ n', Q (.inl none) m' n') : PW (gZ L xs) k 76 d 2 [some (.ref 58), some (yI x1)] [] m n Q := by
  have hX : B76_c58_2 f x1 m = B76_c58_2 f x1 m := rfl
  refine p_iload 3 c76_2 rfl rfl ?_
  refine p_aload 4 c76_3 rfl rfl ?_
  refine p_rlen 5 c76_4 rfl kr58 ?_
  refine p_icmp 21 8 c76_5 rfl rfl ((yc_ge gx1 (rgD rfl)).trans Int.not_lt.symm) (fun hb2115 k2116 hk2116 => ?_) (fun hb2115 k2117 hk2117 => ?_)
  · have hX2118 := hX.trans (if_neg hb2115)
    exact He _ _ _ hX2118 gx1 hR _ (by omega)
  · have hX2119 := hX.trans (if_pos (Classical.not_not.mp hb2115))
    refine p_aload 9 c76_8 rfl rfl ?_
    refine p_iload 10 c76_9 rfl rfl ?_
    refine p_aaX 11 c76_10 rfl kr58 gx1 (fun hx2120 => ?_)
    have hX2121 := hX2119.trans (if_pos hx2120)
    refine p_iconst 12 c76_11 rfl ?_
    refine p_cV 15 [.ref (59 + (x1).toNat), yI ((-1))] [] c76_12 rfl rfl rfl (fun k' hk' d' => d75_10 (f := f) (by omega) (kR58 hx2120) (by omega) (rgD rfl) hR) (fun m2145 hF2141 hR2146 n2123 k2122 hk2122 => ?_)
    have hX2144 := hX2121.trans (bU_s hF2141)
    refine p_iinc 18 c76_15 rfl rfl rfl ?_
    refine p_gotoD 2 c76_18 rfl (fun k2147 hk2147 => ?_)
    exact Hn _ _ _ hX2144 (rg_wr _) hR2146 _ (by omega)
def F76_c58 (f : Nat) (m : yM) : Option yM := (bL (yloop (fun (l : Int) ml => B76_c58_2 f l ml) f 0 m) (fun l2148 m2154 => (some m2154)) (fun _ mr => some mr))
set_option maxRecDepth 100000 in
theorem d76_c58 {L : Nat} {xs : Nat → Int32} {k d n : Nat} {c : yS3} {f : Nat} {m : yM} (hk : k ≤ f) (hR : RM c m) : PC (gZ L xs) k d 76 [.ref 58] m n (qV c (F76_c58 f m)) := by
  have hX : F76_c58 f m = F76_c58 f m := rfl
  have Hr : ∀ m', F76_c58 f m = some m' → RM c m' → ∀ n' : Nat, (qV c (F76_c58 f m)) (.inl none) m' n' := fun m' e h n' => ⟨rfl, h, e⟩
  refine PC.mk [some (.ref 58), none] kn76 rfl ?_
  refine p_iconst 1 c76_0 rfl ?_
  refine p_istore 2 c76_1 rfl rfl ?_
  refine PW.loop (K := k) (pce := 21) (fun (l : Int) ml => B76_c58_2 f l ml) (fun (l : Int) j => [some (.ref 58), some (yI l)]) (fun (l : Int) => rg l) (RM c) (fun (r' : Unit) m' => RM c m' → ∀ n' : Nat, (qV c (F76_c58 f m)) (.inl none) m' n') (fun k' hk' l j m' n' hl hI Hn' He' Hr' => tB76_c58_2 (f := f) (by omega) hl hI (fun y0 m2 n2 e h0 hR2 => Hn' y0 (fun q => ([none, none] : List (Option Value)).getD q none) m2 n2 e h0 hR2) (fun y0 m2 n2 e h0 hR2 => He' y0 (fun q => ([none, none] : List (Option Value)).getD q none) m2 n2 e h0 hR2) (fun m2 e => Hr' () m2 e)) f k (by omega) (Nat.le_refl _) 0 (fun q => ([some (.ref 58), some (yI 0)] : xL).getD q none) _ _ (rgD rfl) hR (fun l2148 j2151 m2154 n2153 e2150 hl2149 hR2155 k2152 hk2152 => ?_) (fun r' m' e' => ?_)
  · have hX2156 := hX.trans (bL_l e2150)
    exact p_return c76_21 (Hr _ hX2156 hR2155 _)
  · exact Hr m' (hX.trans (bL_r e'))
def B76_c72_2 (f : Nat) (x1 : Int) (m : yM) : Option ((Int × yM) ⊕ ((Int × yM) ⊕ (Unit × yM))) := (if x1 < 96 then (if 0 ≤ x1 ∧ x1 < ((96 : Nat) : Int) then (bU (F75_12 f (73 + (x1).toNat) ((-1)) m) (fun m2178 => (some (.inl ((wr (x1 + 1)), m2178))))) else none) else (some (.inr (.inl (x1, m)))))
set_option maxRecDepth 100000 in
theorem tB76_c72_2 {L : Nat} {xs : Nat → Int32} {Q : xO → yM → Nat → Prop} {k d n : Nat} {c : yS3} {f : Nat} {x1 : Int} {m : yM} (hk : k ≤ f) (gx1 : rg x1) (hR : RM c m) (Hn : ∀ (y0 : Int) (m' : yM) (n' : Nat), B76_c72_2 f x1 m = some (.inl (y0, m')) → rg y0 → RM c m' → ∀ k', k' < k → PW (gZ L xs) k' 76 d 2 [some (.ref 72), some (yI y0)] [] m' n' Q) (He : ∀ (y0 : Int) (m' : yM) (n' : Nat), B76_c72_2 f x1 m = some (.inr (.inl (y0, m'))) → rg y0 → RM c m' → ∀ k', k' ≤ k → PW (gZ L xs) k' 76 d 21 [some (.ref 72), some (yI y0)] [] m' n' Q) (Hr : ∀ m', B76_c72_2 f x1 m = some (.inr (.inr ((), m'))) → RM c m' → ∀ n', Q (.inl none) m' n') : PW (gZ L xs) k 76 d 2 [some (.ref 72), some (yI x1)] [] m n Q := by
  have hX : B76_c72_2 f x1 m = B76_c72_2 f x1 m := rfl
  refine p_iload 3 c76_2 rfl rfl ?_
  refine p_aload 4 c76_3 rfl rfl ?_
  refine p_rlen 5 c76_4 rfl kr72 ?_
  refine p_icmp 21 8 c76_5 rfl rfl ((yc_ge gx1 (rgD rfl)).trans Int.not_lt.symm) (fun hb2165 k2166 hk2166 => ?_) (fun hb2165 k2167 hk2167 => ?_)
  · have hX2168 := hX.trans (if_neg hb2165)
    exact He _ _ _ hX2168 gx1 hR _ (by omega)
  · have hX2169 := hX.trans (if_pos (Classical.not_not.mp hb2165))
    refine p_aload 9 c76_8 rfl rfl ?_
    refine p_iload 10 c76_9 rfl rfl ?_
    refine p_aaX 11 c76_10 rfl kr72 gx1 (fun hx2170 => ?_)
    have hX2171 := hX2169.trans (if_pos hx2170)
    refine p_iconst 12 c76_11 rfl ?_
    refine p_cV 15 [.ref (73 + (x1).toNat), yI ((-1))] [] c76_12 rfl rfl rfl (fun k' hk' d' => d75_12 (f := f) (by omega) (kR72 hx2170) (by omega) (rgD rfl) hR) (fun m2178 hF2174 hR2179 n2173 k2172 hk2172 => ?_)
    have hX2177 := hX2171.trans (bU_s hF2174)
    refine p_iinc 18 c76_15 rfl rfl rfl ?_
    refine p_gotoD 2 c76_18 rfl (fun k2180 hk2180 => ?_)
    exact Hn _ _ _ hX2177 (rg_wr _) hR2179 _ (by omega)
def F76_c72 (f : Nat) (m : yM) : Option yM := (bL (yloop (fun (l : Int) ml => B76_c72_2 f l ml) f 0 m) (fun l2181 m2187 => (some m2187)) (fun _ mr => some mr))
set_option maxRecDepth 100000 in
theorem d76_c72 {L : Nat} {xs : Nat → Int32} {k d n : Nat} {c : yS3} {f : Nat} {m : yM} (hk : k ≤ f) (hR : RM c m) : PC (gZ L xs) k d 76 [.ref 72] m n (qV c (F76_c72 f m)) := by
  have hX : F76_c72 f m = F76_c72 f m := rfl
  have Hr : ∀ m', F76_c72 f m = some m' → RM c m' → ∀ n' : Nat, (qV c (F76_c72 f m)) (.inl none) m' n' := fun m' e h n' => ⟨rfl, h, e⟩
  refine PC.mk [some (.ref 72), none] kn76 rfl ?_
  refine p_iconst 1 c76_0 rfl ?_
  refine p_istore 2 c76_1 rfl rfl ?_
  refine PW.loop (K := k) (pce := 21) (fun (l : Int) ml => B76_c72_2 f l ml) (fun (l : Int) j => [some (.ref 72), some (yI l)]) (fun (l : Int) => rg l) (RM c) (fun (r' : Unit) m' => RM c m' → ∀ n' : Nat, (qV c (F76_c72 f m)) (.inl none) m' n') (fun k' hk' l j m' n' hl hI Hn' He' Hr' => tB76_c72_2 (f := f) (by omega) hl hI (fun y0 m2 n2 e h0 hR2 => Hn' y0 (fun q => ([none, none] : List (Option Value)).getD q none) m2 n2 e h0 hR2) (fun y0 m2 n2 e h0 hR2 => He' y0 (fun q => ([none, none] : List (Option Value)).getD q none) m2 n2 e h0 hR2) (fun m2 e => Hr' () m2 e)) f k (by omega) (Nat.le_refl _) 0 (fun q => ([some (.ref 72), some (yI 0)] : xL).getD q none) _ _ (rgD rfl) hR (fun l2181 j2184 m2187 n2186 e2183 hl2182 hR2188 k2185 hk2185 => ?_) (fun r' m' e' => ?_)
  · have hX2189 := hX.trans (bL_l e2183)
    exact p_return c76_21 (Hr _ hX2189 hR2188 _)
  · exact Hr m' (hX.trans (bL_r e'))
def F77 (f : Nat) (m : yM) : Option yM := (bU (F76_c9 f m) (fun m2111 => (bU (F76_c58 f m2111) (fun m2161 => (bU (F76_c72 f m2161) (fun m2194 => (bU (F75_10 f 71 ((-1)) m2194) (fun m2202 => (some (yup m2202 8 6 0))))))))))
set_option maxRecDepth 100000 in
theorem d77 {L : Nat} {xs : Nat → Int32} {k d n : Nat} {c : yS3} {f : Nat} {m : yM} (hk : k ≤ f) (hR : RM c m) : PC (gZ L xs) k d 77 [.ref 8] m n (qV c (F77 f m)) := by
  have hX : F77 f m = F77 f m := rfl
  have Hr : ∀ m', F77 f m = some m' → RM c m' → ∀ n' : Nat, (qV c (F77 f m)) (.inl none) m' n' := fun m' e h n' => ⟨rfl, h, e⟩
  refine PC.mk [some (.ref 8)] kn77 rfl ?_
  refine p_aload 1 c77_0 rfl rfl ?_
  refine p_getR 4 c77_1 rfl kf8_0 ?_
  refine p_cV 7 [.ref 9] [] c77_4 rfl rfl rfl (fun k' hk' d' => d76_c9 (f := f) (by omega) hR) (fun m2111 hF2107 hR2112 n2064 k2063 hk2063 => ?_)
  have hX2110 := hX.trans (bU_s hF2107)
  refine p_aload 8 c77_7 rfl rfl ?_
  refine p_getR 11 c77_8 rfl kf8_1 ?_
  refine p_cV 14 [.ref 58] [] c77_11 rfl rfl rfl (fun k' hk' d' => d76_c58 (f := f) (by omega) hR2112) (fun m2161 hF2157 hR2162 n2114 k2113 hk2113 => ?_)
  have hX2160 := hX2110.trans (bU_s hF2157)
  refine p_aload 15 c77_14 rfl rfl ?_
  refine p_getR 18 c77_15 rfl kf8_3 ?_
  refine p_cV 21 [.ref 72] [] c77_18 rfl rfl rfl (fun k' hk' d' => d76_c72 (f := f) (by omega) hR2162) (fun m2194 hF2190 hR2195 n2164 k2163 hk2163 => ?_)
  have hX2193 := hX2160.trans (bU_s hF2190)
  refine p_aload 22 c77_21 rfl rfl ?_
  refine p_getR 25 c77_22 rfl kf8_2 ?_
  refine p_iconst 26 c77_25 rfl ?_
  refine p_cV 29 [.ref 71, yI ((-1))] [] c77_26 rfl rfl rfl (fun k' hk' d' => d75_10 (f := f) (by omega) ka71 (by omega) (rgD rfl) hR2195) (fun m2202 hF2198 hR2203 n2197 k2196 hk2196 => ?_)
  have hX2201 := hX2193.trans (bU_s hF2198)
  refine p_aload 30 c77_29 rfl rfl ?_
  refine p_iconst 31 c77_30 rfl ?_
  refine p_putI 34 c77_31 rfl kf8_6 ?_
  have hR2204 := hR2203.up 8 6 (v := 0) (nselD rfl) (rgD rfl)
  exact p_return c77_34 (Hr _ hX2201 hR2204 _)
def F78 (x1 : Int) (m : yM) : Int := (if x1 = (-1) then 0 else (if m 8 5 < x1 then 0 else 1))
set_option maxRecDepth 100000 in
theorem d78 {L : Nat} {xs : Nat → Int32} {k d n : Nat} {c : yS3} {x1 : Int} {m : yM} (gx1 : rg x1) (hR : RM c m) : PC (gZ L xs) k d 78 [.ref 8, yI x1] m n (qX m (F78 x1 m)) := by
  have hX : F78 x1 m = F78 x1 m := rfl
  have Hr : ∀ r, F78 x1 m = r → rg r → ∀ n' : Nat, (qX m (F78 x1 m)) (.inl (some (yI r))) m n' := fun r e h n' => by subst e; exact ⟨rfl, h, rfl⟩
  refine PC.mk [some (.ref 8), some (yI x1)] kn78 rfl ?_
  refine p_iload 1 c78_0 rfl rfl ?_
  refine p_iconst 2 c78_1 rfl ?_
  refine p_icmp 17 5 c78_2 rfl rfl (yc_eq gx1 (rgD rfl)) (fun hb2247 k2248 hk2248 => ?_) (fun hb2247 k2249 hk2249 => ?_)
  · have hX2250 := hX.trans (if_pos hb2247)
    refine p_iconst 18 c78_17 rfl ?_
    exact p_ireturn c78_18 (Hr _ hX2250 (rgD rfl) _)
  · have hX2251 := hX.trans (if_neg hb2247)
    refine p_iload 6 c78_5 rfl rfl ?_
    refine p_aload 7 c78_6 rfl rfl ?_
    refine p_getX 10 (m 8 5) c78_7 rfl kf8_5 rfl ?_
    refine p_icmp 17 13 c78_10 rfl rfl (yc_gt gx1 (hR.rg _ _)) (fun hb2252 k2253 hk2253 => ?_) (fun hb2252 k2254 hk2254 => ?_)
    · have hX2255 := hX2251.trans (if_pos hb2252)
      refine p_iconst 18 c78_17 rfl ?_
      exact p_ireturn c78_18 (Hr _ hX2255 (rgD rfl) _)
    · have hX2256 := hX2251.trans (if_neg hb2252)
      refine p_iconst 14 c78_13 rfl ?_
      refine p_goto 18 c78_14 rfl ?_
      exact p_ireturn c78_18 (Hr _ hX2256 (rgD rfl) _)
def F79_12 (f : Nat) (a1 : Nat) (x2 : Int) (m : yM) : Option yM := (if m a1 x2.toNat = (-1) then (some (yup (yup m a1 x2.toNat (wr ((m 8 5) + 1))) 8 6 (wr ((m 8 5) + 1)))) else (some m))
set_option maxRecDepth 100000 in
theorem d79_12 {L : Nat} {xs : Nat → Int32} {k d n : Nat} {c : yS3} {f : Nat} {a1 : Nat} {x2 : Int} {m : yM} (hk : k ≤ f) (hr1 : yarr gSh 414 a1 = some (0, 12)) (hq1 : (10 ≤ a1 ∧ a1 < 72) ∨ (73 ≤ a1 ∧ a1 < 169)) (gx2 : rg x2) (hR : RM c m) : PC (gZ L xs) k d 79 [.ref 8, .ref a1, yI x2] m n (qV c (F79_12 f a1 x2 m)) := by
  have hX : F79_12 f a1 x2 m = F79_12 f a1 x2 m := rfl
  have Hr : ∀ m', F79_12 f a1 x2 m = some m' → RM c m' → ∀ n' : Nat, (qV c (F79_12 f a1 x2 m)) (.inl none) m' n' := fun m' e h n' => ⟨rfl, h, e⟩
  refine PC.mk [some (.ref 8), some (.ref a1), some (yI x2)] kn79 rfl ?_
  refine p_aload 1 c79_0 rfl rfl ?_
  refine p_iload 2 c79_1 rfl rfl ?_
  refine p_iaX 3 (m a1 x2.toNat) c79_2 rfl hr1 gx2 rfl (fun hx2291 => ?_)
  refine p_iconst 4 c79_3 rfl ?_
  refine p_icmp 26 7 c79_4 rfl rfl (yc_ne (hR.rg _ _) (rgD rfl)) (fun hb2292 k2293 hk2293 => ?_) (fun hb2292 k2294 hk2294 => ?_)
  · have hX2295 := hX.trans (if_neg hb2292)
    exact p_return c79_26 (Hr _ hX2295 hR _)
  · have hX2296 := hX.trans (if_pos (Classical.not_not.mp hb2292))
    refine p_aload 8 c79_7 rfl rfl ?_
    refine p_iload 9 c79_8 rfl rfl ?_
    refine p_aload 10 c79_9 rfl rfl ?_
    refine p_getX 13 (m 8 5) c79_10 rfl kf8_5 rfl ?_
    refine p_iconst 14 c79_13 rfl ?_
    refine p_iadd 15 c79_14 rfl ?_
    refine p_iaS 16 c79_15 rfl hr1 gx2 (wr ((m 8 5) + 1)) (nar0 (rg_wr _)) (fun hx2297 => ?_)
    have hR2298 := hR.up a1 x2.toNat (v := wr ((m 8 5) + 1)) (nselA (by omega)) (rg_wr _)
    refine p_aload 17 c79_16 rfl rfl ?_
    refine p_aload 18 c79_17 rfl rfl ?_
    refine p_getX 21 (m 8 5) c79_18 rfl kf8_5 (yup_na (by omega)) ?_
    refine p_iconst 22 c79_21 rfl ?_
    refine p_iadd 23 c79_22 rfl ?_
    refine p_putI 26 c79_23 rfl kf8_6 ?_
    have hR2299 := hR2298.up 8 6 (v := wr ((m 8 5) + 1)) (nselD rfl) (rg_wr _)
    exact p_return c79_26 (Hr _ hX2296 hR2299 _)
def J80_12_12_29 (f : Nat) (A : Nat) (a1 : Nat) (a2 : Nat) (x3 : Int) (m : yM) : Option ((Int × yM) ⊕ ((Int × yM) ⊕ (Unit × yM))) := (some (.inl ((wr (x3 + 1)), m)))
set_option maxRecDepth 100000 in
theorem tJ80_12_12_29 {L : Nat} {xs : Nat → Int32} {Q : xO → yM → Nat → Prop} {k d n : Nat} {c : yS3} {f : Nat} {A : Nat} {a1 : Nat} {a2 : Nat} {x3 : Int} {m : yM} (hk : k ≤ f) (hc : c.2.1 = pX A) (hA : (A = 256 ∨ A = 316)) (hr1 : yarr gSh 414 a1 = some (0, 12)) (hq1 : (10 ≤ a1 ∧ a1 < 58) ∨ (73 ≤ a1 ∧ a1 < 169)) (hr2 : yarr gSh 414 a2 = some (0, 12)) (hq2 : (10 ≤ a2 ∧ a2 < 58) ∨ (73 ≤ a2 ∧ a2 < 169)) (gx3 : rg x3) (hR : RM c m) (Hn : ∀ (y0 : Int) (m' : yM) (n' : Nat), J80_12_12_29 f A a1 a2 x3 m = some (.inl (y0, m')) → rg y0 → RM c m' → ∀ k', k' < k → PW (gZ L xs) k' 80 d 2 [some (.ref 8), some (.ref a1), some (.ref a2), some (yI y0)] [] m' n' Q) (He : ∀ (y0 : Int) (m' : yM) (n' : Nat), J80_12_12_29 f A a1 a2 x3 m = some (.inr (.inl (y0, m'))) → rg y0 → RM c m' → ∀ k', k' ≤ k → PW (gZ L xs) k' 80 d 35 [some (.ref 8), some (.ref a1), some (.ref a2), some (yI y0)] [] m' n' Q) (Hr : ∀ m', J80_12_12_29 f A a1 a2 x3 m = some (.inr (.inr ((), m'))) → RM c m' → ∀ n', Q (.inl none) m' n') : PW (gZ L xs) k 80 d 29 [some (.ref 8), some (.ref a1), some (.ref a2), some (yI x3)] [] m n Q := by
  have hX : J80_12_12_29 f A a1 a2 x3 m = J80_12_12_29 f A a1 a2 x3 m := rfl
  refine p_iinc 32 c80_29 rfl rfl rfl ?_
  refine p_gotoD 2 c80_32 rfl (fun k2287 hk2287 => ?_)
  exact Hn _ _ _ hX (rg_wr _) hR _ (by omega)
def B80_12_12_2 (f : Nat) (A : Nat) (a1 : Nat) (a2 : Nat) (x3 : Int) (m : yM) : Option ((Int × yM) ⊕ ((Int × yM) ⊕ (Unit × yM))) := (if x3 < m A 14 then (if F78 (m a1 x3.toNat) m = 0 then (J80_12_12_29 f A a1 a2 x3 m) else (bU (F79_12 f a2 x3 m) (fun m2304 => (J80_12_12_29 f A a1 a2 x3 m2304)))) else (some (.inr (.inl (x3, m)))))
set_option maxRecDepth 100000 in
theorem tB80_12_12_2 {L : Nat} {xs : Nat → Int32} {Q : xO → yM → Nat → Prop} {k d n : Nat} {c : yS3} {f : Nat} {A : Nat} {a1 : Nat} {a2 : Nat} {x3 : Int} {m : yM} (hk : k ≤ f) (hc : c.2.1 = pX A) (hA : (A = 256 ∨ A = 316)) (hr1 : yarr gSh 414 a1 = some (0, 12)) (hq1 : (10 ≤ a1 ∧ a1 < 58) ∨ (73 ≤ a1 ∧ a1 < 169)) (hr2 : yarr gSh 414 a2 = some (0, 12)) (hq2 : (10 ≤ a2 ∧ a2 < 58) ∨ (73 ≤ a2 ∧ a2 < 169)) (gx3 : rg x3) (hR : RM c m) (Hn : ∀ (y0 : Int) (m' : yM) (n' : Nat), B80_12_12_2 f A a1 a2 x3 m = some (.inl (y0, m')) → rg y0 → RM c m' → ∀ k', k' < k → PW (gZ L xs) k' 80 d 2 [some (.ref 8), some (.ref a1), some (.ref a2), some (yI y0)] [] m' n' Q) (He : ∀ (y0 : Int) (m' : yM) (n' : Nat), B80_12_12_2 f A a1 a2 x3 m = some (.inr (.inl (y0, m'))) → rg y0 → RM c m' → ∀ k', k' ≤ k → PW (gZ L xs) k' 80 d 35 [some (.ref 8), some (.ref a1), some (.ref a2), some (yI y0)] [] m' n' Q) (Hr : ∀ m', B80_12_12_2 f A a1 a2 x3 m = some (.inr (.inr ((), m'))) → RM c m' → ∀ n', Q (.inl none) m' n') : PW (gZ L xs) k 80 d 2 [some (.ref 8), some (.ref a1), some (.ref a2), some (yI x3)] [] m n Q := by
  have hX : B80_12_12_2 f A a1 a2 x3 m = B80_12_12_2 f A a1 a2 x3 m := rfl
  refine p_iload 3 c80_2 rfl rfl ?_
  refine p_aload 4 c80_3 rfl rfl ?_
  refine p_getV 7 (.ref A) c80_4 rfl kf8_4 (pX_of hA hR.2.2.2.2.1 hc) ?_
  refine p_getX 10 (m A 14) c80_7 rfl (kP_14 hA) rfl ?_
  refine p_icmp 35 13 c80_10 rfl rfl ((yc_ge gx3 (hR.rg _ _)).trans Int.not_lt.symm) (fun hb2274 k2275 hk2275 => ?_) (fun hb2274 k2276 hk2276 => ?_)
  · have hX2277 := hX.trans (if_neg hb2274)
    exact He _ _ _ hX2277 gx3 hR _ (by omega)
  · have hX2278 := hX.trans (if_pos (Classical.not_not.mp hb2274))
    refine p_aload 14 c80_13 rfl rfl ?_
    refine p_aload 15 c80_14 rfl rfl ?_
    refine p_iload 16 c80_15 rfl rfl ?_
    refine p_iaX 17 (m a1 x3.toNat) c80_16 rfl hr1 gx3 rfl (fun hx2279 => ?_)
    refine p_cX 20 [.ref 8, yI (m a1 x3.toNat)] [] c80_17 rfl rfl rfl (fun k' hk' d' => d78 (hR.rg _ _) hR) (fun hg2282 n2281 k2280 hk2280 => ?_)
    refine p_if 29 23 c80_20 rfl rfl (yz_eq hg2282) (fun hb2283 k2284 hk2284 => ?_) (fun hb2283 k2285 hk2285 => ?_)
    · have hX2286 := hX2278.trans (if_pos hb2283)
      exact tJ80_12_12_29 (f := f) (by omega) hc hA hr1 (by omega) hr2 (by omega) gx3 hR (fun y0 m' n' e' h0 hR' k' hk' => Hn y0 m' n' (hX2286.trans e') h0 hR' k' (by omega)) (fun y0 m' n' e' h0 hR' k' hk' => He y0 m' n' (hX2286.trans e') h0 hR' k' (by omega)) (fun m' e' => Hr m' (hX2286.trans e'))
    · have hX2288 := hX2278.trans (if_neg hb2283)
      refine p_aload 24 c80_23 rfl rfl ?_
      refine p_aload 25 c80_24 rfl rfl ?_
      refine p_iload 26 c80_25 rfl rfl ?_
      refine p_cV 29 [.ref 8, .ref a2, yI x3] [] c80_26 rfl rfl rfl (fun k' hk' d' => d79_12 (f := f) (by omega) hr2 (by omega) gx3 hR) (fun m2304 hF2300 hR2305 n2290 k2289 hk2289 => ?_)
      have hX2303 := hX2288.trans (bU_s hF2300)
      exact tJ80_12_12_29 (f := f) (by omega) hc hA hr1 (by omega) hr2 (by omega) gx3 hR2305 (fun y0 m' n' e' h0 hR' k' hk' => Hn y0 m' n' (hX2303.trans e') h0 hR' k' (by omega)) (fun y0 m' n' e' h0 hR' k' hk' => He y0 m' n' (hX2303.trans e') h0 hR' k' (by omega)) (fun m' e' => Hr m' (hX2303.trans e'))
def F80_12_12 (f : Nat) (A : Nat) (a1 : Nat) (a2 : Nat) (m : yM) : Option yM := (bL (yloop (fun (l : Int) ml => B80_12_12_2 f A a1 a2 l ml) f 0 m) (fun l2306 m2312 => (some m2312)) (fun _ mr => some mr))
set_option maxRecDepth 100000 in
theorem d80_12_12 {L : Nat} {xs : Nat → Int32} {k d n : Nat} {c : yS3} {f : Nat} {A : Nat} {a1 : Nat} {a2 : Nat} {m : yM} (hk : k ≤ f) (hc : c.2.1 = pX A) (hA : (A = 256 ∨ A = 316)) (hr1 : yarr gSh 414 a1 = some (0, 12)) (hq1 : (10 ≤ a1 ∧ a1 < 58) ∨ (73 ≤ a1 ∧ a1 < 169)) (hr2 : yarr gSh 414 a2 = some (0, 12)) (hq2 : (10 ≤ a2 ∧ a2 < 58) ∨ (73 ≤ a2 ∧ a2 < 169)) (hR : RM c m) : PC (gZ L xs) k d 80 [.ref 8, .ref a1, .ref a2] m n (qV c (F80_12_12 f A a1 a2 m)) := by
  have hX : F80_12_12 f A a1 a2 m = F80_12_12 f A a1 a2 m := rfl
  have Hr : ∀ m', F80_12_12 f A a1 a2 m = some m' → RM c m' → ∀ n' : Nat, (qV c (F80_12_12 f A a1 a2 m)) (.inl none) m' n' := fun m' e h n' => ⟨rfl, h, e⟩
  refine PC.mk [some (.ref 8), some (.ref a1), some (.ref a2), none] kn80 rfl ?_
  refine p_iconst 1 c80_0 rfl ?_
  refine p_istore 2 c80_1 rfl rfl ?_
  refine PW.loop (K := k) (pce := 35) (fun (l : Int) ml => B80_12_12_2 f A a1 a2 l ml) (fun (l : Int) j => [some (.ref 8), some (.ref a1), some (.ref a2), some (yI l)]) (fun (l : Int) => rg l) (RM c) (fun (r' : Unit) m' => RM c m' → ∀ n' : Nat, (qV c (F80_12_12 f A a1 a2 m)) (.inl none) m' n') (fun k' hk' l j m' n' hl hI Hn' He' Hr' => tB80_12_12_2 (f := f) (by omega) hc hA hr1 (by omega) hr2 (by omega) hl hI (fun y0 m2 n2 e h0 hR2 => Hn' y0 (fun q => ([none, none, none, none] : List (Option Value)).getD q none) m2 n2 e h0 hR2) (fun y0 m2 n2 e h0 hR2 => He' y0 (fun q => ([none, none, none, none] : List (Option Value)).getD q none) m2 n2 e h0 hR2) (fun m2 e => Hr' () m2 e)) f k (by omega) (Nat.le_refl _) 0 (fun q => ([some (.ref 8), some (.ref a1), some (.ref a2), some (yI 0)] : xL).getD q none) _ _ (rgD rfl) hR (fun l2306 j2309 m2312 n2311 e2308 hl2307 hR2313 k2310 hk2310 => ?_) (fun r' m' e' => ?_)
  · have hX2314 := hX.trans (bL_l e2308)
    exact p_return c80_35 (Hr _ hX2314 hR2313 _)
  · exact Hr m' (hX.trans (bL_r e'))
def F83 (x1 : Int) (x2 : Int) : Nat := (73 + (wr ((wr (x1 * 8)) + x2)).toNat)
set_option maxRecDepth 100000 in
theorem d83 {L : Nat} {xs : Nat → Int32} {k d n : Nat} {c : yS3} {x1 : Int} {x2 : Int} {m : yM} (gx1 : rg x1) (gx2 : rg x2) (hR : RM c m) : PC (gZ L xs) k d 83 [.ref 8, yI x1, yI x2] m n (qXR m (fun a => yarr gSh 414 a = some (0, 12) ∧ (73 ≤ a ∧ a < 169)) (F83 x1 x2)) := by
  have hX : F83 x1 x2 = F83 x1 x2 := rfl
  have Hr : ∀ r, F83 x1 x2 = r → (fun a => yarr gSh 414 a = some (0, 12) ∧ (73 ≤ a ∧ a < 169)) r → ∀ n' : Nat, (qXR m (fun a => yarr gSh 414 a = some (0, 12) ∧ (73 ≤ a ∧ a < 169)) (F83 x1 x2)) (.inl (some (.ref r))) m n' := fun r e h n' => by subst e; exact ⟨rfl, h, rfl⟩
  refine PC.mk [some (.ref 8), some (yI x1), some (yI x2)] kn83 rfl ?_
  refine p_aload 1 c83_0 rfl rfl ?_
  refine p_getR 4 c83_1 rfl kf8_3 ?_
  refine p_iload 5 c83_4 rfl rfl ?_
  refine p_iconst 7 c83_5 rfl ?_
  refine p_imul 8 c83_7 rfl ?_
  refine p_iload 9 c83_8 rfl rfl ?_
  refine p_iadd 10 c83_9 rfl ?_
  refine p_aaX 11 c83_10 rfl kr72 (rg_wr _) (fun hx2356 => ?_)
  exact p_areturn c83_11 (Hr (73 + (wr ((wr (x1 * 8)) + x2)).toNat) hX ⟨(kR72 hx2356), by omega⟩ _)
def J85_76 (f : Nat) (A : Nat) (a1 : Nat) (x2 : Int) (m : yM) : Option ((Int × yM) ⊕ ((Int × yM) ⊕ (Unit × yM))) := (some (.inl ((wr (x2 + 1)), m)))
set_option maxRecDepth 100000 in
theorem tJ85_76 {L : Nat} {xs : Nat → Int32} {Q : xO → yM → Nat → Prop} {k d n : Nat} {c : yS3} {f : Nat} {A : Nat} {a1 : Nat} {x2 : Int} {m : yM} (hk : k ≤ f) (hc : c.2.1 = pX A) (hA : (A = 256 ∨ A = 316)) (hs1 : (276 ≤ a1 ∧ a1 < 316) ∨ (336 ≤ a1 ∧ a1 < 376)) (gx2 : rg x2) (hR : RM c m) (Hn : ∀ (y0 : Int) (m' : yM) (n' : Nat), J85_76 f A a1 x2 m = some (.inl (y0, m')) → rg y0 → RM c m' → ∀ k', k' < k → PW (gZ L xs) k' 85 d 2 [some (.ref 8), some (.ref a1), some (yI y0)] [] m' n' Q) (He : ∀ (y0 : Int) (m' : yM) (n' : Nat), J85_76 f A a1 x2 m = some (.inr (.inl (y0, m'))) → rg y0 → RM c m' → ∀ k', k' ≤ k → PW (gZ L xs) k' 85 d 82 [some (.ref 8), some (.ref a1), some (yI y0)] [] m' n' Q) (Hr : ∀ m', J85_76 f A a1 x2 m = some (.inr (.inr ((), m'))) → RM c m' → ∀ n', Q (.inl none) m' n') : PW (gZ L xs) k 85 d 76 [some (.ref 8), some (.ref a1), some (yI x2)] [] m n Q := by
  have hX : J85_76 f A a1 x2 m = J85_76 f A a1 x2 m := rfl
  refine p_iinc 79 c85_76 rfl rfl rfl ?_
  refine p_gotoD 2 c85_79 rfl (fun k2341 hk2341 => ?_)
  exact Hn _ _ _ hX (rg_wr _) hR _ (by omega)
def B85_2 (f : Nat) (A : Nat) (a1 : Nat) (x2 : Int) (m : yM) : Option ((Int × yM) ⊕ ((Int × yM) ⊕ (Unit × yM))) := (if x2 < m A 14 then (if 0 ≤ (m a1 2) ∧ (m a1 2) < ((48 : Nat) : Int) then (if F78 (m (10 + (m a1 2).toNat) x2.toNat) m = 0 then (J85_76 f A a1 x2 m) else (if F47 A (m (A + 8) x2.toNat) (m a1 6) m = 0 then (J85_76 f A a1 x2 m) else (if 0 ≤ (m a1 3) ∧ (m a1 3) < ((48 : Nat) : Int) then (if 73 ≤ (F83 x2 (m a1 6)) ∧ (F83 x2 (m a1 6)) < 169 then (bU (F80_12_12 f A (10 + (m a1 3).toNat) (F83 x2 (m a1 6)) m) (fun m2365 => (J85_76 f A a1 x2 m2365))) else none) else none))) else none) else (some (.inr (.inl (x2, m)))))
set_option maxRecDepth 100000 in
theorem tB85_2 {L : Nat} {xs : Nat → Int32} {Q : xO → yM → Nat → Prop} {k d n : Nat} {c : yS3} {f : Nat} {A : Nat} {a1 : Nat} {x2 : Int} {m : yM} (hk : k ≤ f) (hc : c.2.1 = pX A) (hA : (A = 256 ∨ A = 316)) (hs1 : (276 ≤ a1 ∧ a1 < 316) ∨ (336 ≤ a1 ∧ a1 < 376)) (gx2 : rg x2) (hR : RM c m) (Hn : ∀ (y0 : Int) (m' : yM) (n' : Nat), B85_2 f A a1 x2 m = some (.inl (y0, m')) → rg y0 → RM c m' → ∀ k', k' < k → PW (gZ L xs) k' 85 d 2 [some (.ref 8), some (.ref a1), some (yI y0)] [] m' n' Q) (He : ∀ (y0 : Int) (m' : yM) (n' : Nat), B85_2 f A a1 x2 m = some (.inr (.inl (y0, m'))) → rg y0 → RM c m' → ∀ k', k' ≤ k → PW (gZ L xs) k' 85 d 82 [some (.ref 8), some (.ref a1), some (yI y0)] [] m' n' Q) (Hr : ∀ m', B85_2 f A a1 x2 m = some (.inr (.inr ((), m'))) → RM c m' → ∀ n', Q (.inl none) m' n') : PW (gZ L xs) k 85 d 2 [some (.ref 8), some (.ref a1), some (yI x2)] [] m n Q := by
  have hX : B85_2 f A a1 x2 m = B85_2 f A a1 x2 m := rfl
  refine p_iload 3 c85_2 rfl rfl ?_
  refine p_aload 4 c85_3 rfl rfl ?_
  refine p_getV 7 (.ref A) c85_4 rfl kf8_4 (pX_of hA hR.2.2.2.2.1 hc) ?_
  refine p_getX 10 (m A 14) c85_7 rfl (kP_14 hA) rfl ?_
  refine p_icmp 82 13 c85_10 rfl rfl ((yc_ge gx2 (hR.rg _ _)).trans Int.not_lt.symm) (fun hb2326 k2327 hk2327 => ?_) (fun hb2326 k2328 hk2328 => ?_)
  · have hX2329 := hX.trans (if_neg hb2326)
    exact He _ _ _ hX2329 gx2 hR _ (by omega)
  · have hX2330 := hX.trans (if_pos (Classical.not_not.mp hb2326))
    refine p_aload 14 c85_13 rfl rfl ?_
    refine p_aload 15 c85_14 rfl rfl ?_
    refine p_getR 18 c85_15 rfl kf8_0 ?_
    refine p_aload 19 c85_18 rfl rfl ?_
    refine p_getX 22 (m a1 2) c85_19 rfl (kS_2 hs1) rfl ?_
    refine p_aaX 23 c85_22 rfl kr9 (hR.rg _ _) (fun hx2331 => ?_)
    have hX2332 := hX2330.trans (if_pos hx2331)
    refine p_iload 24 c85_23 rfl rfl ?_
    refine p_iaX 25 (m (10 + (m a1 2).toNat) x2.toNat) c85_24 rfl (kR9 hx2331) gx2 rfl (fun hx2333 => ?_)
    refine p_cX 28 [.ref 8, yI (m (10 + (m a1 2).toNat) x2.toNat)] [] c85_25 rfl rfl rfl (fun k' hk' d' => d78 (hR.rg _ _) hR) (fun hg2336 n2335 k2334 hk2334 => ?_)
    refine p_if 76 31 c85_28 rfl rfl (yz_eq hg2336) (fun hb2337 k2338 hk2338 => ?_) (fun hb2337 k2339 hk2339 => ?_)
    · have hX2340 := hX2332.trans (if_pos hb2337)
      exact tJ85_76 (f := f) (by omega) hc hA hs1 gx2 hR (fun y0 m' n' e' h0 hR' k' hk' => Hn y0 m' n' (hX2340.trans e') h0 hR' k' (by omega)) (fun y0 m' n' e' h0 hR' k' hk' => He y0 m' n' (hX2340.trans e') h0 hR' k' (by omega)) (fun m' e' => Hr m' (hX2340.trans e'))
    · have hX2342 := hX2332.trans (if_neg hb2337)
      refine p_aload 32 c85_31 rfl rfl ?_
      refine p_getV 35 (.ref A) c85_32 rfl kf8_4 (pX_of hA hR.2.2.2.2.1 hc) ?_
      refine p_aload 36 c85_35 rfl rfl ?_
      refine p_getV 39 (.ref A) c85_36 rfl kf8_4 (pX_of hA hR.2.2.2.2.1 hc) ?_
      refine p_getR 42 c85_39 rfl (kP_7 hA) ?_
      refine p_iload 43 c85_42 rfl rfl ?_
      refine p_iaX 44 (m (A + 8) x2.toNat) c85_43 rfl (kPa_8 hA) gx2 rfl (fun hx2343 => ?_)
      refine p_aload 45 c85_44 rfl rfl ?_
      refine p_getX 48 (m a1 6) c85_45 rfl (kS_6 hs1) rfl ?_
      refine p_cX 51 [.ref A, yI (m (A + 8) x2.toNat), yI (m a1 6)] [] c85_48 rfl rfl rfl (fun k' hk' d' => d47 hA (hR.rg _ _) (hR.rg _ _) hR) (fun hg2346 n2345 k2344 hk2344 => ?_)
      refine p_if 76 54 c85_51 rfl rfl (yz_eq hg2346) (fun hb2347 k2348 hk2348 => ?_) (fun hb2347 k2349 hk2349 => ?_)
      · have hX2350 := hX2342.trans (if_pos hb2347)
        exact tJ85_76 (f := f) (by omega) hc hA hs1 gx2 hR (fun y0 m' n' e' h0 hR' k' hk' => Hn y0 m' n' (hX2350.trans e') h0 hR' k' (by omega)) (fun y0 m' n' e' h0 hR' k' hk' => He y0 m' n' (hX2350.trans e') h0 hR' k' (by omega)) (fun m' e' => Hr m' (hX2350.trans e'))
      · have hX2351 := hX2342.trans (if_neg hb2347)
        refine p_aload 55 c85_54 rfl rfl ?_
        refine p_aload 56 c85_55 rfl rfl ?_
        refine p_getR 59 c85_56 rfl kf8_0 ?_
        refine p_aload 60 c85_59 rfl rfl ?_
        refine p_getX 63 (m a1 3) c85_60 rfl (kS_3 hs1) rfl ?_
        refine p_aaX 64 c85_63 rfl kr9 (hR.rg _ _) (fun hx2352 => ?_)
        have hX2353 := hX2351.trans (if_pos hx2352)
        refine p_aload 65 c85_64 rfl rfl ?_
        refine p_iload 66 c85_65 rfl rfl ?_
        refine p_aload 67 c85_66 rfl rfl ?_
        refine p_getX 70 (m a1 6) c85_67 rfl (kS_6 hs1) rfl ?_
        refine p_cXR 73 [.ref 8, yI x2, yI (m a1 6)] [.ref (10 + (m a1 3).toNat), .ref 8] c85_70 rfl rfl rfl (fun k' hk' d' => d83 gx2 (hR.rg _ _) hR) (fun hg2357 n2355 k2354 hk2354 => ?_)
        have := hg2357.2
        have hX2358 := hX2353.trans (if_pos hg2357.2)
        refine p_cV 76 [.ref 8, .ref (10 + (m a1 3).toNat), .ref (F83 x2 (m a1 6))] [] c85_73 rfl rfl rfl (fun k' hk' d' => d80_12_12 (f := f) (by omega) hc hA (kR9 hx2352) (by omega) hg2357.1 (by omega) hR) (fun m2365 hF2361 hR2366 n2360 k2359 hk2359 => ?_)
        have hX2364 := hX2358.trans (bU_s hF2361)
        exact tJ85_76 (f := f) (by omega) hc hA hs1 gx2 hR2366 (fun y0 m' n' e' h0 hR' k' hk' => Hn y0 m' n' (hX2364.trans e') h0 hR' k' (by omega)) (fun y0 m' n' e' h0 hR' k' hk' => He y0 m' n' (hX2364.trans e') h0 hR' k' (by omega)) (fun m' e' => Hr m' (hX2364.trans e'))
def F85 (f : Nat) (A : Nat) (a1 : Nat) (m : yM) : Option yM := (bL (yloop (fun (l : Int) ml => B85_2 f A a1 l ml) f 0 m) (fun l2367 m2373 => (some m2373)) (fun _ mr => some mr))
set_option maxRecDepth 100000 in
theorem d85 {L : Nat} {xs : Nat → Int32} {k d n : Nat} {c : yS3} {f : Nat} {A : Nat} {a1 : Nat} {m : yM} (hk : k ≤ f) (hc : c.2.1 = pX A) (hA : (A = 256 ∨ A = 316)) (hs1 : (276 ≤ a1 ∧ a1 < 316) ∨ (336 ≤ a1 ∧ a1 < 376)) (hR : RM c m) : PC (gZ L xs) k d 85 [.ref 8, .ref a1] m n (qV c (F85 f A a1 m)) := by
  have hX : F85 f A a1 m = F85 f A a1 m := rfl
  have Hr : ∀ m', F85 f A a1 m = some m' → RM c m' → ∀ n' : Nat, (qV c (F85 f A a1 m)) (.inl none) m' n' := fun m' e h n' => ⟨rfl, h, e⟩
  refine PC.mk [some (.ref 8), some (.ref a1), none] kn85 rfl ?_
  refine p_iconst 1 c85_0 rfl ?_
  refine p_istore 2 c85_1 rfl rfl ?_
  refine PW.loop (K := k) (pce := 82) (fun (l : Int) ml => B85_2 f A a1 l ml) (fun (l : Int) j => [some (.ref 8), some (.ref a1), some (yI l)]) (fun (l : Int) => rg l) (RM c) (fun (r' : Unit) m' => RM c m' → ∀ n' : Nat, (qV c (F85 f A a1 m)) (.inl none) m' n') (fun k' hk' l j m' n' hl hI Hn' He' Hr' => tB85_2 (f := f) (by omega) hc hA hs1 hl hI (fun y0 m2 n2 e h0 hR2 => Hn' y0 (fun q => ([none, none, none] : List (Option Value)).getD q none) m2 n2 e h0 hR2) (fun y0 m2 n2 e h0 hR2 => He' y0 (fun q => ([none, none, none] : List (Option Value)).getD q none) m2 n2 e h0 hR2) (fun m2 e => Hr' () m2 e)) f k (by omega) (Nat.le_refl _) 0 (fun q => ([some (.ref 8), some (.ref a1), some (yI 0)] : xL).getD q none) _ _ (rgD rfl) hR (fun l2367 j2370 m2373 n2372 e2369 hl2368 hR2374 k2371 hk2371 => ?_) (fun r' m' e' => ?_)
  · have hX2375 := hX.trans (bL_l e2369)
    exact p_return c85_82 (Hr _ hX2375 hR2374 _)
  · exact Hr m' (hX.trans (bL_r e'))
def F79_10 (f : Nat) (a1 : Nat) (x2 : Int) (m : yM) : Option yM := (if m a1 x2.toNat = (-1) then (some (yup (yup m a1 x2.toNat (wr ((m 8 5) + 1))) 8 6 (wr ((m 8 5) + 1)))) else (some m))
set_option maxRecDepth 100000 in
theorem d79_10 {L : Nat} {xs : Nat → Int32} {k d n : Nat} {c : yS3} {f : Nat} {a1 : Nat} {x2 : Int} {m : yM} (hk : k ≤ f) (hr1 : yarr gSh 414 a1 = some (0, 10)) (hq1 : (10 ≤ a1 ∧ a1 < 72) ∨ (73 ≤ a1 ∧ a1 < 169)) (gx2 : rg x2) (hR : RM c m) : PC (gZ L xs) k d 79 [.ref 8, .ref a1, yI x2] m n (qV c (F79_10 f a1 x2 m)) := by
  have hX : F79_10 f a1 x2 m = F79_10 f a1 x2 m := rfl
  have Hr : ∀ m', F79_10 f a1 x2 m = some m' → RM c m' → ∀ n' : Nat, (qV c (F79_10 f a1 x2 m)) (.inl none) m' n' := fun m' e h n' => ⟨rfl, h, e⟩
  refine PC.mk [some (.ref 8), some (.ref a1), some (yI x2)] kn79 rfl ?_
  refine p_aload 1 c79_0 rfl rfl ?_
  refine p_iload 2 c79_1 rfl rfl ?_
  refine p_iaX 3 (m a1 x2.toNat) c79_2 rfl hr1 gx2 rfl (fun hx2420 => ?_)
  refine p_iconst 4 c79_3 rfl ?_
  refine p_icmp 26 7 c79_4 rfl rfl (yc_ne (hR.rg _ _) (rgD rfl)) (fun hb2421 k2422 hk2422 => ?_) (fun hb2421 k2423 hk2423 => ?_)
  · have hX2424 := hX.trans (if_neg hb2421)
    exact p_return c79_26 (Hr _ hX2424 hR _)
  · have hX2425 := hX.trans (if_pos (Classical.not_not.mp hb2421))
    refine p_aload 8 c79_7 rfl rfl ?_
    refine p_iload 9 c79_8 rfl rfl ?_
    refine p_aload 10 c79_9 rfl rfl ?_
    refine p_getX 13 (m 8 5) c79_10 rfl kf8_5 rfl ?_
    refine p_iconst 14 c79_13 rfl ?_
    refine p_iadd 15 c79_14 rfl ?_
    refine p_iaS 16 c79_15 rfl hr1 gx2 (wr ((m 8 5) + 1)) (nar0 (rg_wr _)) (fun hx2426 => ?_)
    have hR2427 := hR.up a1 x2.toNat (v := wr ((m 8 5) + 1)) (nselA (by omega)) (rg_wr _)
    refine p_aload 17 c79_16 rfl rfl ?_
    refine p_aload 18 c79_17 rfl rfl ?_
    refine p_getX 21 (m 8 5) c79_18 rfl kf8_5 (yup_na (by omega)) ?_
    refine p_iconst 22 c79_21 rfl ?_
    refine p_iadd 23 c79_22 rfl ?_
    refine p_putI 26 c79_23 rfl kf8_6 ?_
    have hR2428 := hR2427.up 8 6 (v := wr ((m 8 5) + 1)) (nselD rfl) (rg_wr _)
    exact p_return c79_26 (Hr _ hX2425 hR2428 _)
def J86_106 (f : Nat) (A : Nat) (a1 : Nat) (x2 : Int) (m : yM) : Option ((Int × yM) ⊕ ((Int × yM) ⊕ (Unit × yM))) := (some (.inl ((wr (x2 + 1)), m)))
set_option maxRecDepth 100000 in
theorem tJ86_106 {L : Nat} {xs : Nat → Int32} {Q : xO → yM → Nat → Prop} {k d n : Nat} {c : yS3} {f : Nat} {A : Nat} {a1 : Nat} {x2 : Int} {m : yM} {j3 : Option Value} (hk : k ≤ f) (hc : c.2.1 = pX A) (hA : (A = 256 ∨ A = 316)) (hs1 : (276 ≤ a1 ∧ a1 < 316) ∨ (336 ≤ a1 ∧ a1 < 376)) (gx2 : rg x2) (hR : RM c m) (Hn : ∀ (y0 : Int) (z0 : Option Value) (m' : yM) (n' : Nat), J86_106 f A a1 x2 m = some (.inl (y0, m')) → rg y0 → RM c m' → ∀ k', k' < k → PW (gZ L xs) k' 86 d 2 [some (.ref 8), some (.ref a1), some (yI y0), z0] [] m' n' Q) (He : ∀ (y0 : Int) (z0 : Option Value) (m' : yM) (n' : Nat), J86_106 f A a1 x2 m = some (.inr (.inl (y0, m'))) → rg y0 → RM c m' → ∀ k', k' ≤ k → PW (gZ L xs) k' 86 d 112 [some (.ref 8), some (.ref a1), some (yI y0), z0] [] m' n' Q) (Hr : ∀ m', J86_106 f A a1 x2 m = some (.inr (.inr ((), m'))) → RM c m' → ∀ n', Q (.inl none) m' n') : PW (gZ L xs) k 86 d 106 [some (.ref 8), some (.ref a1), some (yI x2), j3] [] m n Q := by
  have hX : J86_106 f A a1 x2 m = J86_106 f A a1 x2 m := rfl
  refine p_iinc 109 c86_106 rfl rfl rfl ?_
  refine p_gotoD 2 c86_109 rfl (fun k2402 hk2402 => ?_)
  exact Hn _ _ _ _ hX (rg_wr _) hR _ (by omega)
def B86_2 (f : Nat) (A : Nat) (a1 : Nat) (x2 : Int) (m : yM) : Option ((Int × yM) ⊕ ((Int × yM) ⊕ (Unit × yM))) := (if x2 < m A 14 then (if 0 ≤ (m a1 3) ∧ (m a1 3) < ((48 : Nat) : Int) then (if F78 (m (10 + (m a1 3).toNat) x2.toNat) m = 0 then (J86_106 f A a1 x2 m) else (bP (F72 f A (m (A + 8) x2.toNat) (m a1 4) (m a1 8) m) (fun r2409 => (if r2409 = (-1) then (J86_106 f A a1 x2 m) else (if 0 ≤ (m a1 6) ∧ (m a1 6) < ((12 : Nat) : Int) then (bU (F79_10 f (59 + (m a1 6).toNat) r2409 m) (fun m2433 => (bU (F79_10 f 71 r2409 m2433) (fun m2441 => (if 0 ≤ r2409 ∧ r2409 < ((10 : Nat) : Int) then (if 0 ≤ (F57 (A + 10 + (r2409).toNat) m2441) ∧ (F57 (A + 10 + (r2409).toNat) m2441) < ((48 : Nat) : Int) then (bU (F79_12 f (10 + (F57 (A + 10 + (r2409).toNat) m2441).toNat) x2 m2441) (fun m2456 => (J86_106 f A a1 x2 m2456))) else none) else none))))) else none))))) else none) else (some (.inr (.inl (x2, m)))))
set_option maxRecDepth 100000 in
theorem tB86_2 {L : Nat} {xs : Nat → Int32} {Q : xO → yM → Nat → Prop} {k d n : Nat} {c : yS3} {f : Nat} {A : Nat} {a1 : Nat} {x2 : Int} {m : yM} {j3 : Option Value} (hk : k ≤ f) (hc : c.2.1 = pX A) (hA : (A = 256 ∨ A = 316)) (hs1 : (276 ≤ a1 ∧ a1 < 316) ∨ (336 ≤ a1 ∧ a1 < 376)) (gx2 : rg x2) (hR : RM c m) (Hn : ∀ (y0 : Int) (z0 : Option Value) (m' : yM) (n' : Nat), B86_2 f A a1 x2 m = some (.inl (y0, m')) → rg y0 → RM c m' → ∀ k', k' < k → PW (gZ L xs) k' 86 d 2 [some (.ref 8), some (.ref a1), some (yI y0), z0] [] m' n' Q) (He : ∀ (y0 : Int) (z0 : Option Value) (m' : yM) (n' : Nat), B86_2 f A a1 x2 m = some (.inr (.inl (y0, m'))) → rg y0 → RM c m' → ∀ k', k' ≤ k → PW (gZ L xs) k' 86 d 112 [some (.ref 8), some (.ref a1), some (yI y0), z0] [] m' n' Q) (Hr : ∀ m', B86_2 f A a1 x2 m = some (.inr (.inr ((), m'))) → RM c m' → ∀ n', Q (.inl none) m' n') : PW (gZ L xs) k 86 d 2 [some (.ref 8), some (.ref a1), some (yI x2), j3] [] m n Q := by
  have hX : B86_2 f A a1 x2 m = B86_2 f A a1 x2 m := rfl
  refine p_iload 3 c86_2 rfl rfl ?_
  refine p_aload 4 c86_3 rfl rfl ?_
  refine p_getV 7 (.ref A) c86_4 rfl kf8_4 (pX_of hA hR.2.2.2.2.1 hc) ?_
  refine p_getX 10 (m A 14) c86_7 rfl (kP_14 hA) rfl ?_
  refine p_icmp 112 13 c86_10 rfl rfl ((yc_ge gx2 (hR.rg _ _)).trans Int.not_lt.symm) (fun hb2387 k2388 hk2388 => ?_) (fun hb2387 k2389 hk2389 => ?_)
  · have hX2390 := hX.trans (if_neg hb2387)
    exact He _ _ _ _ hX2390 gx2 hR _ (by omega)
  · have hX2391 := hX.trans (if_pos (Classical.not_not.mp hb2387))
    refine p_aload 14 c86_13 rfl rfl ?_
    refine p_aload 15 c86_14 rfl rfl ?_
    refine p_getR 18 c86_15 rfl kf8_0 ?_
    refine p_aload 19 c86_18 rfl rfl ?_
    refine p_getX 22 (m a1 3) c86_19 rfl (kS_3 hs1) rfl ?_
    refine p_aaX 23 c86_22 rfl kr9 (hR.rg _ _) (fun hx2392 => ?_)
    have hX2393 := hX2391.trans (if_pos hx2392)
    refine p_iload 24 c86_23 rfl rfl ?_
    refine p_iaX 25 (m (10 + (m a1 3).toNat) x2.toNat) c86_24 rfl (kR9 hx2392) gx2 rfl (fun hx2394 => ?_)
    refine p_cX 28 [.ref 8, yI (m (10 + (m a1 3).toNat) x2.toNat)] [] c86_25 rfl rfl rfl (fun k' hk' d' => d78 (hR.rg _ _) hR) (fun hg2397 n2396 k2395 hk2395 => ?_)
    refine p_if 106 31 c86_28 rfl rfl (yz_eq hg2397) (fun hb2398 k2399 hk2399 => ?_) (fun hb2398 k2400 hk2400 => ?_)
    · have hX2401 := hX2393.trans (if_pos hb2398)
      exact tJ86_106 (f := f) (by omega) hc hA hs1 gx2 hR (fun y0 y1 m' n' e' h0 hR' k' hk' => Hn y0 y1 m' n' (hX2401.trans e') h0 hR' k' (by omega)) (fun y0 y1 m' n' e' h0 hR' k' hk' => He y0 y1 m' n' (hX2401.trans e') h0 hR' k' (by omega)) (fun m' e' => Hr m' (hX2401.trans e'))
    · have hX2403 := hX2393.trans (if_neg hb2398)
      refine p_aload 32 c86_31 rfl rfl ?_
      refine p_getV 35 (.ref A) c86_32 rfl kf8_4 (pX_of hA hR.2.2.2.2.1 hc) ?_
      refine p_aload 36 c86_35 rfl rfl ?_
      refine p_getV 39 (.ref A) c86_36 rfl kf8_4 (pX_of hA hR.2.2.2.2.1 hc) ?_
      refine p_getR 42 c86_39 rfl (kP_7 hA) ?_
      refine p_iload 43 c86_42 rfl rfl ?_
      refine p_iaX 44 (m (A + 8) x2.toNat) c86_43 rfl (kPa_8 hA) gx2 rfl (fun hx2404 => ?_)
      refine p_aload 45 c86_44 rfl rfl ?_
      refine p_getX 48 (m a1 4) c86_45 rfl (kS_4 hs1) rfl ?_
      refine p_aload 49 c86_48 rfl rfl ?_
      refine p_getX 52 (m a1 8) c86_49 rfl (kS_8 hs1) rfl ?_
      refine p_cO 55 [.ref A, yI (m (A + 8) x2.toNat), yI (m a1 4), yI (m a1 8)] [] c86_52 rfl rfl rfl (fun k' hk' d' => d72 (f := f) (by omega) hA (hR.rg _ _) (hR.rg _ _) (hR.rg _ _) hR) (fun r2409 hF2407 hg2408 n2406 k2405 hk2405 => ?_)
      have hX2410 := hX2403.trans (bP_s hF2407)
      refine p_istore 56 c86_55 rfl rfl ?_
      refine p_iload 57 c86_56 rfl rfl ?_
      refine p_iconst 58 c86_57 rfl ?_
      refine p_icmp 106 61 c86_58 rfl rfl (yc_eq hg2408 (rgD rfl)) (fun hb2411 k2412 hk2412 => ?_) (fun hb2411 k2413 hk2413 => ?_)
      · have hX2414 := hX2410.trans (if_pos hb2411)
        exact tJ86_106 (f := f) (by omega) hc hA hs1 gx2 hR (fun y0 y1 m' n' e' h0 hR' k' hk' => Hn y0 y1 m' n' (hX2414.trans e') h0 hR' k' (by omega)) (fun y0 y1 m' n' e' h0 hR' k' hk' => He y0 y1 m' n' (hX2414.trans e') h0 hR' k' (by omega)) (fun m' e' => Hr m' (hX2414.trans e'))
      · have hX2415 := hX2410.trans (if_neg hb2411)
        refine p_aload 62 c86_61 rfl rfl ?_
        refine p_aload 63 c86_62 rfl rfl ?_
        refine p_getR 66 c86_63 rfl kf8_1 ?_
        refine p_aload 67 c86_66 rfl rfl ?_
        refine p_getX 70 (m a1 6) c86_67 rfl (kS_6 hs1) rfl ?_
        refine p_aaX 71 c86_70 rfl kr58 (hR.rg _ _) (fun hx2416 => ?_)
        have hX2417 := hX2415.trans (if_pos hx2416)
        refine p_iload 72 c86_71 rfl rfl ?_
        refine p_cV 75 [.ref 8, .ref (59 + (m a1 6).toNat), yI r2409] [] c86_72 rfl rfl rfl (fun k' hk' d' => d79_10 (f := f) (by omega) (kR58 hx2416) (by omega) hg2408 hR) (fun m2433 hF2429 hR2434 n2419 k2418 hk2418 => ?_)
        have hX2432 := hX2417.trans (bU_s hF2429)
        refine p_aload 76 c86_75 rfl rfl ?_
        refine p_aload 77 c86_76 rfl rfl ?_
        refine p_getR 80 c86_77 rfl kf8_2 ?_
        refine p_iload 81 c86_80 rfl rfl ?_
        refine p_cV 84 [.ref 8, .ref 71, yI r2409] [] c86_81 rfl rfl rfl (fun k' hk' d' => d79_10 (f := f) (by omega) ka71 (by omega) hg2408 hR2434) (fun m2441 hF2437 hR2442 n2436 k2435 hk2435 => ?_)
        have hX2440 := hX2432.trans (bU_s hF2437)
        refine p_aload 85 c86_84 rfl rfl ?_
        refine p_aload 86 c86_85 rfl rfl ?_
        refine p_getR 89 c86_86 rfl kf8_0 ?_
        refine p_aload 90 c86_89 rfl rfl ?_
        refine p_getV 93 (.ref A) c86_90 rfl kf8_4 (pX_of hA hR2442.2.2.2.2.1 hc) ?_
        refine p_getR 96 c86_93 rfl (kP_5 hA) ?_
        refine p_iload 97 c86_96 rfl rfl ?_
        refine p_aaX 98 c86_97 rfl (kPr_6 hA) hg2408 (fun hx2443 => ?_)
        have hX2444 := hX2440.trans (if_pos hx2443)
        refine p_cX 101 [.ref (A + 10 + (r2409).toNat)] [.ref 9, .ref 8] c86_98 rfl rfl rfl (fun k' hk' d' => d57 (kMr hA hx2443) hR2442) (fun hg2447 n2446 k2445 hk2445 => ?_)
        refine p_aaX 102 c86_101 rfl kr9 hg2447 (fun hx2448 => ?_)
        have hX2449 := hX2444.trans (if_pos hx2448)
        refine p_iload 103 c86_102 rfl rfl ?_
        refine p_cV 106 [.ref 8, .ref (10 + (F57 (A + 10 + (r2409).toNat) m2441).toNat), yI x2] [] c86_103 rfl rfl rfl (fun k' hk' d' => d79_12 (f := f) (by omega) (kR9 hx2448) (by omega) gx2 hR2442) (fun m2456 hF2452 hR2457 n2451 k2450 hk2450 => ?_)
        have hX2455 := hX2449.trans (bU_s hF2452)
        exact tJ86_106 (f := f) (by omega) hc hA hs1 gx2 hR2457 (fun y0 y1 m' n' e' h0 hR' k' hk' => Hn y0 y1 m' n' (hX2455.trans e') h0 hR' k' (by omega)) (fun y0 y1 m' n' e' h0 hR' k' hk' => He y0 y1 m' n' (hX2455.trans e') h0 hR' k' (by omega)) (fun m' e' => Hr m' (hX2455.trans e'))
def F86 (f : Nat) (A : Nat) (a1 : Nat) (m : yM) : Option yM := (bL (yloop (fun (l : Int) ml => B86_2 f A a1 l ml) f 0 m) (fun l2458 m2464 => (some m2464)) (fun _ mr => some mr))
set_option maxRecDepth 100000 in
theorem d86 {L : Nat} {xs : Nat → Int32} {k d n : Nat} {c : yS3} {f : Nat} {A : Nat} {a1 : Nat} {m : yM} (hk : k ≤ f) (hc : c.2.1 = pX A) (hA : (A = 256 ∨ A = 316)) (hs1 : (276 ≤ a1 ∧ a1 < 316) ∨ (336 ≤ a1 ∧ a1 < 376)) (hR : RM c m) : PC (gZ L xs) k d 86 [.ref 8, .ref a1] m n (qV c (F86 f A a1 m)) := by
  have hX : F86 f A a1 m = F86 f A a1 m := rfl
  have Hr : ∀ m', F86 f A a1 m = some m' → RM c m' → ∀ n' : Nat, (qV c (F86 f A a1 m)) (.inl none) m' n' := fun m' e h n' => ⟨rfl, h, e⟩
  refine PC.mk [some (.ref 8), some (.ref a1), none, none] kn86 rfl ?_
  refine p_iconst 1 c86_0 rfl ?_
  refine p_istore 2 c86_1 rfl rfl ?_
  refine PW.loop (K := k) (pce := 112) (fun (l : Int) ml => B86_2 f A a1 l ml) (fun (l : Int) j => [some (.ref 8), some (.ref a1), some (yI l), j 3]) (fun (l : Int) => rg l) (RM c) (fun (r' : Unit) m' => RM c m' → ∀ n' : Nat, (qV c (F86 f A a1 m)) (.inl none) m' n') (fun k' hk' l j m' n' hl hI Hn' He' Hr' => tB86_2 (f := f) (by omega) hc hA hs1 hl hI (fun y0 y1 m2 n2 e h0 hR2 => Hn' y0 (fun q => ([none, none, none, y1] : List (Option Value)).getD q none) m2 n2 e h0 hR2) (fun y0 y1 m2 n2 e h0 hR2 => He' y0 (fun q => ([none, none, none, y1] : List (Option Value)).getD q none) m2 n2 e h0 hR2) (fun m2 e => Hr' () m2 e)) f k (by omega) (Nat.le_refl _) 0 (fun q => ([some (.ref 8), some (.ref a1), some (yI 0), none] : xL).getD q none) _ _ (rgD rfl) hR (fun l2458 j2461 m2464 n2463 e2460 hl2459 hR2465 k2462 hk2462 => ?_) (fun r' m' e' => ?_)
  · have hX2466 := hX.trans (bL_l e2460)
    exact p_return c86_112 (Hr _ hX2466 hR2465 _)
  · exact Hr m' (hX.trans (bL_r e'))
def F87 (a0 : Nat) (x1 : Int) (m : yM) : Int := (if x1 < m a0 3 then (wr ((wr ((m a0 2) + 2)) + x1)) else ((-1)))
set_option maxRecDepth 100000 in
theorem d87 {L : Nat} {xs : Nat → Int32} {k d n : Nat} {c : yS3} {a0 : Nat} {x1 : Int} {m : yM} (hm0 : (266 ≤ a0 ∧ a0 < 276) ∨ (326 ≤ a0 ∧ a0 < 336)) (gx1 : rg x1) (hR : RM c m) : PC (gZ L xs) k d 87 [.ref a0, yI x1] m n (qX m (F87 a0 x1 m)) := by
  have hX : F87 a0 x1 m = F87 a0 x1 m := rfl
  have Hr : ∀ r, F87 a0 x1 m = r → rg r → ∀ n' : Nat, (qX m (F87 a0 x1 m)) (.inl (some (yI r))) m n' := fun r e h n' => by subst e; exact ⟨rfl, h, rfl⟩
  refine PC.mk [some (.ref a0), some (yI x1)] kn87 rfl ?_
  refine p_iload 1 c87_0 rfl rfl ?_
  refine p_aload 2 c87_1 rfl rfl ?_
  refine p_getX 5 (m a0 3) c87_2 rfl (kM_3 hm0) rfl ?_
  refine p_icmp 19 8 c87_5 rfl rfl ((yc_ge gx1 (hR.rg _ _)).trans Int.not_lt.symm) (fun hb2526 k2527 hk2527 => ?_) (fun hb2526 k2528 hk2528 => ?_)
  · have hX2529 := hX.trans (if_neg hb2526)
    refine p_iconst 20 c87_19 rfl ?_
    exact p_ireturn c87_20 (Hr _ hX2529 (rgD rfl) _)
  · have hX2530 := hX.trans (if_pos (Classical.not_not.mp hb2526))
    refine p_aload 9 c87_8 rfl rfl ?_
    refine p_getX 12 (m a0 2) c87_9 rfl (kM_2 hm0) rfl ?_
    refine p_iconst 13 c87_12 rfl ?_
    refine p_iadd 14 c87_13 rfl ?_
    refine p_iload 15 c87_14 rfl rfl ?_
    refine p_iadd 16 c87_15 rfl ?_
    refine p_goto 20 c87_16 rfl ?_
    exact p_ireturn c87_20 (Hr _ hX2530 (rg_wr _) _)
def J88_61 (f : Nat) (A : Nat) (a1 : Nat) (a2 : Nat) (m : yM) : Option yM := (if m a1 2 = (-1) then (some m) else (if 0 ≤ (m a2 2) ∧ (m a2 2) < ((48 : Nat) : Int) then (if 0 ≤ (m a1 2) ∧ (m a1 2) < ((48 : Nat) : Int) then (bU (F80_12_12 f A (10 + (m a2 2).toNat) (10 + (m a1 2).toNat) m) (fun m2519 => (some m2519))) else none) else none))
set_option maxRecDepth 100000 in
theorem tJ88_61 {L : Nat} {xs : Nat → Int32} {Q : xO → yM → Nat → Prop} {k d n : Nat} {c : yS3} {f : Nat} {A : Nat} {a1 : Nat} {a2 : Nat} {m : yM} (hk : k ≤ f) (hc : c.2.1 = pX A) (hA : (A = 256 ∨ A = 316)) (hs1 : (276 ≤ a1 ∧ a1 < 316) ∨ (336 ≤ a1 ∧ a1 < 376)) (hm2 : (266 ≤ a2 ∧ a2 < 276) ∨ (326 ≤ a2 ∧ a2 < 336)) (hR : RM c m) (Hr : ∀ m', J88_61 f A a1 a2 m = some m' → RM c m' → ∀ n', Q (.inl none) m' n') : PW (gZ L xs) k 88 d 61 [some (.ref 8), some (.ref a1), some (.ref a2)] [] m n Q := by
  have hX : J88_61 f A a1 a2 m = J88_61 f A a1 a2 m := rfl
  refine p_aload 62 c88_61 rfl rfl ?_
  refine p_getX 65 (m a1 2) c88_62 rfl (kS_2 hs1) rfl ?_
  refine p_iconst 66 c88_65 rfl ?_
  refine p_icmp 91 69 c88_66 rfl rfl (yc_eq (hR.rg _ _) (rgD rfl)) (fun hb2504 k2505 hk2505 => ?_) (fun hb2504 k2506 hk2506 => ?_)
  · have hX2507 := hX.trans (if_pos hb2504)
    exact p_return c88_91 (Hr _ hX2507 hR _)
  · have hX2508 := hX.trans (if_neg hb2504)
    refine p_aload 70 c88_69 rfl rfl ?_
    refine p_aload 71 c88_70 rfl rfl ?_
    refine p_getR 74 c88_71 rfl kf8_0 ?_
    refine p_aload 75 c88_74 rfl rfl ?_
    refine p_getX 78 (m a2 2) c88_75 rfl (kM_2 hm2) rfl ?_
    refine p_aaX 79 c88_78 rfl kr9 (hR.rg _ _) (fun hx2509 => ?_)
    have hX2510 := hX2508.trans (if_pos hx2509)
    refine p_aload 80 c88_79 rfl rfl ?_
    refine p_getR 83 c88_80 rfl kf8_0 ?_
    refine p_aload 84 c88_83 rfl rfl ?_
    refine p_getX 87 (m a1 2) c88_84 rfl (kS_2 hs1) rfl ?_
    refine p_aaX 88 c88_87 rfl kr9 (hR.rg _ _) (fun hx2511 => ?_)
    have hX2512 := hX2510.trans (if_pos hx2511)
    refine p_cV 91 [.ref 8, .ref (10 + (m a2 2).toNat), .ref (10 + (m a1 2).toNat)] [] c88_88 rfl rfl rfl (fun k' hk' d' => d80_12_12 (f := f) (by omega) hc hA (kR9 hx2509) (by omega) (kR9 hx2511) (by omega) hR) (fun m2519 hF2515 hR2520 n2514 k2513 hk2513 => ?_)
    have hX2518 := hX2512.trans (bU_s hF2515)
    exact p_return c88_91 (Hr _ hX2518 hR2520 _)
def J88_30 (f : Nat) (A : Nat) (a1 : Nat) (a2 : Nat) (m : yM) : Option yM := (if 1 < m a1 8 then (if 0 ≤ (m a1 10) ∧ (m a1 10) < ((48 : Nat) : Int) then (if 0 ≤ (F87 a2 1 m) ∧ (F87 a2 1 m) < ((48 : Nat) : Int) then (bU (F80_12_12 f A (10 + (m a1 10).toNat) (10 + (F87 a2 1 m).toNat) m) (fun m2540 => (J88_61 f A a1 a2 m2540))) else none) else none) else (J88_61 f A a1 a2 m))
set_option maxRecDepth 100000 in
theorem tJ88_30 {L : Nat} {xs : Nat → Int32} {Q : xO → yM → Nat → Prop} {k d n : Nat} {c : yS3} {f : Nat} {A : Nat} {a1 : Nat} {a2 : Nat} {m : yM} (hk : k ≤ f) (hc : c.2.1 = pX A) (hA : (A = 256 ∨ A = 316)) (hs1 : (276 ≤ a1 ∧ a1 < 316) ∨ (336 ≤ a1 ∧ a1 < 376)) (hm2 : (266 ≤ a2 ∧ a2 < 276) ∨ (326 ≤ a2 ∧ a2 < 336)) (hR : RM c m) (Hr : ∀ m', J88_30 f A a1 a2 m = some m' → RM c m' → ∀ n', Q (.inl none) m' n') : PW (gZ L xs) k 88 d 30 [some (.ref 8), some (.ref a1), some (.ref a2)] [] m n Q := by
  have hX : J88_30 f A a1 a2 m = J88_30 f A a1 a2 m := rfl
  refine p_aload 31 c88_30 rfl rfl ?_
  refine p_getX 34 (m a1 8) c88_31 rfl (kS_8 hs1) rfl ?_
  refine p_iconst 35 c88_34 rfl ?_
  refine p_icmp 61 38 c88_35 rfl rfl ((yc_le (hR.rg _ _) (rgD rfl)).trans Int.not_lt.symm) (fun hb2500 k2501 hk2501 => ?_) (fun hb2500 k2502 hk2502 => ?_)
  · have hX2503 := hX.trans (if_neg hb2500)
    exact tJ88_61 (f := f) (by omega) hc hA hs1 hm2 hR (fun m' e' => Hr m' (hX2503.trans e'))
  · have hX2521 := hX.trans (if_pos (Classical.not_not.mp hb2500))
    refine p_aload 39 c88_38 rfl rfl ?_
    refine p_aload 40 c88_39 rfl rfl ?_
    refine p_getR 43 c88_40 rfl kf8_0 ?_
    refine p_aload 44 c88_43 rfl rfl ?_
    refine p_getX 47 (m a1 10) c88_44 rfl (kS_10 hs1) rfl ?_
    refine p_aaX 48 c88_47 rfl kr9 (hR.rg _ _) (fun hx2522 => ?_)
    have hX2523 := hX2521.trans (if_pos hx2522)
    refine p_aload 49 c88_48 rfl rfl ?_
    refine p_getR 52 c88_49 rfl kf8_0 ?_
    refine p_aload 53 c88_52 rfl rfl ?_
    refine p_iconst 54 c88_53 rfl ?_
    refine p_cX 57 [.ref a2, yI 1] [.ref 9, .ref (10 + (m a1 10).toNat), .ref 8] c88_54 rfl rfl rfl (fun k' hk' d' => d87 hm2 (rgD rfl) hR) (fun hg2531 n2525 k2524 hk2524 => ?_)
    refine p_aaX 58 c88_57 rfl kr9 hg2531 (fun hx2532 => ?_)
    have hX2533 := hX2523.trans (if_pos hx2532)
    refine p_cV 61 [.ref 8, .ref (10 + (m a1 10).toNat), .ref (10 + (F87 a2 1 m).toNat)] [] c88_58 rfl rfl rfl (fun k' hk' d' => d80_12_12 (f := f) (by omega) hc hA (kR9 hx2522) (by omega) (kR9 hx2532) (by omega) hR) (fun m2540 hF2536 hR2541 n2535 k2534 hk2534 => ?_)
    have hX2539 := hX2533.trans (bU_s hF2536)
    exact tJ88_61 (f := f) (by omega) hc hA hs1 hm2 hR2541 (fun m' e' => Hr m' (hX2539.trans e'))
def F88 (f : Nat) (A : Nat) (a1 : Nat) (a2 : Nat) (m : yM) : Option yM := (if 0 < m a1 8 then (if 0 ≤ (m a1 9) ∧ (m a1 9) < ((48 : Nat) : Int) then (if 0 ≤ (F87 a2 0 m) ∧ (F87 a2 0 m) < ((48 : Nat) : Int) then (bU (F80_12_12 f A (10 + (m a1 9).toNat) (10 + (F87 a2 0 m).toNat) m) (fun m2556 => (J88_30 f A a1 a2 m2556))) else none) else none) else (J88_30 f A a1 a2 m))
set_option maxRecDepth 100000 in
theorem d88 {L : Nat} {xs : Nat → Int32} {k d n : Nat} {c : yS3} {f : Nat} {A : Nat} {a1 : Nat} {a2 : Nat} {m : yM} (hk : k ≤ f) (hc : c.2.1 = pX A) (hA : (A = 256 ∨ A = 316)) (hs1 : (276 ≤ a1 ∧ a1 < 316) ∨ (336 ≤ a1 ∧ a1 < 376)) (hm2 : (266 ≤ a2 ∧ a2 < 276) ∨ (326 ≤ a2 ∧ a2 < 336)) (hR : RM c m) : PC (gZ L xs) k d 88 [.ref 8, .ref a1, .ref a2] m n (qV c (F88 f A a1 a2 m)) := by
  have hX : F88 f A a1 a2 m = F88 f A a1 a2 m := rfl
  have Hr : ∀ m', F88 f A a1 a2 m = some m' → RM c m' → ∀ n' : Nat, (qV c (F88 f A a1 a2 m)) (.inl none) m' n' := fun m' e h n' => ⟨rfl, h, e⟩
  refine PC.mk [some (.ref 8), some (.ref a1), some (.ref a2)] kn88 rfl ?_
  refine p_aload 1 c88_0 rfl rfl ?_
  refine p_getX 4 (m a1 8) c88_1 rfl (kS_8 hs1) rfl ?_
  refine p_if 30 7 c88_4 rfl rfl ((yz_le (hR.rg _ _)).trans Int.not_lt.symm) (fun hb2496 k2497 hk2497 => ?_) (fun hb2496 k2498 hk2498 => ?_)
  · have hX2499 := hX.trans (if_neg hb2496)
    exact tJ88_30 (f := f) (by omega) hc hA hs1 hm2 hR (fun m' e' => Hr m' (hX2499.trans e'))
  · have hX2542 := hX.trans (if_pos (Classical.not_not.mp hb2496))
    refine p_aload 8 c88_7 rfl rfl ?_
    refine p_aload 9 c88_8 rfl rfl ?_
    refine p_getR 12 c88_9 rfl kf8_0 ?_
    refine p_aload 13 c88_12 rfl rfl ?_
    refine p_getX 16 (m a1 9) c88_13 rfl (kS_9 hs1) rfl ?_
    refine p_aaX 17 c88_16 rfl kr9 (hR.rg _ _) (fun hx2543 => ?_)
    have hX2544 := hX2542.trans (if_pos hx2543)
    refine p_aload 18 c88_17 rfl rfl ?_
    refine p_getR 21 c88_18 rfl kf8_0 ?_
    refine p_aload 22 c88_21 rfl rfl ?_
    refine p_iconst 23 c88_22 rfl ?_
    refine p_cX 26 [.ref a2, yI 0] [.ref 9, .ref (10 + (m a1 9).toNat), .ref 8] c88_23 rfl rfl rfl (fun k' hk' d' => d87 hm2 (rgD rfl) hR) (fun hg2547 n2546 k2545 hk2545 => ?_)
    refine p_aaX 27 c88_26 rfl kr9 hg2547 (fun hx2548 => ?_)
    have hX2549 := hX2544.trans (if_pos hx2548)
    refine p_cV 30 [.ref 8, .ref (10 + (m a1 9).toNat), .ref (10 + (F87 a2 0 m).toNat)] [] c88_27 rfl rfl rfl (fun k' hk' d' => d80_12_12 (f := f) (by omega) hc hA (kR9 hx2543) (by omega) (kR9 hx2548) (by omega) hR) (fun m2556 hF2552 hR2557 n2551 k2550 hk2550 => ?_)
    have hX2555 := hX2549.trans (bU_s hF2552)
    exact tJ88_30 (f := f) (by omega) hc hA hs1 hm2 hR2557 (fun m' e' => Hr m' (hX2555.trans e'))
def J89_45 (f : Nat) (A : Nat) (a1 : Nat) (x2 : Int) (m : yM) : Option ((Int × yM) ⊕ ((Int × yM) ⊕ (Unit × yM))) := (some (.inl ((wr (x2 + 1)), m)))
set_option maxRecDepth 100000 in
theorem tJ89_45 {L : Nat} {xs : Nat → Int32} {Q : xO → yM → Nat → Prop} {k d n : Nat} {c : yS3} {f : Nat} {A : Nat} {a1 : Nat} {x2 : Int} {m : yM} (hk : k ≤ f) (hc : c.2.1 = pX A) (hA : (A = 256 ∨ A = 316)) (hs1 : (276 ≤ a1 ∧ a1 < 316) ∨ (336 ≤ a1 ∧ a1 < 376)) (gx2 : rg x2) (hR : RM c m) (Hn : ∀ (y0 : Int) (m' : yM) (n' : Nat), J89_45 f A a1 x2 m = some (.inl (y0, m')) → rg y0 → RM c m' → ∀ k', k' < k → PW (gZ L xs) k' 89 d 2 [some (.ref 8), some (.ref a1), some (yI y0)] [] m' n' Q) (He : ∀ (y0 : Int) (m' : yM) (n' : Nat), J89_45 f A a1 x2 m = some (.inr (.inl (y0, m'))) → rg y0 → RM c m' → ∀ k', k' ≤ k → PW (gZ L xs) k' 89 d 51 [some (.ref 8), some (.ref a1), some (yI y0)] [] m' n' Q) (Hr : ∀ m', J89_45 f A a1 x2 m = some (.inr (.inr ((), m'))) → RM c m' → ∀ n', Q (.inl none) m' n') : PW (gZ L xs) k 89 d 45 [some (.ref 8), some (.ref a1), some (yI x2)] [] m n Q := by
  have hX : J89_45 f A a1 x2 m = J89_45 f A a1 x2 m := rfl
  refine p_iinc 48 c89_45 rfl rfl rfl ?_
  refine p_gotoD 2 c89_48 rfl (fun k2490 hk2490 => ?_)
  exact Hn _ _ _ hX (rg_wr _) hR _ (by omega)
def B89_2 (f : Nat) (A : Nat) (a1 : Nat) (x2 : Int) (m : yM) : Option ((Int × yM) ⊕ ((Int × yM) ⊕ (Unit × yM))) := (if x2 < m A 10 then (if 0 ≤ (m a1 6) ∧ (m a1 6) < ((12 : Nat) : Int) then (if F78 (m (59 + (m a1 6).toNat) x2.toNat) m = 0 then (J89_45 f A a1 x2 m) else (if 0 ≤ x2 ∧ x2 < ((10 : Nat) : Int) then (bU (F88 f A a1 (A + 10 + (x2).toNat) m) (fun m2562 => (J89_45 f A a1 x2 m2562))) else none)) else none) else (some (.inr (.inl (x2, m)))))
set_option maxRecDepth 100000 in
theorem tB89_2 {L : Nat} {xs : Nat → Int32} {Q : xO → yM → Nat → Prop} {k d n : Nat} {c : yS3} {f : Nat} {A : Nat} {a1 : Nat} {x2 : Int} {m : yM} (hk : k ≤ f) (hc : c.2.1 = pX A) (hA : (A = 256 ∨ A = 316)) (hs1 : (276 ≤ a1 ∧ a1 < 316) ∨ (336 ≤ a1 ∧ a1 < 376)) (gx2 : rg x2) (hR : RM c m) (Hn : ∀ (y0 : Int) (m' : yM) (n' : Nat), B89_2 f A a1 x2 m = some (.inl (y0, m')) → rg y0 → RM c m' → ∀ k', k' < k → PW (gZ L xs) k' 89 d 2 [some (.ref 8), some (.ref a1), some (yI y0)] [] m' n' Q) (He : ∀ (y0 : Int) (m' : yM) (n' : Nat), B89_2 f A a1 x2 m = some (.inr (.inl (y0, m'))) → rg y0 → RM c m' → ∀ k', k' ≤ k → PW (gZ L xs) k' 89 d 51 [some (.ref 8), some (.ref a1), some (yI y0)] [] m' n' Q) (Hr : ∀ m', B89_2 f A a1 x2 m = some (.inr (.inr ((), m'))) → RM c m' → ∀ n', Q (.inl none) m' n') : PW (gZ L xs) k 89 d 2 [some (.ref 8), some (.ref a1), some (yI x2)] [] m n Q := by
  have hX : B89_2 f A a1 x2 m = B89_2 f A a1 x2 m := rfl
  refine p_iload 3 c89_2 rfl rfl ?_
  refine p_aload 4 c89_3 rfl rfl ?_
  refine p_getV 7 (.ref A) c89_4 rfl kf8_4 (pX_of hA hR.2.2.2.2.1 hc) ?_
  refine p_getX 10 (m A 10) c89_7 rfl (kP_10 hA) rfl ?_
  refine p_icmp 51 13 c89_10 rfl rfl ((yc_ge gx2 (hR.rg _ _)).trans Int.not_lt.symm) (fun hb2475 k2476 hk2476 => ?_) (fun hb2475 k2477 hk2477 => ?_)
  · have hX2478 := hX.trans (if_neg hb2475)
    exact He _ _ _ hX2478 gx2 hR _ (by omega)
  · have hX2479 := hX.trans (if_pos (Classical.not_not.mp hb2475))
    refine p_aload 14 c89_13 rfl rfl ?_
    refine p_aload 15 c89_14 rfl rfl ?_
    refine p_getR 18 c89_15 rfl kf8_1 ?_
    refine p_aload 19 c89_18 rfl rfl ?_
    refine p_getX 22 (m a1 6) c89_19 rfl (kS_6 hs1) rfl ?_
    refine p_aaX 23 c89_22 rfl kr58 (hR.rg _ _) (fun hx2480 => ?_)
    have hX2481 := hX2479.trans (if_pos hx2480)
    refine p_iload 24 c89_23 rfl rfl ?_
    refine p_iaX 25 (m (59 + (m a1 6).toNat) x2.toNat) c89_24 rfl (kR58 hx2480) gx2 rfl (fun hx2482 => ?_)
    refine p_cX 28 [.ref 8, yI (m (59 + (m a1 6).toNat) x2.toNat)] [] c89_25 rfl rfl rfl (fun k' hk' d' => d78 (hR.rg _ _) hR) (fun hg2485 n2484 k2483 hk2483 => ?_)
    refine p_if 45 31 c89_28 rfl rfl (yz_eq hg2485) (fun hb2486 k2487 hk2487 => ?_) (fun hb2486 k2488 hk2488 => ?_)
    · have hX2489 := hX2481.trans (if_pos hb2486)
      exact tJ89_45 (f := f) (by omega) hc hA hs1 gx2 hR (fun y0 m' n' e' h0 hR' k' hk' => Hn y0 m' n' (hX2489.trans e') h0 hR' k' (by omega)) (fun y0 m' n' e' h0 hR' k' hk' => He y0 m' n' (hX2489.trans e') h0 hR' k' (by omega)) (fun m' e' => Hr m' (hX2489.trans e'))
    · have hX2491 := hX2481.trans (if_neg hb2486)
      refine p_aload 32 c89_31 rfl rfl ?_
      refine p_aload 33 c89_32 rfl rfl ?_
      refine p_aload 34 c89_33 rfl rfl ?_
      refine p_getV 37 (.ref A) c89_34 rfl kf8_4 (pX_of hA hR.2.2.2.2.1 hc) ?_
      refine p_getR 40 c89_37 rfl (kP_5 hA) ?_
      refine p_iload 41 c89_40 rfl rfl ?_
      refine p_aaX 42 c89_41 rfl (kPr_6 hA) gx2 (fun hx2492 => ?_)
      have hX2493 := hX2491.trans (if_pos hx2492)
      refine p_cV 45 [.ref 8, .ref a1, .ref (A + 10 + (x2).toNat)] [] c89_42 rfl rfl rfl (fun k' hk' d' => d88 (f := f) (by omega) hc hA hs1 (kMr hA hx2492) hR) (fun m2562 hF2558 hR2563 n2495 k2494 hk2494 => ?_)
      have hX2561 := hX2493.trans (bU_s hF2558)
      exact tJ89_45 (f := f) (by omega) hc hA hs1 gx2 hR2563 (fun y0 m' n' e' h0 hR' k' hk' => Hn y0 m' n' (hX2561.trans e') h0 hR' k' (by omega)) (fun y0 m' n' e' h0 hR' k' hk' => He y0 m' n' (hX2561.trans e') h0 hR' k' (by omega)) (fun m' e' => Hr m' (hX2561.trans e'))
def F89 (f : Nat) (A : Nat) (a1 : Nat) (m : yM) : Option yM := (bL (yloop (fun (l : Int) ml => B89_2 f A a1 l ml) f 0 m) (fun l2564 m2570 => (some m2570)) (fun _ mr => some mr))
set_option maxRecDepth 100000 in
theorem d89 {L : Nat} {xs : Nat → Int32} {k d n : Nat} {c : yS3} {f : Nat} {A : Nat} {a1 : Nat} {m : yM} (hk : k ≤ f) (hc : c.2.1 = pX A) (hA : (A = 256 ∨ A = 316)) (hs1 : (276 ≤ a1 ∧ a1 < 316) ∨ (336 ≤ a1 ∧ a1 < 376)) (hR : RM c m) : PC (gZ L xs) k d 89 [.ref 8, .ref a1] m n (qV c (F89 f A a1 m)) := by
  have hX : F89 f A a1 m = F89 f A a1 m := rfl
  have Hr : ∀ m', F89 f A a1 m = some m' → RM c m' → ∀ n' : Nat, (qV c (F89 f A a1 m)) (.inl none) m' n' := fun m' e h n' => ⟨rfl, h, e⟩
  refine PC.mk [some (.ref 8), some (.ref a1), none] kn89 rfl ?_
  refine p_iconst 1 c89_0 rfl ?_
  refine p_istore 2 c89_1 rfl rfl ?_
  refine PW.loop (K := k) (pce := 51) (fun (l : Int) ml => B89_2 f A a1 l ml) (fun (l : Int) j => [some (.ref 8), some (.ref a1), some (yI l)]) (fun (l : Int) => rg l) (RM c) (fun (r' : Unit) m' => RM c m' → ∀ n' : Nat, (qV c (F89 f A a1 m)) (.inl none) m' n') (fun k' hk' l j m' n' hl hI Hn' He' Hr' => tB89_2 (f := f) (by omega) hc hA hs1 hl hI (fun y0 m2 n2 e h0 hR2 => Hn' y0 (fun q => ([none, none, none] : List (Option Value)).getD q none) m2 n2 e h0 hR2) (fun y0 m2 n2 e h0 hR2 => He' y0 (fun q => ([none, none, none] : List (Option Value)).getD q none) m2 n2 e h0 hR2) (fun m2 e => Hr' () m2 e)) f k (by omega) (Nat.le_refl _) 0 (fun q => ([some (.ref 8), some (.ref a1), some (yI 0)] : xL).getD q none) _ _ (rgD rfl) hR (fun l2564 j2567 m2570 n2569 e2566 hl2565 hR2571 k2568 hk2568 => ?_) (fun r' m' e' => ?_)
  · have hX2572 := hX.trans (bL_l e2566)
    exact p_return c89_51 (Hr _ hX2572 hR2571 _)
  · exact Hr m' (hX.trans (bL_r e'))
def B81_5 (f : Nat) (A : Nat) (x2 : Int) (x3 : Int) (x4 : Int) (m : yM) : Option ((Int × Int) ⊕ ((Int × Int) ⊕ Int)) := (if x4 < 6 then (if x3 = (-1) then (some (.inr (.inl (x3, x4)))) else (if x3 = x2 then (some (.inr (.inr 1))) else (some (.inl (m (A + 2) x3.toNat, wr (x4 + 1)))))) else (some (.inr (.inl (x3, x4)))))
set_option maxRecDepth 100000 in
theorem tB81_5 {L : Nat} {xs : Nat → Int32} {Q : xO → yM → Nat → Prop} {k d n : Nat} {c : yS3} {f : Nat} {A : Nat} {x2 : Int} {x3 : Int} {x4 : Int} {m : yM} {j1 : Option Value} (hk : k ≤ f) (hA : (A = 256 ∨ A = 316)) (gx2 : rg x2) (gx3 : rg x3) (gx4 : rg x4) (hR : RM c m) (Hn : ∀ (y0 y1 : Int) (z0 : Option Value) (n' : Nat), B81_5 f A x2 x3 x4 m = some (.inl (y0, y1)) → rg y0 → rg y1 → ∀ k', k' < k → PW (gZ L xs) k' 81 d 5 [some (.ref A), z0, some (yI x2), some (yI y0), some (yI y1)] [] m n' Q) (He : ∀ (y0 y1 : Int) (z0 : Option Value) (n' : Nat), B81_5 f A x2 x3 x4 m = some (.inr (.inl (y0, y1))) → rg y0 → rg y1 → ∀ k', k' ≤ k → PW (gZ L xs) k' 81 d 37 [some (.ref A), z0, some (yI x2), some (yI y0), some (yI y1)] [] m n' Q) (Hr : ∀ r, B81_5 f A x2 x3 x4 m = some (.inr (.inr r)) → rg r → ∀ n', Q (.inl (some (yI r))) m n') : PW (gZ L xs) k 81 d 5 [some (.ref A), j1, some (yI x2), some (yI x3), some (yI x4)] [] m n Q := by
  have hX : B81_5 f A x2 x3 x4 m = B81_5 f A x2 x3 x4 m := rfl
  refine p_iload 7 c81_5 rfl rfl ?_
  refine p_iconst 9 c81_7 rfl ?_
  refine p_icmp 37 12 c81_9 rfl rfl ((yc_ge gx4 (rgD rfl)).trans Int.not_lt.symm) (fun hb2620 k2621 hk2621 => ?_) (fun hb2620 k2622 hk2622 => ?_)
  · have hX2623 := hX.trans (if_neg hb2620)
    exact He _ _ _ _ hX2623 gx3 gx4 _ (by omega)
  · have hX2624 := hX.trans (if_pos (Classical.not_not.mp hb2620))
    refine p_iload 13 c81_12 rfl rfl ?_
    refine p_iconst 14 c81_13 rfl ?_
    refine p_icmp 37 17 c81_14 rfl rfl (yc_eq gx3 (rgD rfl)) (fun hb2625 k2626 hk2626 => ?_) (fun hb2625 k2627 hk2627 => ?_)
    · have hX2628 := hX2624.trans (if_pos hb2625)
      exact He _ _ _ _ hX2628 gx3 gx4 _ (by omega)
    · have hX2629 := hX2624.trans (if_neg hb2625)
      refine p_iload 18 c81_17 rfl rfl ?_
      refine p_iload 19 c81_18 rfl rfl ?_
      refine p_icmp 24 22 c81_19 rfl rfl (yc_ne gx3 gx2) (fun hb2630 k2631 hk2631 => ?_) (fun hb2630 k2632 hk2632 => ?_)
      · have hX2633 := hX2629.trans (if_neg hb2630)
        refine p_aload 25 c81_24 rfl rfl ?_
        refine p_getR 28 c81_25 rfl (kP_1 hA) ?_
        refine p_iload 29 c81_28 rfl rfl ?_
        refine p_iaX 30 (m (A + 2) x3.toNat) c81_29 rfl (kPa_2 hA) gx3 rfl (fun hx2634 => ?_)
        refine p_istore 31 c81_30 rfl rfl ?_
        refine p_iinc 34 c81_31 rfl rfl rfl ?_
        refine p_gotoD 5 c81_34 rfl (fun k2635 hk2635 => ?_)
        exact Hn _ _ _ _ hX2633 (hR.rg _ _) (rg_wr _) _ (by omega)
      · have hX2636 := hX2629.trans (if_pos (Classical.not_not.mp hb2630))
        refine p_iconst 23 c81_22 rfl ?_
        exact p_ireturn c81_23 (Hr _ hX2636 (rgD rfl) _)
def F81 (f : Nat) (A : Nat) (x1 : Int) (x2 : Int) (m : yM) : Option Int := (bQ (ploop (fun (l : Int × Int) => B81_5 f A x2 l.1 l.2 m) f (x1, 0)) (fun l2637 => (some 0)) (fun r => some r))
set_option maxRecDepth 100000 in
theorem d81 {L : Nat} {xs : Nat → Int32} {k d n : Nat} {c : yS3} {f : Nat} {A : Nat} {x1 : Int} {x2 : Int} {m : yM} (hk : k ≤ f) (hA : (A = 256 ∨ A = 316)) (gx1 : rg x1) (gx2 : rg x2) (hR : RM c m) : PC (gZ L xs) k d 81 [.ref A, yI x1, yI x2] m n (qO m (F81 f A x1 x2 m)) := by
  have hX : F81 f A x1 x2 m = F81 f A x1 x2 m := rfl
  have Hr : ∀ r, F81 f A x1 x2 m = some r → rg r → ∀ n' : Nat, (qO m (F81 f A x1 x2 m)) (.inl (some (yI r))) m n' := fun r e h n' => ⟨r, rfl, h, rfl, e⟩
  refine PC.mk [some (.ref A), some (yI x1), some (yI x2), none, none] kn81 rfl ?_
  refine p_iload 1 c81_0 rfl rfl ?_
  refine p_istore 2 c81_1 rfl rfl ?_
  refine p_iconst 3 c81_2 rfl ?_
  refine p_istore 5 c81_3 rfl rfl ?_
  refine PW.ploop (K := k) (pce := 37) (fun (l : Int × Int) => B81_5 f A x2 l.1 l.2 m) (fun (l : Int × Int) j => [some (.ref A), j 1, some (yI x2), some (yI l.1), some (yI l.2)]) (fun (l : Int × Int) => rg l.1 ∧ rg l.2) (fun r' => rg r' → ∀ n' : Nat, (qO m (F81 f A x1 x2 m)) (.inl (some (yI r'))) m n') (fun k' hk' l j n' hl Hn' He' Hr' => tB81_5 (f := f) (by omega) hA gx2 hl.1 hl.2 hR (fun y0 y1 y2 n2 e h0 h1 => Hn' (y0, y1) (fun q => ([none, y2, none, none, none] : List (Option Value)).getD q none) n2 e ⟨h0, h1⟩) (fun y0 y1 y2 n2 e h0 h1 => He' (y0, y1) (fun q => ([none, y2, none, none, none] : List (Option Value)).getD q none) n2 e ⟨h0, h1⟩) Hr') f k (by omega) (Nat.le_refl _) (x1, 0) (fun q => ([some (.ref A), some (yI x1), some (yI x2), some (yI x1), some (yI 0)] : xL).getD q none) _ ⟨gx1, (rgD rfl)⟩ (fun l2637 j2640 n2642 e2639 hl2638 k2641 hk2641 => ?_) (fun r' e' => ?_)
  · have hX2643 := hX.trans (bQ_l e2639)
    refine p_iconst 38 c81_37 rfl ?_
    exact p_ireturn c81_38 (Hr _ hX2643 (rgD rfl) _)
  · exact Hr r' (hX.trans (bQ_r e'))
def J82_68 (f : Nat) (A : Nat) (a1 : Nat) (x2 : Int) (m : yM) : Option ((Int × yM) ⊕ ((Int × yM) ⊕ (Unit × yM))) := (some (.inl ((wr (x2 + 1)), m)))
set_option maxRecDepth 100000 in
theorem tJ82_68 {L : Nat} {xs : Nat → Int32} {Q : xO → yM → Nat → Prop} {k d n : Nat} {c : yS3} {f : Nat} {A : Nat} {a1 : Nat} {x2 : Int} {m : yM} (hk : k ≤ f) (hc : c.2.1 = pX A) (hA : (A = 256 ∨ A = 316)) (hs1 : (276 ≤ a1 ∧ a1 < 316) ∨ (336 ≤ a1 ∧ a1 < 376)) (gx2 : rg x2) (hR : RM c m) (Hn : ∀ (y0 : Int) (m' : yM) (n' : Nat), J82_68 f A a1 x2 m = some (.inl (y0, m')) → rg y0 → RM c m' → ∀ k', k' < k → PW (gZ L xs) k' 82 d 2 [some (.ref 8), some (.ref a1), some (yI y0)] [] m' n' Q) (He : ∀ (y0 : Int) (m' : yM) (n' : Nat), J82_68 f A a1 x2 m = some (.inr (.inl (y0, m'))) → rg y0 → RM c m' → ∀ k', k' ≤ k → PW (gZ L xs) k' 82 d 74 [some (.ref 8), some (.ref a1), some (yI y0)] [] m' n' Q) (Hr : ∀ m', J82_68 f A a1 x2 m = some (.inr (.inr ((), m'))) → RM c m' → ∀ n', Q (.inl none) m' n') : PW (gZ L xs) k 82 d 68 [some (.ref 8), some (.ref a1), some (yI x2)] [] m n Q := by
  have hX : J82_68 f A a1 x2 m = J82_68 f A a1 x2 m := rfl
  refine p_iinc 71 c82_68 rfl rfl rfl ?_
  refine p_gotoD 2 c82_71 rfl (fun k2615 hk2615 => ?_)
  exact Hn _ _ _ hX (rg_wr _) hR _ (by omega)
def B82_2 (f : Nat) (A : Nat) (a1 : Nat) (x2 : Int) (m : yM) : Option ((Int × yM) ⊕ ((Int × yM) ⊕ (Unit × yM))) := (if x2 < m A 14 then (if 0 ≤ (m a1 3) ∧ (m a1 3) < ((48 : Nat) : Int) then (if F78 (m (10 + (m a1 3).toNat) x2.toNat) m = 0 then (J82_68 f A a1 x2 m) else (bP (F81 f A (m (A + 8) x2.toNat) (m a1 7) m) (fun r2646 => (if r2646 = 0 then (J82_68 f A a1 x2 m) else (if 0 ≤ (m a1 2) ∧ (m a1 2) < ((48 : Nat) : Int) then (bU (F79_12 f (10 + (m a1 2).toNat) x2 m) (fun m2661 => (J82_68 f A a1 x2 m2661))) else none))))) else none) else (some (.inr (.inl (x2, m)))))
set_option maxRecDepth 100000 in
theorem tB82_2 {L : Nat} {xs : Nat → Int32} {Q : xO → yM → Nat → Prop} {k d n : Nat} {c : yS3} {f : Nat} {A : Nat} {a1 : Nat} {x2 : Int} {m : yM} (hk : k ≤ f) (hc : c.2.1 = pX A) (hA : (A = 256 ∨ A = 316)) (hs1 : (276 ≤ a1 ∧ a1 < 316) ∨ (336 ≤ a1 ∧ a1 < 376)) (gx2 : rg x2) (hR : RM c m) (Hn : ∀ (y0 : Int) (m' : yM) (n' : Nat), B82_2 f A a1 x2 m = some (.inl (y0, m')) → rg y0 → RM c m' → ∀ k', k' < k → PW (gZ L xs) k' 82 d 2 [some (.ref 8), some (.ref a1), some (yI y0)] [] m' n' Q) (He : ∀ (y0 : Int) (m' : yM) (n' : Nat), B82_2 f A a1 x2 m = some (.inr (.inl (y0, m'))) → rg y0 → RM c m' → ∀ k', k' ≤ k → PW (gZ L xs) k' 82 d 74 [some (.ref 8), some (.ref a1), some (yI y0)] [] m' n' Q) (Hr : ∀ m', B82_2 f A a1 x2 m = some (.inr (.inr ((), m'))) → RM c m' → ∀ n', Q (.inl none) m' n') : PW (gZ L xs) k 82 d 2 [some (.ref 8), some (.ref a1), some (yI x2)] [] m n Q := by
  have hX : B82_2 f A a1 x2 m = B82_2 f A a1 x2 m := rfl
  refine p_iload 3 c82_2 rfl rfl ?_
  refine p_aload 4 c82_3 rfl rfl ?_
  refine p_getV 7 (.ref A) c82_4 rfl kf8_4 (pX_of hA hR.2.2.2.2.1 hc) ?_
  refine p_getX 10 (m A 14) c82_7 rfl (kP_14 hA) rfl ?_
  refine p_icmp 74 13 c82_10 rfl rfl ((yc_ge gx2 (hR.rg _ _)).trans Int.not_lt.symm) (fun hb2600 k2601 hk2601 => ?_) (fun hb2600 k2602 hk2602 => ?_)
  · have hX2603 := hX.trans (if_neg hb2600)
    exact He _ _ _ hX2603 gx2 hR _ (by omega)
  · have hX2604 := hX.trans (if_pos (Classical.not_not.mp hb2600))
    refine p_aload 14 c82_13 rfl rfl ?_
    refine p_aload 15 c82_14 rfl rfl ?_
    refine p_getR 18 c82_15 rfl kf8_0 ?_
    refine p_aload 19 c82_18 rfl rfl ?_
    refine p_getX 22 (m a1 3) c82_19 rfl (kS_3 hs1) rfl ?_
    refine p_aaX 23 c82_22 rfl kr9 (hR.rg _ _) (fun hx2605 => ?_)
    have hX2606 := hX2604.trans (if_pos hx2605)
    refine p_iload 24 c82_23 rfl rfl ?_
    refine p_iaX 25 (m (10 + (m a1 3).toNat) x2.toNat) c82_24 rfl (kR9 hx2605) gx2 rfl (fun hx2607 => ?_)
    refine p_cX 28 [.ref 8, yI (m (10 + (m a1 3).toNat) x2.toNat)] [] c82_25 rfl rfl rfl (fun k' hk' d' => d78 (hR.rg _ _) hR) (fun hg2610 n2609 k2608 hk2608 => ?_)
    refine p_if 68 31 c82_28 rfl rfl (yz_eq hg2610) (fun hb2611 k2612 hk2612 => ?_) (fun hb2611 k2613 hk2613 => ?_)
    · have hX2614 := hX2606.trans (if_pos hb2611)
      exact tJ82_68 (f := f) (by omega) hc hA hs1 gx2 hR (fun y0 m' n' e' h0 hR' k' hk' => Hn y0 m' n' (hX2614.trans e') h0 hR' k' (by omega)) (fun y0 m' n' e' h0 hR' k' hk' => He y0 m' n' (hX2614.trans e') h0 hR' k' (by omega)) (fun m' e' => Hr m' (hX2614.trans e'))
    · have hX2616 := hX2606.trans (if_neg hb2611)
      refine p_aload 32 c82_31 rfl rfl ?_
      refine p_getV 35 (.ref A) c82_32 rfl kf8_4 (pX_of hA hR.2.2.2.2.1 hc) ?_
      refine p_aload 36 c82_35 rfl rfl ?_
      refine p_getV 39 (.ref A) c82_36 rfl kf8_4 (pX_of hA hR.2.2.2.2.1 hc) ?_
      refine p_getR 42 c82_39 rfl (kP_7 hA) ?_
      refine p_iload 43 c82_42 rfl rfl ?_
      refine p_iaX 44 (m (A + 8) x2.toNat) c82_43 rfl (kPa_8 hA) gx2 rfl (fun hx2617 => ?_)
      refine p_aload 45 c82_44 rfl rfl ?_
      refine p_getX 48 (m a1 7) c82_45 rfl (kS_7 hs1) rfl ?_
      refine p_cO 51 [.ref A, yI (m (A + 8) x2.toNat), yI (m a1 7)] [] c82_48 rfl rfl rfl (fun k' hk' d' => d81 (f := f) (by omega) hA (hR.rg _ _) (hR.rg _ _) hR) (fun r2646 hF2644 hg2645 n2619 k2618 hk2618 => ?_)
      have hX2647 := hX2616.trans (bP_s hF2644)
      refine p_if 68 54 c82_51 rfl rfl (yz_eq hg2645) (fun hb2648 k2649 hk2649 => ?_) (fun hb2648 k2650 hk2650 => ?_)
      · have hX2651 := hX2647.trans (if_pos hb2648)
        exact tJ82_68 (f := f) (by omega) hc hA hs1 gx2 hR (fun y0 m' n' e' h0 hR' k' hk' => Hn y0 m' n' (hX2651.trans e') h0 hR' k' (by omega)) (fun y0 m' n' e' h0 hR' k' hk' => He y0 m' n' (hX2651.trans e') h0 hR' k' (by omega)) (fun m' e' => Hr m' (hX2651.trans e'))
      · have hX2652 := hX2647.trans (if_neg hb2648)
        refine p_aload 55 c82_54 rfl rfl ?_
        refine p_aload 56 c82_55 rfl rfl ?_
        refine p_getR 59 c82_56 rfl kf8_0 ?_
        refine p_aload 60 c82_59 rfl rfl ?_
        refine p_getX 63 (m a1 2) c82_60 rfl (kS_2 hs1) rfl ?_
        refine p_aaX 64 c82_63 rfl kr9 (hR.rg _ _) (fun hx2653 => ?_)
        have hX2654 := hX2652.trans (if_pos hx2653)
        refine p_iload 65 c82_64 rfl rfl ?_
        refine p_cV 68 [.ref 8, .ref (10 + (m a1 2).toNat), yI x2] [] c82_65 rfl rfl rfl (fun k' hk' d' => d79_12 (f := f) (by omega) (kR9 hx2653) (by omega) gx2 hR) (fun m2661 hF2657 hR2662 n2656 k2655 hk2655 => ?_)
        have hX2660 := hX2654.trans (bU_s hF2657)
        exact tJ82_68 (f := f) (by omega) hc hA hs1 gx2 hR2662 (fun y0 m' n' e' h0 hR' k' hk' => Hn y0 m' n' (hX2660.trans e') h0 hR' k' (by omega)) (fun y0 m' n' e' h0 hR' k' hk' => He y0 m' n' (hX2660.trans e') h0 hR' k' (by omega)) (fun m' e' => Hr m' (hX2660.trans e'))
def F82 (f : Nat) (A : Nat) (a1 : Nat) (m : yM) : Option yM := (bL (yloop (fun (l : Int) ml => B82_2 f A a1 l ml) f 0 m) (fun l2663 m2669 => (some m2669)) (fun _ mr => some mr))
set_option maxRecDepth 100000 in
theorem d82 {L : Nat} {xs : Nat → Int32} {k d n : Nat} {c : yS3} {f : Nat} {A : Nat} {a1 : Nat} {m : yM} (hk : k ≤ f) (hc : c.2.1 = pX A) (hA : (A = 256 ∨ A = 316)) (hs1 : (276 ≤ a1 ∧ a1 < 316) ∨ (336 ≤ a1 ∧ a1 < 376)) (hR : RM c m) : PC (gZ L xs) k d 82 [.ref 8, .ref a1] m n (qV c (F82 f A a1 m)) := by
  have hX : F82 f A a1 m = F82 f A a1 m := rfl
  have Hr : ∀ m', F82 f A a1 m = some m' → RM c m' → ∀ n' : Nat, (qV c (F82 f A a1 m)) (.inl none) m' n' := fun m' e h n' => ⟨rfl, h, e⟩
  refine PC.mk [some (.ref 8), some (.ref a1), none] kn82 rfl ?_
  refine p_iconst 1 c82_0 rfl ?_
  refine p_istore 2 c82_1 rfl rfl ?_
  refine PW.loop (K := k) (pce := 74) (fun (l : Int) ml => B82_2 f A a1 l ml) (fun (l : Int) j => [some (.ref 8), some (.ref a1), some (yI l)]) (fun (l : Int) => rg l) (RM c) (fun (r' : Unit) m' => RM c m' → ∀ n' : Nat, (qV c (F82 f A a1 m)) (.inl none) m' n') (fun k' hk' l j m' n' hl hI Hn' He' Hr' => tB82_2 (f := f) (by omega) hc hA hs1 hl hI (fun y0 m2 n2 e h0 hR2 => Hn' y0 (fun q => ([none, none, none] : List (Option Value)).getD q none) m2 n2 e h0 hR2) (fun y0 m2 n2 e h0 hR2 => He' y0 (fun q => ([none, none, none] : List (Option Value)).getD q none) m2 n2 e h0 hR2) (fun m2 e => Hr' () m2 e)) f k (by omega) (Nat.le_refl _) 0 (fun q => ([some (.ref 8), some (.ref a1), some (yI 0)] : xL).getD q none) _ _ (rgD rfl) hR (fun l2663 j2666 m2669 n2668 e2665 hl2664 hR2670 k2667 hk2667 => ?_) (fun r' m' e' => ?_)
  · have hX2671 := hX.trans (bL_l e2665)
    exact p_return c82_74 (Hr _ hX2671 hR2670 _)
  · exact Hr m' (hX.trans (bL_r e'))
end
section
/-! FUNCTIONS OF THE METHODS: printed by wip/fn/dc.py -/
def J84_61 (f : Nat) (A : Nat) (a1 : Nat) (x2 : Int) (m : yM) : Option ((Int × yM) ⊕ ((Int × yM) ⊕ (Unit × yM))) := (some (.inl ((wr (x2 + 1)), m)))
set_option maxRecDepth 100000 in
theorem tJ84_61 {L : Nat} {xs : Nat → Int32} {Q : xO → yM → Nat → Prop} {k d n : Nat} {c : yS3} {f : Nat} {A : Nat} {a1 : Nat} {x2 : Int} {m : yM} (hk : k ≤ f) (hc : c.2.1 = pX A) (hA : (A = 256 ∨ A = 316)) (hs1 : (276 ≤ a1 ∧ a1 < 316) ∨ (336 ≤ a1 ∧ a1 < 376)) (gx2 : rg x2) (hR : RM c m) (Hn : ∀ (y0 : Int) (m' : yM) (n' : Nat), J84_61 f A a1 x2 m = some (.inl (y0, m')) → rg y0 → RM c m' → ∀ k', k' < k → PW (gZ L xs) k' 84 d 2 [some (.ref 8), some (.ref a1), some (yI y0)] [] m' n' Q) (He : ∀ (y0 : Int) (m' : yM) (n' : Nat), J84_61 f A a1 x2 m = some (.inr (.inl (y0, m'))) → rg y0 → RM c m' → ∀ k', k' ≤ k → PW (gZ L xs) k' 84 d 67 [some (.ref 8), some (.ref a1), some (yI y0)] [] m' n' Q) (Hr : ∀ m', J84_61 f A a1 x2 m = some (.inr (.inr ((), m'))) → RM c m' → ∀ n', Q (.inl none) m' n') : PW (gZ L xs) k 84 d 61 [some (.ref 8), some (.ref a1), some (yI x2)] [] m n Q := by
  have hX : J84_61 f A a1 x2 m = J84_61 f A a1 x2 m := rfl
  refine p_iinc 64 c84_61 rfl rfl rfl ?_
  refine p_gotoD 2 c84_64 rfl (fun k2713 hk2713 => ?_)
  exact Hn _ _ _ hX (rg_wr _) hR _ (by omega)
def B84_2 (f : Nat) (A : Nat) (a1 : Nat) (x2 : Int) (m : yM) : Option ((Int × yM) ⊕ ((Int × yM) ⊕ (Unit × yM))) := (if x2 < m A 14 then (if 0 ≤ (m a1 3) ∧ (m a1 3) < ((48 : Nat) : Int) then (if F78 (m (10 + (m a1 3).toNat) x2.toNat) m = 0 then (J84_61 f A a1 x2 m) else (if m a1 6 = (-1) then (J84_61 f A a1 x2 m) else (if 73 ≤ (F83 x2 (m a1 6)) ∧ (F83 x2 (m a1 6)) < 169 then (if 0 ≤ (m a1 2) ∧ (m a1 2) < ((48 : Nat) : Int) then (bU (F80_12_12 f A (F83 x2 (m a1 6)) (10 + (m a1 2).toNat) m) (fun m2732 => (J84_61 f A a1 x2 m2732))) else none) else none))) else none) else (some (.inr (.inl (x2, m)))))
set_option maxRecDepth 100000 in
theorem tB84_2 {L : Nat} {xs : Nat → Int32} {Q : xO → yM → Nat → Prop} {k d n : Nat} {c : yS3} {f : Nat} {A : Nat} {a1 : Nat} {x2 : Int} {m : yM} (hk : k ≤ f) (hc : c.2.1 = pX A) (hA : (A = 256 ∨ A = 316)) (hs1 : (276 ≤ a1 ∧ a1 < 316) ∨ (336 ≤ a1 ∧ a1 < 376)) (gx2 : rg x2) (hR : RM c m) (Hn : ∀ (y0 : Int) (m' : yM) (n' : Nat), B84_2 f A a1 x2 m = some (.inl (y0, m')) → rg y0 → RM c m' → ∀ k', k' < k → PW (gZ L xs) k' 84 d 2 [some (.ref 8), some (.ref a1), some (yI y0)] [] m' n' Q) (He : ∀ (y0 : Int) (m' : yM) (n' : Nat), B84_2 f A a1 x2 m = some (.inr (.inl (y0, m'))) → rg y0 → RM c m' → ∀ k', k' ≤ k → PW (gZ L xs) k' 84 d 67 [some (.ref 8), some (.ref a1), some (yI y0)] [] m' n' Q) (Hr : ∀ m', B84_2 f A a1 x2 m = some (.inr (.inr ((), m'))) → RM c m' → ∀ n', Q (.inl none) m' n') : PW (gZ L xs) k 84 d 2 [some (.ref 8), some (.ref a1), some (yI x2)] [] m n Q := by
  have hX : B84_2 f A a1 x2 m = B84_2 f A a1 x2 m := rfl
  refine p_iload 3 c84_2 rfl rfl ?_
  refine p_aload 4 c84_3 rfl rfl ?_
  refine p_getV 7 (.ref A) c84_4 rfl kf8_4 (pX_of hA hR.2.2.2.2.1 hc) ?_
  refine p_getX 10 (m A 14) c84_7 rfl (kP_14 hA) rfl ?_
  refine p_icmp 67 13 c84_10 rfl rfl ((yc_ge gx2 (hR.rg _ _)).trans Int.not_lt.symm) (fun hb2698 k2699 hk2699 => ?_) (fun hb2698 k2700 hk2700 => ?_)
  · have hX2701 := hX.trans (if_neg hb2698)
    exact He _ _ _ hX2701 gx2 hR _ (by omega)
  · have hX2702 := hX.trans (if_pos (Classical.not_not.mp hb2698))
    refine p_aload 14 c84_13 rfl rfl ?_
    refine p_aload 15 c84_14 rfl rfl ?_
    refine p_getR 18 c84_15 rfl kf8_0 ?_
    refine p_aload 19 c84_18 rfl rfl ?_
    refine p_getX 22 (m a1 3) c84_19 rfl (kS_3 hs1) rfl ?_
    refine p_aaX 23 c84_22 rfl kr9 (hR.rg _ _) (fun hx2703 => ?_)
    have hX2704 := hX2702.trans (if_pos hx2703)
    refine p_iload 24 c84_23 rfl rfl ?_
    refine p_iaX 25 (m (10 + (m a1 3).toNat) x2.toNat) c84_24 rfl (kR9 hx2703) gx2 rfl (fun hx2705 => ?_)
    refine p_cX 28 [.ref 8, yI (m (10 + (m a1 3).toNat) x2.toNat)] [] c84_25 rfl rfl rfl (fun k' hk' d' => d78 (hR.rg _ _) hR) (fun hg2708 n2707 k2706 hk2706 => ?_)
    refine p_if 61 31 c84_28 rfl rfl (yz_eq hg2708) (fun hb2709 k2710 hk2710 => ?_) (fun hb2709 k2711 hk2711 => ?_)
    · have hX2712 := hX2704.trans (if_pos hb2709)
      exact tJ84_61 (f := f) (by omega) hc hA hs1 gx2 hR (fun y0 m' n' e' h0 hR' k' hk' => Hn y0 m' n' (hX2712.trans e') h0 hR' k' (by omega)) (fun y0 m' n' e' h0 hR' k' hk' => He y0 m' n' (hX2712.trans e') h0 hR' k' (by omega)) (fun m' e' => Hr m' (hX2712.trans e'))
    · have hX2714 := hX2704.trans (if_neg hb2709)
      refine p_aload 32 c84_31 rfl rfl ?_
      refine p_getX 35 (m a1 6) c84_32 rfl (kS_6 hs1) rfl ?_
      refine p_iconst 36 c84_35 rfl ?_
      refine p_icmp 61 39 c84_36 rfl rfl (yc_eq (hR.rg _ _) (rgD rfl)) (fun hb2715 k2716 hk2716 => ?_) (fun hb2715 k2717 hk2717 => ?_)
      · have hX2718 := hX2714.trans (if_pos hb2715)
        exact tJ84_61 (f := f) (by omega) hc hA hs1 gx2 hR (fun y0 m' n' e' h0 hR' k' hk' => Hn y0 m' n' (hX2718.trans e') h0 hR' k' (by omega)) (fun y0 m' n' e' h0 hR' k' hk' => He y0 m' n' (hX2718.trans e') h0 hR' k' (by omega)) (fun m' e' => Hr m' (hX2718.trans e'))
      · have hX2719 := hX2714.trans (if_neg hb2715)
        refine p_aload 40 c84_39 rfl rfl ?_
        refine p_aload 41 c84_40 rfl rfl ?_
        refine p_iload 42 c84_41 rfl rfl ?_
        refine p_aload 43 c84_42 rfl rfl ?_
        refine p_getX 46 (m a1 6) c84_43 rfl (kS_6 hs1) rfl ?_
        refine p_cXR 49 [.ref 8, yI x2, yI (m a1 6)] [.ref 8] c84_46 rfl rfl rfl (fun k' hk' d' => d83 gx2 (hR.rg _ _) hR) (fun hg2722 n2721 k2720 hk2720 => ?_)
        have := hg2722.2
        have hX2723 := hX2719.trans (if_pos hg2722.2)
        refine p_aload 50 c84_49 rfl rfl ?_
        refine p_getR 53 c84_50 rfl kf8_0 ?_
        refine p_aload 54 c84_53 rfl rfl ?_
        refine p_getX 57 (m a1 2) c84_54 rfl (kS_2 hs1) rfl ?_
        refine p_aaX 58 c84_57 rfl kr9 (hR.rg _ _) (fun hx2724 => ?_)
        have hX2725 := hX2723.trans (if_pos hx2724)
        refine p_cV 61 [.ref 8, .ref (F83 x2 (m a1 6)), .ref (10 + (m a1 2).toNat)] [] c84_58 rfl rfl rfl (fun k' hk' d' => d80_12_12 (f := f) (by omega) hc hA hg2722.1 (by omega) (kR9 hx2724) (by omega) hR) (fun m2732 hF2728 hR2733 n2727 k2726 hk2726 => ?_)
        have hX2731 := hX2725.trans (bU_s hF2728)
        exact tJ84_61 (f := f) (by omega) hc hA hs1 gx2 hR2733 (fun y0 m' n' e' h0 hR' k' hk' => Hn y0 m' n' (hX2731.trans e') h0 hR' k' (by omega)) (fun y0 m' n' e' h0 hR' k' hk' => He y0 m' n' (hX2731.trans e') h0 hR' k' (by omega)) (fun m' e' => Hr m' (hX2731.trans e'))
def F84 (f : Nat) (A : Nat) (a1 : Nat) (m : yM) : Option yM := (bL (yloop (fun (l : Int) ml => B84_2 f A a1 l ml) f 0 m) (fun l2734 m2740 => (some m2740)) (fun _ mr => some mr))
set_option maxRecDepth 100000 in
theorem d84 {L : Nat} {xs : Nat → Int32} {k d n : Nat} {c : yS3} {f : Nat} {A : Nat} {a1 : Nat} {m : yM} (hk : k ≤ f) (hc : c.2.1 = pX A) (hA : (A = 256 ∨ A = 316)) (hs1 : (276 ≤ a1 ∧ a1 < 316) ∨ (336 ≤ a1 ∧ a1 < 376)) (hR : RM c m) : PC (gZ L xs) k d 84 [.ref 8, .ref a1] m n (qV c (F84 f A a1 m)) := by
  have hX : F84 f A a1 m = F84 f A a1 m := rfl
  have Hr : ∀ m', F84 f A a1 m = some m' → RM c m' → ∀ n' : Nat, (qV c (F84 f A a1 m)) (.inl none) m' n' := fun m' e h n' => ⟨rfl, h, e⟩
  refine PC.mk [some (.ref 8), some (.ref a1), none] kn84 rfl ?_
  refine p_iconst 1 c84_0 rfl ?_
  refine p_istore 2 c84_1 rfl rfl ?_
  refine PW.loop (K := k) (pce := 67) (fun (l : Int) ml => B84_2 f A a1 l ml) (fun (l : Int) j => [some (.ref 8), some (.ref a1), some (yI l)]) (fun (l : Int) => rg l) (RM c) (fun (r' : Unit) m' => RM c m' → ∀ n' : Nat, (qV c (F84 f A a1 m)) (.inl none) m' n') (fun k' hk' l j m' n' hl hI Hn' He' Hr' => tB84_2 (f := f) (by omega) hc hA hs1 hl hI (fun y0 m2 n2 e h0 hR2 => Hn' y0 (fun q => ([none, none, none] : List (Option Value)).getD q none) m2 n2 e h0 hR2) (fun y0 m2 n2 e h0 hR2 => He' y0 (fun q => ([none, none, none] : List (Option Value)).getD q none) m2 n2 e h0 hR2) (fun m2 e => Hr' () m2 e)) f k (by omega) (Nat.le_refl _) 0 (fun q => ([some (.ref 8), some (.ref a1), some (yI 0)] : xL).getD q none) _ _ (rgD rfl) hR (fun l2734 j2737 m2740 n2739 e2736 hl2735 hR2741 k2738 hk2738 => ?_) (fun r' m' e' => ?_)
  · have hX2742 := hX.trans (bL_l e2736)
    exact p_return c84_67 (Hr _ hX2742 hR2741 _)
  · exact Hr m' (hX.trans (bL_r e'))
def F90 (f : Nat) (A : Nat) (a1 : Nat) (m : yM) : Option yM := (if m a1 0 = 2 then (if 0 ≤ (m a1 3) ∧ (m a1 3) < ((48 : Nat) : Int) then (if 0 ≤ (m a1 2) ∧ (m a1 2) < ((48 : Nat) : Int) then (bU (F80_12_12 f A (10 + (m a1 3).toNat) (10 + (m a1 2).toNat) m) (fun m2319 => (some m2319))) else none) else none) else (if m a1 0 = 3 then (bU (F85 f A a1 m) (fun m2380 => (some m2380))) else (if m a1 0 = 4 then (bU (F86 f A a1 m) (fun m2471 => (bU (F89 f A a1 m2471) (fun m2577 => (some m2577))))) else (if m a1 0 = 5 then (if 0 ≤ (m a1 2) ∧ (m a1 2) < ((48 : Nat) : Int) then (bU (F79_12 f (10 + (m a1 2).toNat) (m a1 6) m) (fun m2590 => (some m2590))) else none) else (if m a1 0 = 6 then (some m) else (if m a1 0 = 7 then (bU (F82 f A a1 m) (fun m2676 => (some m2676))) else (if m a1 0 = 8 then (if 0 ≤ (m a1 3) ∧ (m a1 3) < ((48 : Nat) : Int) then (if 0 ≤ (m a1 2) ∧ (m a1 2) < ((48 : Nat) : Int) then (bU (F80_12_12 f A (10 + (m a1 3).toNat) (10 + (m a1 2).toNat) m) (fun m2691 => (some m2691))) else none) else none) else (if m a1 0 = 9 then (bU (F84 f A a1 m) (fun m2747 => (some m2747))) else (some m)))))))))
set_option maxRecDepth 100000 in
theorem d90 {L : Nat} {xs : Nat → Int32} {k d n : Nat} {c : yS3} {f : Nat} {A : Nat} {a1 : Nat} {m : yM} (hk : k ≤ f) (hc : c.2.1 = pX A) (hA : (A = 256 ∨ A = 316)) (hs1 : (276 ≤ a1 ∧ a1 < 316) ∨ (336 ≤ a1 ∧ a1 < 376)) (hR : RM c m) : PC (gZ L xs) k d 90 [.ref 8, .ref a1] m n (qV c (F90 f A a1 m)) := by
  have hX : F90 f A a1 m = F90 f A a1 m := rfl
  have Hr : ∀ m', F90 f A a1 m = some m' → RM c m' → ∀ n' : Nat, (qV c (F90 f A a1 m)) (.inl none) m' n' := fun m' e h n' => ⟨rfl, h, e⟩
  refine PC.mk [some (.ref 8), some (.ref a1)] kn90 rfl ?_
  refine p_aload 1 c90_0 rfl rfl ?_
  refine p_getX 4 (m a1 0) c90_1 rfl (kS_0 hs1) rfl ?_
  by_cases hk2266 : m a1 0 = 2
  · have hX2267 := hX.trans (if_pos hk2266)
    refine p_top 2 hk2266 ?_
    refine p_tsw 72 c90_4 (rgD rfl) (by decide) rfl rfl ?_
    refine p_aload 73 c90_72 rfl rfl ?_
    refine p_aload 74 c90_73 rfl rfl ?_
    refine p_getR 77 c90_74 rfl kf8_0 ?_
    refine p_aload 78 c90_77 rfl rfl ?_
    refine p_getX 81 (m a1 3) c90_78 rfl (kS_3 hs1) rfl ?_
    refine p_aaX 82 c90_81 rfl kr9 (hR.rg _ _) (fun hx2268 => ?_)
    have hX2269 := hX2267.trans (if_pos hx2268)
    refine p_aload 83 c90_82 rfl rfl ?_
    refine p_getR 86 c90_83 rfl kf8_0 ?_
    refine p_aload 87 c90_86 rfl rfl ?_
    refine p_getX 90 (m a1 2) c90_87 rfl (kS_2 hs1) rfl ?_
    refine p_aaX 91 c90_90 rfl kr9 (hR.rg _ _) (fun hx2270 => ?_)
    have hX2271 := hX2269.trans (if_pos hx2270)
    refine p_cV 94 [.ref 8, .ref (10 + (m a1 3).toNat), .ref (10 + (m a1 2).toNat)] [] c90_91 rfl rfl rfl (fun k' hk' d' => d80_12_12 (f := f) (by omega) hc hA (kR9 hx2268) (by omega) (kR9 hx2270) (by omega) hR) (fun m2319 hF2315 hR2320 n2273 k2272 hk2272 => ?_)
    have hX2318 := hX2271.trans (bU_s hF2315)
    refine p_goto 134 c90_94 rfl ?_
    exact p_return c90_134 (Hr _ hX2318 hR2320 _)
  have hX2321 := hX.trans (if_neg hk2266)
  by_cases hk2322 : m a1 0 = 3
  · have hX2323 := hX2321.trans (if_pos hk2322)
    refine p_top 3 hk2322 ?_
    refine p_tsw 113 c90_4 (rgD rfl) (by decide) rfl rfl ?_
    refine p_aload 114 c90_113 rfl rfl ?_
    refine p_aload 115 c90_114 rfl rfl ?_
    refine p_cV 118 [.ref 8, .ref a1] [] c90_115 rfl rfl rfl (fun k' hk' d' => d85 (f := f) (by omega) hc hA hs1 hR) (fun m2380 hF2376 hR2381 n2325 k2324 hk2324 => ?_)
    have hX2379 := hX2323.trans (bU_s hF2376)
    refine p_goto 134 c90_118 rfl ?_
    exact p_return c90_134 (Hr _ hX2379 hR2381 _)
  have hX2382 := hX2321.trans (if_neg hk2322)
  by_cases hk2383 : m a1 0 = 4
  · have hX2384 := hX2382.trans (if_pos hk2383)
    refine p_top 4 hk2383 ?_
    refine p_tsw 121 c90_4 (rgD rfl) (by decide) rfl rfl ?_
    refine p_aload 122 c90_121 rfl rfl ?_
    refine p_aload 123 c90_122 rfl rfl ?_
    refine p_cV 126 [.ref 8, .ref a1] [] c90_123 rfl rfl rfl (fun k' hk' d' => d86 (f := f) (by omega) hc hA hs1 hR) (fun m2471 hF2467 hR2472 n2386 k2385 hk2385 => ?_)
    have hX2470 := hX2384.trans (bU_s hF2467)
    refine p_aload 127 c90_126 rfl rfl ?_
    refine p_aload 128 c90_127 rfl rfl ?_
    refine p_cV 131 [.ref 8, .ref a1] [] c90_128 rfl rfl rfl (fun k' hk' d' => d89 (f := f) (by omega) hc hA hs1 hR2472) (fun m2577 hF2573 hR2578 n2474 k2473 hk2473 => ?_)
    have hX2576 := hX2470.trans (bU_s hF2573)
    refine p_goto 134 c90_131 rfl ?_
    exact p_return c90_134 (Hr _ hX2576 hR2578 _)
  have hX2579 := hX2382.trans (if_neg hk2383)
  by_cases hk2580 : m a1 0 = 5
  · have hX2581 := hX2579.trans (if_pos hk2580)
    refine p_top 5 hk2580 ?_
    refine p_tsw 52 c90_4 (rgD rfl) (by decide) rfl rfl ?_
    refine p_aload 53 c90_52 rfl rfl ?_
    refine p_aload 54 c90_53 rfl rfl ?_
    refine p_getR 57 c90_54 rfl kf8_0 ?_
    refine p_aload 58 c90_57 rfl rfl ?_
    refine p_getX 61 (m a1 2) c90_58 rfl (kS_2 hs1) rfl ?_
    refine p_aaX 62 c90_61 rfl kr9 (hR.rg _ _) (fun hx2582 => ?_)
    have hX2583 := hX2581.trans (if_pos hx2582)
    refine p_aload 63 c90_62 rfl rfl ?_
    refine p_getX 66 (m a1 6) c90_63 rfl (kS_6 hs1) rfl ?_
    refine p_cV 69 [.ref 8, .ref (10 + (m a1 2).toNat), yI (m a1 6)] [] c90_66 rfl rfl rfl (fun k' hk' d' => d79_12 (f := f) (by omega) (kR9 hx2582) (by omega) (hR.rg _ _) hR) (fun m2590 hF2586 hR2591 n2585 k2584 hk2584 => ?_)
    have hX2589 := hX2583.trans (bU_s hF2586)
    refine p_goto 134 c90_69 rfl ?_
    exact p_return c90_134 (Hr _ hX2589 hR2591 _)
  have hX2592 := hX2579.trans (if_neg hk2580)
  by_cases hk2593 : m a1 0 = 6
  · have hX2594 := hX2592.trans (if_pos hk2593)
    refine p_top 6 hk2593 ?_
    refine p_tsw 134 c90_4 (rgD rfl) (by decide) rfl rfl ?_
    exact p_return c90_134 (Hr _ hX2594 hR _)
  have hX2595 := hX2592.trans (if_neg hk2593)
  by_cases hk2596 : m a1 0 = 7
  · have hX2597 := hX2595.trans (if_pos hk2596)
    refine p_top 7 hk2596 ?_
    refine p_tsw 97 c90_4 (rgD rfl) (by decide) rfl rfl ?_
    refine p_aload 98 c90_97 rfl rfl ?_
    refine p_aload 99 c90_98 rfl rfl ?_
    refine p_cV 102 [.ref 8, .ref a1] [] c90_99 rfl rfl rfl (fun k' hk' d' => d82 (f := f) (by omega) hc hA hs1 hR) (fun m2676 hF2672 hR2677 n2599 k2598 hk2598 => ?_)
    have hX2675 := hX2597.trans (bU_s hF2672)
    refine p_goto 134 c90_102 rfl ?_
    exact p_return c90_134 (Hr _ hX2675 hR2677 _)
  have hX2678 := hX2595.trans (if_neg hk2596)
  by_cases hk2679 : m a1 0 = 8
  · have hX2680 := hX2678.trans (if_pos hk2679)
    refine p_top 8 hk2679 ?_
    refine p_tsw 72 c90_4 (rgD rfl) (by decide) rfl rfl ?_
    refine p_aload 73 c90_72 rfl rfl ?_
    refine p_aload 74 c90_73 rfl rfl ?_
    refine p_getR 77 c90_74 rfl kf8_0 ?_
    refine p_aload 78 c90_77 rfl rfl ?_
    refine p_getX 81 (m a1 3) c90_78 rfl (kS_3 hs1) rfl ?_
    refine p_aaX 82 c90_81 rfl kr9 (hR.rg _ _) (fun hx2681 => ?_)
    have hX2682 := hX2680.trans (if_pos hx2681)
    refine p_aload 83 c90_82 rfl rfl ?_
    refine p_getR 86 c90_83 rfl kf8_0 ?_
    refine p_aload 87 c90_86 rfl rfl ?_
    refine p_getX 90 (m a1 2) c90_87 rfl (kS_2 hs1) rfl ?_
    refine p_aaX 91 c90_90 rfl kr9 (hR.rg _ _) (fun hx2683 => ?_)
    have hX2684 := hX2682.trans (if_pos hx2683)
    refine p_cV 94 [.ref 8, .ref (10 + (m a1 3).toNat), .ref (10 + (m a1 2).toNat)] [] c90_91 rfl rfl rfl (fun k' hk' d' => d80_12_12 (f := f) (by omega) hc hA (kR9 hx2681) (by omega) (kR9 hx2683) (by omega) hR) (fun m2691 hF2687 hR2692 n2686 k2685 hk2685 => ?_)
    have hX2690 := hX2684.trans (bU_s hF2687)
    refine p_goto 134 c90_94 rfl ?_
    exact p_return c90_134 (Hr _ hX2690 hR2692 _)
  have hX2693 := hX2678.trans (if_neg hk2679)
  by_cases hk2694 : m a1 0 = 9
  · have hX2695 := hX2693.trans (if_pos hk2694)
    refine p_top 9 hk2694 ?_
    refine p_tsw 105 c90_4 (rgD rfl) (by decide) rfl rfl ?_
    refine p_aload 106 c90_105 rfl rfl ?_
    refine p_aload 107 c90_106 rfl rfl ?_
    refine p_cV 110 [.ref 8, .ref a1] [] c90_107 rfl rfl rfl (fun k' hk' d' => d84 (f := f) (by omega) hc hA hs1 hR) (fun m2747 hF2743 hR2748 n2697 k2696 hk2696 => ?_)
    have hX2746 := hX2695.trans (bU_s hF2743)
    refine p_goto 134 c90_110 rfl ?_
    exact p_return c90_134 (Hr _ hX2746 hR2748 _)
  have hX2749 := hX2693.trans (if_neg hk2694)
  refine p_tswd 134 c90_4 (hR.rg _ _) (by omega) rfl ?_
  exact p_return c90_134 (Hr _ hX2749 hR _)
def J91_130 (f : Nat) (A : Nat) (x2 : Int) (m : yM) : Option ((Int × yM) ⊕ ((Int × yM) ⊕ (Unit × yM))) := (some (.inl ((wr (x2 + 1)), m)))
set_option maxRecDepth 100000 in
theorem tJ91_130 {L : Nat} {xs : Nat → Int32} {Q : xO → yM → Nat → Prop} {k d n : Nat} {c : yS3} {f : Nat} {A : Nat} {x2 : Int} {m : yM} {j1 j3 : Option Value} (hk : k ≤ f) (hc : c.2.1 = pX A) (hA : (A = 256 ∨ A = 316)) (gx2 : rg x2) (hR : RM c m) (Hn : ∀ (y0 : Int) (z0 z1 : Option Value) (m' : yM) (n' : Nat), J91_130 f A x2 m = some (.inl (y0, m')) → rg y0 → RM c m' → ∀ k', k' < k → PW (gZ L xs) k' 91 d 88 [some (.ref 8), z0, some (yI y0), z1] [] m' n' Q) (He : ∀ (y0 : Int) (z0 z1 : Option Value) (m' : yM) (n' : Nat), J91_130 f A x2 m = some (.inr (.inl (y0, m'))) → rg y0 → RM c m' → ∀ k', k' ≤ k → PW (gZ L xs) k' 91 d 136 [some (.ref 8), z0, some (yI y0), z1] [] m' n' Q) (Hr : ∀ m', J91_130 f A x2 m = some (.inr (.inr ((), m'))) → RM c m' → ∀ n', Q (.inl none) m' n') : PW (gZ L xs) k 91 d 130 [some (.ref 8), j1, some (yI x2), j3] [] m n Q := by
  have hX : J91_130 f A x2 m = J91_130 f A x2 m := rfl
  refine p_iinc 133 c91_130 rfl rfl rfl ?_
  refine p_gotoD 88 c91_133 rfl (fun k2262 hk2262 => ?_)
  exact Hn _ _ _ _ _ hX (rg_wr _) hR _ (by omega)
def B91_88 (f : Nat) (A : Nat) (x2 : Int) (m : yM) : Option ((Int × yM) ⊕ ((Int × yM) ⊕ (Unit × yM))) := (if x2 < m A 16 then (if 0 ≤ x2 ∧ x2 < ((40 : Nat) : Int) then (if F78 (m 71 (m (A + 20 + (x2).toNat) 1).toNat) m = 0 then (J91_130 f A x2 m) else (bU (F90 f A (A + 20 + (x2).toNat) m) (fun m2754 => (J91_130 f A x2 m2754)))) else none) else (some (.inr (.inl (x2, m)))))
set_option maxRecDepth 100000 in
theorem tB91_88 {L : Nat} {xs : Nat → Int32} {Q : xO → yM → Nat → Prop} {k d n : Nat} {c : yS3} {f : Nat} {A : Nat} {x2 : Int} {m : yM} {j1 j3 : Option Value} (hk : k ≤ f) (hc : c.2.1 = pX A) (hA : (A = 256 ∨ A = 316)) (gx2 : rg x2) (hR : RM c m) (Hn : ∀ (y0 : Int) (z0 z1 : Option Value) (m' : yM) (n' : Nat), B91_88 f A x2 m = some (.inl (y0, m')) → rg y0 → RM c m' → ∀ k', k' < k → PW (gZ L xs) k' 91 d 88 [some (.ref 8), z0, some (yI y0), z1] [] m' n' Q) (He : ∀ (y0 : Int) (z0 z1 : Option Value) (m' : yM) (n' : Nat), B91_88 f A x2 m = some (.inr (.inl (y0, m'))) → rg y0 → RM c m' → ∀ k', k' ≤ k → PW (gZ L xs) k' 91 d 136 [some (.ref 8), z0, some (yI y0), z1] [] m' n' Q) (Hr : ∀ m', B91_88 f A x2 m = some (.inr (.inr ((), m'))) → RM c m' → ∀ n', Q (.inl none) m' n') : PW (gZ L xs) k 91 d 88 [some (.ref 8), j1, some (yI x2), j3] [] m n Q := by
  have hX : B91_88 f A x2 m = B91_88 f A x2 m := rfl
  refine p_iload 89 c91_88 rfl rfl ?_
  refine p_aload 90 c91_89 rfl rfl ?_
  refine p_getV 93 (.ref A) c91_90 rfl kf8_4 (pX_of hA hR.2.2.2.2.1 hc) ?_
  refine p_getX 96 (m A 16) c91_93 rfl (kP_16 hA) rfl ?_
  refine p_icmp 136 99 c91_96 rfl rfl ((yc_ge gx2 (hR.rg _ _)).trans Int.not_lt.symm) (fun hb2237 k2238 hk2238 => ?_) (fun hb2237 k2239 hk2239 => ?_)
  · have hX2240 := hX.trans (if_neg hb2237)
    exact He _ _ _ _ _ hX2240 gx2 hR _ (by omega)
  · have hX2241 := hX.trans (if_pos (Classical.not_not.mp hb2237))
    refine p_aload 100 c91_99 rfl rfl ?_
    refine p_getV 103 (.ref A) c91_100 rfl kf8_4 (pX_of hA hR.2.2.2.2.1 hc) ?_
    refine p_getR 106 c91_103 rfl (kP_6 hA) ?_
    refine p_iload 107 c91_106 rfl rfl ?_
    refine p_aaX 108 c91_107 rfl (kPr_7 hA) gx2 (fun hx2242 => ?_)
    have hX2243 := hX2241.trans (if_pos hx2242)
    refine p_astore 109 c91_108 rfl rfl ?_
    refine p_aload 110 c91_109 rfl rfl ?_
    refine p_aload 111 c91_110 rfl rfl ?_
    refine p_getR 114 c91_111 rfl kf8_2 ?_
    refine p_aload 115 c91_114 rfl rfl ?_
    refine p_getX 118 (m (A + 20 + (x2).toNat) 1) c91_115 rfl (kS_1 (kSr hA hx2242)) rfl ?_
    refine p_iaX 119 (m 71 (m (A + 20 + (x2).toNat) 1).toNat) c91_118 rfl ka71 (hR.rg _ _) rfl (fun hx2244 => ?_)
    refine p_cX 122 [.ref 8, yI (m 71 (m (A + 20 + (x2).toNat) 1).toNat)] [] c91_119 rfl rfl rfl (fun k' hk' d' => d78 (hR.rg _ _) hR) (fun hg2257 n2246 k2245 hk2245 => ?_)
    refine p_if 130 125 c91_122 rfl rfl (yz_eq hg2257) (fun hb2258 k2259 hk2259 => ?_) (fun hb2258 k2260 hk2260 => ?_)
    · have hX2261 := hX2243.trans (if_pos hb2258)
      exact tJ91_130 (f := f) (by omega) hc hA gx2 hR (fun y0 y1 y2 m' n' e' h0 hR' k' hk' => Hn y0 y1 y2 m' n' (hX2261.trans e') h0 hR' k' (by omega)) (fun y0 y1 y2 m' n' e' h0 hR' k' hk' => He y0 y1 y2 m' n' (hX2261.trans e') h0 hR' k' (by omega)) (fun m' e' => Hr m' (hX2261.trans e'))
    · have hX2263 := hX2243.trans (if_neg hb2258)
      refine p_aload 126 c91_125 rfl rfl ?_
      refine p_aload 127 c91_126 rfl rfl ?_
      refine p_cV 130 [.ref 8, .ref (A + 20 + (x2).toNat)] [] c91_127 rfl rfl rfl (fun k' hk' d' => d90 (f := f) (by omega) hc hA (kSr hA hx2242) hR) (fun m2754 hF2750 hR2755 n2265 k2264 hk2264 => ?_)
      have hX2753 := hX2263.trans (bU_s hF2750)
      exact tJ91_130 (f := f) (by omega) hc hA gx2 hR2755 (fun y0 y1 y2 m' n' e' h0 hR' k' hk' => Hn y0 y1 y2 m' n' (hX2753.trans e') h0 hR' k' (by omega)) (fun y0 y1 y2 m' n' e' h0 hR' k' hk' => He y0 y1 y2 m' n' (hX2753.trans e') h0 hR' k' (by omega)) (fun m' e' => Hr m' (hX2753.trans e'))
def B91_65 (f : Nat) (A : Nat) (m : yM) : Option ((Unit × yM) ⊕ ((Unit × yM) ⊕ (Unit × yM))) := (if m 8 5 < 2000 then (if m 8 5 = m 8 6 then (bL (yloop (fun (l : Int) ml => B91_88 f A l ml) f 0 m) (fun l2756 m2762 => (some (.inl ((), yup m2762 8 5 (wr ((m2762 8 5) + 1)))))) (fun _ mr => some (.inr (.inr ((), mr))))) else (some (.inr (.inl ((), m))))) else (some (.inr (.inl ((), m)))))
set_option maxRecDepth 100000 in
theorem tB91_65 {L : Nat} {xs : Nat → Int32} {Q : xO → yM → Nat → Prop} {k d n : Nat} {c : yS3} {f : Nat} {A : Nat} {m : yM} {j1 j2 j3 : Option Value} (hk : k ≤ f) (hc : c.2.1 = pX A) (hA : (A = 256 ∨ A = 316)) (hR : RM c m) (Hn : ∀ (z0 z1 z2 : Option Value) (m' : yM) (n' : Nat), B91_65 f A m = some (.inl ((), m')) → RM c m' → ∀ k', k' < k → PW (gZ L xs) k' 91 d 65 [some (.ref 8), z0, z1, z2] [] m' n' Q) (He : ∀ (z0 z1 z2 : Option Value) (m' : yM) (n' : Nat), B91_65 f A m = some (.inr (.inl ((), m'))) → RM c m' → ∀ k', k' ≤ k → PW (gZ L xs) k' 91 d 149 [some (.ref 8), z0, z1, z2] [] m' n' Q) (Hr : ∀ m', B91_65 f A m = some (.inr (.inr ((), m'))) → RM c m' → ∀ n', Q (.inl none) m' n') : PW (gZ L xs) k 91 d 65 [some (.ref 8), j1, j2, j3] [] m n Q := by
  have hX : B91_65 f A m = B91_65 f A m := rfl
  refine p_aload 66 c91_65 rfl rfl ?_
  refine p_getX 69 (m 8 5) c91_66 rfl kf8_5 rfl ?_
  refine p_iconst 72 c91_69 rfl ?_
  refine p_icmp 149 75 c91_72 rfl rfl ((yc_ge (hR.rg _ _) (rgD rfl)).trans Int.not_lt.symm) (fun hb2227 k2228 hk2228 => ?_) (fun hb2227 k2229 hk2229 => ?_)
  · have hX2230 := hX.trans (if_neg hb2227)
    exact He _ _ _ _ _ hX2230 hR _ (by omega)
  · have hX2231 := hX.trans (if_pos (Classical.not_not.mp hb2227))
    refine p_aload 76 c91_75 rfl rfl ?_
    refine p_getX 79 (m 8 5) c91_76 rfl kf8_5 rfl ?_
    refine p_aload 80 c91_79 rfl rfl ?_
    refine p_getX 83 (m 8 6) c91_80 rfl kf8_6 rfl ?_
    refine p_icmp 149 86 c91_83 rfl rfl (yc_ne (hR.rg _ _) (hR.rg _ _)) (fun hb2232 k2233 hk2233 => ?_) (fun hb2232 k2234 hk2234 => ?_)
    · have hX2235 := hX2231.trans (if_neg hb2232)
      exact He _ _ _ _ _ hX2235 hR _ (by omega)
    · have hX2236 := hX2231.trans (if_pos (Classical.not_not.mp hb2232))
      refine p_iconst 87 c91_86 rfl ?_
      refine p_istore 88 c91_87 rfl rfl ?_
      refine PW.loop (K := k2234) (pce := 136) (fun (l : Int) ml => B91_88 f A l ml) (fun (l : Int) j => [some (.ref 8), j 1, some (yI l), j 3]) (fun (l : Int) => rg l) (RM c) (fun (r' : Unit) m' => RM c m' → ∀ n' : Nat, Q (.inl none) m' n') (fun k' hk' l j m' n' hl hI Hn' He' Hr' => tB91_88 (f := f) (by omega) hc hA hl hI (fun y0 y1 y2 m2 n2 e h0 hR2 => Hn' y0 (fun q => ([none, y1, none, y2] : List (Option Value)).getD q none) m2 n2 e h0 hR2) (fun y0 y1 y2 m2 n2 e h0 hR2 => He' y0 (fun q => ([none, y1, none, y2] : List (Option Value)).getD q none) m2 n2 e h0 hR2) (fun m2 e => Hr' () m2 e)) f k2234 (by omega) (Nat.le_refl _) 0 (fun q => ([some (.ref 8), j1, some (yI 0), j3] : xL).getD q none) _ _ (rgD rfl) hR (fun l2756 j2759 m2762 n2761 e2758 hl2757 hR2763 k2760 hk2760 => ?_) (fun r' m' e' => ?_)
      · have hX2764 := hX2236.trans (bL_l e2758)
        refine p_aload 137 c91_136 rfl rfl ?_
        refine p_dup 138 c91_137 rfl rfl ?_
        refine p_getX 141 (m2762 8 5) c91_138 rfl kf8_5 rfl ?_
        refine p_iconst 142 c91_141 rfl ?_
        refine p_iadd 143 c91_142 rfl ?_
        refine p_putI 146 c91_143 rfl kf8_5 ?_
        have hR2765 := hR2763.up 8 5 (v := wr ((m2762 8 5) + 1)) (nselD rfl) (rg_wr _)
        refine p_gotoD 65 c91_146 rfl (fun k2766 hk2766 => ?_)
        exact Hn _ _ _ _ _ hX2764 hR2765 _ (by omega)
      · exact Hr m' (hX2236.trans (bL_r e'))
def F91 (f : Nat) (A : Nat) (m : yM) : Option yM := (bU (F77 f (yup m 8 4 (pX A))) (fun m2209 => (if m2209 A 17 = (-1) then (some m2209) else (if 0 ≤ (m2209 A 17) ∧ (m2209 A 17) < ((10 : Nat) : Int) then (if 0 ≤ (F57 (A + 10 + (m2209 A 17).toNat) (yup m2209 71 (m2209 A 17).toNat 0)) ∧ (F57 (A + 10 + (m2209 A 17).toNat) (yup m2209 71 (m2209 A 17).toNat 0)) < ((48 : Nat) : Int) then (bL (yloop (fun (l : Unit) ml => B91_65 f A ml) f () (yup (yup (yup m2209 71 (m2209 A 17).toNat 0) (10 + (F57 (A + 10 + (m2209 A 17).toNat) (yup m2209 71 (m2209 A 17).toNat 0)).toNat) 0 0) 8 5 0)) (fun _ m2773 => (some m2773)) (fun _ mr => some mr)) else none) else none))))
set_option maxRecDepth 100000 in
theorem d91 {L : Nat} {xs : Nat → Int32} {k d n : Nat} {c : yS3} {f : Nat} {A : Nat} {m : yM} (hk : k ≤ f) (hA : (A = 256 ∨ A = 316)) (hR : RM c m) : PC (gZ L xs) k d 91 [.ref 8, .ref A] m n (qV (c.1, pX A, c.2.2) (F91 f A m)) := by
  have hX : F91 f A m = F91 f A m := rfl
  have Hr : ∀ m', F91 f A m = some m' → RM (c.1, pX A, c.2.2) m' → ∀ n' : Nat, (qV (c.1, pX A, c.2.2) (F91 f A m)) (.inl none) m' n' := fun m' e h n' => ⟨rfl, h, e⟩
  refine PC.mk [some (.ref 8), some (.ref A), none, none] kn91 rfl ?_
  refine p_aload 1 c91_0 rfl rfl ?_
  refine p_aload 2 c91_1 rfl rfl ?_
  refine p_put 5 (x := pX A) c91_2 rfl kf8_4 (pX_sv hA) ?_
  have hR2060 := RM.s8 hR (pX_01 A)
  refine p_aload 6 c91_5 rfl rfl ?_
  refine p_cV 9 [.ref 8] [] c91_6 rfl rfl rfl (fun k' hk' d' => d77 (f := f) (by omega) hR2060) (fun m2209 hF2205 hR2210 n2062 k2061 hk2061 => ?_)
  have hX2208 := hX.trans (bU_s hF2205)
  refine p_aload 10 c91_9 rfl rfl ?_
  refine p_getV 13 (.ref A) c91_10 rfl kf8_4 (pX_of hA hR2210.2.2.2.2.1 (rfl : ((c.1, pX A, c.2.2) : yS3).2.1 = pX A)) ?_
  refine p_getX 16 (m2209 A 17) c91_13 rfl (kP_17 hA) rfl ?_
  refine p_iconst 17 c91_16 rfl ?_
  refine p_icmp 21 20 c91_17 rfl rfl (yc_ne (hR2210.rg _ _) (rgD rfl)) (fun hb2211 k2212 hk2212 => ?_) (fun hb2211 k2213 hk2213 => ?_)
  · have hX2214 := hX2208.trans (if_neg hb2211)
    refine p_aload 22 c91_21 rfl rfl ?_
    refine p_getR 25 c91_22 rfl kf8_2 ?_
    refine p_aload 26 c91_25 rfl rfl ?_
    refine p_getV 29 (.ref A) c91_26 rfl kf8_4 (pX_of hA hR2210.2.2.2.2.1 (rfl : ((c.1, pX A, c.2.2) : yS3).2.1 = pX A)) ?_
    refine p_getX 32 (m2209 A 17) c91_29 rfl (kP_17 hA) rfl ?_
    refine p_iconst 33 c91_32 rfl ?_
    refine p_iaS 34 c91_33 rfl ka71 (hR2210.rg _ _) 0 (nar0 (rgD rfl)) (fun hx2215 => ?_)
    have hR2216 := hR2210.up 71 (m2209 A 17).toNat (v := 0) (nselA (by decide)) (rgD rfl)
    refine p_aload 35 c91_34 rfl rfl ?_
    refine p_getR 38 c91_35 rfl kf8_0 ?_
    refine p_aload 39 c91_38 rfl rfl ?_
    refine p_getV 42 (.ref A) c91_39 rfl kf8_4 (pX_of hA hR2216.2.2.2.2.1 (rfl : ((c.1, pX A, c.2.2) : yS3).2.1 = pX A)) ?_
    refine p_getR 45 c91_42 rfl (kP_5 hA) ?_
    refine p_aload 46 c91_45 rfl rfl ?_
    refine p_getV 49 (.ref A) c91_46 rfl kf8_4 (pX_of hA hR2216.2.2.2.2.1 (rfl : ((c.1, pX A, c.2.2) : yS3).2.1 = pX A)) ?_
    refine p_getX 52 (m2209 A 17) c91_49 rfl (kP_17 hA) (yup_na (by omega)) ?_
    refine p_aaX 53 c91_52 rfl (kPr_6 hA) (hR2210.rg _ _) (fun hx2217 => ?_)
    have hX2218 := hX2214.trans (if_pos hx2217)
    refine p_cX 56 [.ref (A + 10 + (m2209 A 17).toNat)] [.ref 9] c91_53 rfl rfl rfl (fun k' hk' d' => d57 (kMr hA hx2217) hR2216) (fun hg2221 n2220 k2219 hk2219 => ?_)
    refine p_aaX 57 c91_56 rfl kr9 hg2221 (fun hx2222 => ?_)
    have hX2223 := hX2218.trans (if_pos hx2222)
    refine p_iconst 58 c91_57 rfl ?_
    refine p_iconst 59 c91_58 rfl ?_
    refine p_iaS 60 c91_59 rfl (kR9 hx2222) (rgD rfl) 0 (nar0 (rgD rfl)) (fun hx2224 => ?_)
    have hR2225 := hR2216.up (10 + (F57 (A + 10 + (m2209 A 17).toNat) (yup m2209 71 (m2209 A 17).toNat 0)).toNat) 0 (v := 0) (nselA (by omega)) (rgD rfl)
    refine p_aload 61 c91_60 rfl rfl ?_
    refine p_iconst 62 c91_61 rfl ?_
    refine p_putI 65 c91_62 rfl kf8_5 ?_
    have hR2226 := hR2225.up 8 5 (v := 0) (nselD rfl) (rgD rfl)
    refine PW.loop (K := k2219) (pce := 149) (fun (l : Unit) ml => B91_65 f A ml) (fun (l : Unit) j => [some (.ref 8), j 1, j 2, j 3]) (fun (l : Unit) => True) (RM ((c.1, pX A, c.2.2))) (fun (r' : Unit) m' => RM ((c.1, pX A, c.2.2)) m' → ∀ n' : Nat, (qV (c.1, pX A, c.2.2) (F91 f A m)) (.inl none) m' n') (fun k' hk' l j m' n' hl hI Hn' He' Hr' => tB91_65 (f := f) (by omega) (rfl : ((c.1, pX A, c.2.2) : yS3).2.1 = pX A) hA hI (fun y0 y1 y2 m2 n2 e  hR2 => Hn' () (fun q => ([none, y0, y1, y2] : List (Option Value)).getD q none) m2 n2 e trivial hR2) (fun y0 y1 y2 m2 n2 e  hR2 => He' () (fun q => ([none, y0, y1, y2] : List (Option Value)).getD q none) m2 n2 e trivial hR2) (fun m2 e => Hr' () m2 e)) f k2219 (by omega) (Nat.le_refl _) () (fun q => ([some (.ref 8), some (.ref A), none, none] : xL).getD q none) _ _ trivial hR2226 (fun l2767 j2770 m2773 n2772 e2769 hl2768 hR2774 k2771 hk2771 => ?_) (fun r' m' e' => ?_)
    · have hX2775 := hX2223.trans (bL_l e2769)
      exact p_return c91_149 (Hr _ hX2775 hR2774 _)
    · exact Hr m' (hX2223.trans (bL_r e'))
  · have hX2776 := hX2208.trans (if_pos (Classical.not_not.mp hb2211))
    exact p_return c91_20 (Hr _ hX2776 hR2210 _)
def B92_2 (f : Nat) (x1 : Int) (m : yM) : Option ((Int × yM) ⊕ ((Int × yM) ⊕ (Unit × yM))) := (if x1 < 48 then (if 0 ≤ x1 ∧ x1 < ((48 : Nat) : Int) then (bU (F75_12 f (171 + (x1).toNat) 0 m) (fun m2798 => (some (.inl ((wr (x1 + 1)), m2798))))) else none) else (some (.inr (.inl (x1, m)))))
set_option maxRecDepth 100000 in
theorem tB92_2 {L : Nat} {xs : Nat → Int32} {Q : xO → yM → Nat → Prop} {k d n : Nat} {c : yS3} {f : Nat} {x1 : Int} {m : yM} (hk : k ≤ f) (gx1 : rg x1) (hR : RM c m) (Hn : ∀ (y0 : Int) (m' : yM) (n' : Nat), B92_2 f x1 m = some (.inl (y0, m')) → rg y0 → RM c m' → ∀ k', k' < k → PW (gZ L xs) k' 92 d 2 [some (.ref 169), some (yI y0)] [] m' n' Q) (He : ∀ (y0 : Int) (m' : yM) (n' : Nat), B92_2 f x1 m = some (.inr (.inl (y0, m'))) → rg y0 → RM c m' → ∀ k', k' ≤ k → PW (gZ L xs) k' 92 d 24 [some (.ref 169), some (yI y0)] [] m' n' Q) (Hr : ∀ m', B92_2 f x1 m = some (.inr (.inr ((), m'))) → RM c m' → ∀ n', Q (.inl none) m' n') : PW (gZ L xs) k 92 d 2 [some (.ref 169), some (yI x1)] [] m n Q := by
  have hX : B92_2 f x1 m = B92_2 f x1 m := rfl
  refine p_iload 3 c92_2 rfl rfl ?_
  refine p_iconst 5 c92_3 rfl ?_
  refine p_icmp 24 8 c92_5 rfl rfl ((yc_ge gx1 (rgD rfl)).trans Int.not_lt.symm) (fun hb2785 k2786 hk2786 => ?_) (fun hb2785 k2787 hk2787 => ?_)
  · have hX2788 := hX.trans (if_neg hb2785)
    exact He _ _ _ hX2788 gx1 hR _ (by omega)
  · have hX2789 := hX.trans (if_pos (Classical.not_not.mp hb2785))
    refine p_aload 9 c92_8 rfl rfl ?_
    refine p_getR 12 c92_9 rfl kf169_0 ?_
    refine p_iload 13 c92_12 rfl rfl ?_
    refine p_aaX 14 c92_13 rfl kr170 gx1 (fun hx2790 => ?_)
    have hX2791 := hX2789.trans (if_pos hx2790)
    refine p_iconst 15 c92_14 rfl ?_
    refine p_cV 18 [.ref (171 + (x1).toNat), yI 0] [] c92_15 rfl rfl rfl (fun k' hk' d' => d75_12 (f := f) (by omega) (kR170 hx2790) (by omega) (rgD rfl) hR) (fun m2798 hF2794 hR2799 n2793 k2792 hk2792 => ?_)
    have hX2797 := hX2791.trans (bU_s hF2794)
    refine p_iinc 21 c92_18 rfl rfl rfl ?_
    refine p_gotoD 2 c92_21 rfl (fun k2800 hk2800 => ?_)
    exact Hn _ _ _ hX2797 (rg_wr _) hR2799 _ (by omega)
def F92 (f : Nat) (m : yM) : Option yM := (bL (yloop (fun (l : Int) ml => B92_2 f l ml) f 0 m) (fun l2801 m2807 => (some m2807)) (fun _ mr => some mr))
set_option maxRecDepth 100000 in
theorem d92 {L : Nat} {xs : Nat → Int32} {k d n : Nat} {c : yS3} {f : Nat} {m : yM} (hk : k ≤ f) (hR : RM c m) : PC (gZ L xs) k d 92 [.ref 169] m n (qV c (F92 f m)) := by
  have hX : F92 f m = F92 f m := rfl
  have Hr : ∀ m', F92 f m = some m' → RM c m' → ∀ n' : Nat, (qV c (F92 f m)) (.inl none) m' n' := fun m' e h n' => ⟨rfl, h, e⟩
  refine PC.mk [some (.ref 169), none] kn92 rfl ?_
  refine p_iconst 1 c92_0 rfl ?_
  refine p_istore 2 c92_1 rfl rfl ?_
  refine PW.loop (K := k) (pce := 24) (fun (l : Int) ml => B92_2 f l ml) (fun (l : Int) j => [some (.ref 169), some (yI l)]) (fun (l : Int) => rg l) (RM c) (fun (r' : Unit) m' => RM c m' → ∀ n' : Nat, (qV c (F92 f m)) (.inl none) m' n') (fun k' hk' l j m' n' hl hI Hn' He' Hr' => tB92_2 (f := f) (by omega) hl hI (fun y0 m2 n2 e h0 hR2 => Hn' y0 (fun q => ([none, none] : List (Option Value)).getD q none) m2 n2 e h0 hR2) (fun y0 m2 n2 e h0 hR2 => He' y0 (fun q => ([none, none] : List (Option Value)).getD q none) m2 n2 e h0 hR2) (fun m2 e => Hr' () m2 e)) f k (by omega) (Nat.le_refl _) 0 (fun q => ([some (.ref 169), some (yI 0)] : xL).getD q none) _ _ (rgD rfl) hR (fun l2801 j2804 m2807 n2806 e2803 hl2802 hR2808 k2805 hk2805 => ?_) (fun r' m' e' => ?_)
  · have hX2809 := hX.trans (bL_l e2803)
    exact p_return c92_24 (Hr _ hX2809 hR2808 _)
  · exact Hr m' (hX.trans (bL_r e'))
def J93_43 (f : Nat) (A : Nat) (x1 : Int) (x2 : Int) (x3 : Int) : Option ((Int × Int) ⊕ ((Int × Int) ⊕ Int)) := (some (.inl (x1, wr (x3 + 1))))
set_option maxRecDepth 100000 in
theorem tJ93_43 {L : Nat} {xs : Nat → Int32} {Q : xO → yM → Nat → Prop} {k d n : Nat} {c : yS3} {f : Nat} {A : Nat} {x1 : Int} {x2 : Int} {x3 : Int} {m : yM} (hk : k ≤ f) (hc : c.2.1 = pX A) (hA : (A = 256 ∨ A = 316)) (gx1 : rg x1) (gx2 : rg x2) (gx3 : rg x3) (hR : RM c m) (Hn : ∀ (y0 y1 : Int) (n' : Nat), J93_43 f A x1 x2 x3 = some (.inl (y0, y1)) → rg y0 → rg y1 → ∀ k', k' < k → PW (gZ L xs) k' 93 d 17 [some (.ref 8), some (yI y0), some (yI x2), some (yI y1)] [] m n' Q) (He : ∀ (y0 y1 : Int) (n' : Nat), J93_43 f A x1 x2 x3 = some (.inr (.inl (y0, y1))) → rg y0 → rg y1 → ∀ k', k' ≤ k → PW (gZ L xs) k' 93 d 49 [some (.ref 8), some (yI y0), some (yI x2), some (yI y1)] [] m n' Q) (Hr : ∀ r, J93_43 f A x1 x2 x3 = some (.inr (.inr r)) → rg r → ∀ n', Q (.inl (some (yI r))) m n') : PW (gZ L xs) k 93 d 43 [some (.ref 8), some (yI x1), some (yI x2), some (yI x3)] [] m n Q := by
  have hX : J93_43 f A x1 x2 x3 = J93_43 f A x1 x2 x3 := rfl
  refine p_iinc 46 c93_43 rfl rfl rfl ?_
  refine p_gotoD 17 c93_46 rfl (fun k2835 hk2835 => ?_)
  exact Hn _ _ _ hX gx1 (rg_wr _) _ (by omega)
def B93_17 (f : Nat) (A : Nat) (x2 : Int) (x1 : Int) (x3 : Int) (m : yM) : Option ((Int × Int) ⊕ ((Int × Int) ⊕ Int)) := (if x3 < m A 14 then (if 0 ≤ x2 ∧ x2 < ((48 : Nat) : Int) then (if m (10 + (x2).toNat) x3.toNat = (-1) then (J93_43 f A x1 x2 x3) else (J93_43 f A (wr (x1 + 1)) x2 x3)) else none) else (some (.inr (.inl (x1, x3)))))
set_option maxRecDepth 100000 in
theorem tB93_17 {L : Nat} {xs : Nat → Int32} {Q : xO → yM → Nat → Prop} {k d n : Nat} {c : yS3} {f : Nat} {A : Nat} {x2 : Int} {x1 : Int} {x3 : Int} {m : yM} (hk : k ≤ f) (hc : c.2.1 = pX A) (hA : (A = 256 ∨ A = 316)) (gx2 : rg x2) (gx1 : rg x1) (gx3 : rg x3) (hR : RM c m) (Hn : ∀ (y0 y1 : Int) (n' : Nat), B93_17 f A x2 x1 x3 m = some (.inl (y0, y1)) → rg y0 → rg y1 → ∀ k', k' < k → PW (gZ L xs) k' 93 d 17 [some (.ref 8), some (yI y0), some (yI x2), some (yI y1)] [] m n' Q) (He : ∀ (y0 y1 : Int) (n' : Nat), B93_17 f A x2 x1 x3 m = some (.inr (.inl (y0, y1))) → rg y0 → rg y1 → ∀ k', k' ≤ k → PW (gZ L xs) k' 93 d 49 [some (.ref 8), some (yI y0), some (yI x2), some (yI y1)] [] m n' Q) (Hr : ∀ r, B93_17 f A x2 x1 x3 m = some (.inr (.inr r)) → rg r → ∀ n', Q (.inl (some (yI r))) m n') : PW (gZ L xs) k 93 d 17 [some (.ref 8), some (yI x1), some (yI x2), some (yI x3)] [] m n Q := by
  have hX : B93_17 f A x2 x1 x3 m = B93_17 f A x2 x1 x3 m := rfl
  refine p_iload 18 c93_17 rfl rfl ?_
  refine p_aload 19 c93_18 rfl rfl ?_
  refine p_getV 22 (.ref A) c93_19 rfl kf8_4 (pX_of hA hR.2.2.2.2.1 hc) ?_
  refine p_getX 25 (m A 14) c93_22 rfl (kP_14 hA) rfl ?_
  refine p_icmp 49 28 c93_25 rfl rfl ((yc_ge gx3 (hR.rg _ _)).trans Int.not_lt.symm) (fun hb2823 k2824 hk2824 => ?_) (fun hb2823 k2825 hk2825 => ?_)
  · have hX2826 := hX.trans (if_neg hb2823)
    exact He _ _ _ hX2826 gx1 gx3 _ (by omega)
  · have hX2827 := hX.trans (if_pos (Classical.not_not.mp hb2823))
    refine p_aload 29 c93_28 rfl rfl ?_
    refine p_getR 32 c93_29 rfl kf8_0 ?_
    refine p_iload 33 c93_32 rfl rfl ?_
    refine p_aaX 34 c93_33 rfl kr9 gx2 (fun hx2828 => ?_)
    have hX2829 := hX2827.trans (if_pos hx2828)
    refine p_iload 35 c93_34 rfl rfl ?_
    refine p_iaX 36 (m (10 + (x2).toNat) x3.toNat) c93_35 rfl (kR9 hx2828) gx3 rfl (fun hx2830 => ?_)
    refine p_iconst 37 c93_36 rfl ?_
    refine p_icmp 43 40 c93_37 rfl rfl (yc_eq (hR.rg _ _) (rgD rfl)) (fun hb2831 k2832 hk2832 => ?_) (fun hb2831 k2833 hk2833 => ?_)
    · have hX2834 := hX2829.trans (if_pos hb2831)
      exact tJ93_43 (f := f) (by omega) hc hA gx1 gx2 gx3 hR (fun y0 y1 n' e' h0 h1 k' hk' => Hn y0 y1 n' (hX2834.trans e') h0 h1 k' (by omega)) (fun y0 y1 n' e' h0 h1 k' hk' => He y0 y1 n' (hX2834.trans e') h0 h1 k' (by omega)) (fun r' e' => Hr r' (hX2834.trans e'))
    · have hX2836 := hX2829.trans (if_neg hb2831)
      refine p_iinc 43 c93_40 rfl rfl rfl ?_
      exact tJ93_43 (f := f) (by omega) hc hA (rg_wr _) gx2 gx3 hR (fun y0 y1 n' e' h0 h1 k' hk' => Hn y0 y1 n' (hX2836.trans e') h0 h1 k' (by omega)) (fun y0 y1 n' e' h0 h1 k' hk' => He y0 y1 n' (hX2836.trans e') h0 h1 k' (by omega)) (fun r' e' => Hr r' (hX2836.trans e'))
def B93_4 (f : Nat) (A : Nat) (x1 : Int) (x2 : Int) (m : yM) : Option ((Int × Int) ⊕ ((Int × Int) ⊕ Int)) := (if x2 < m A 15 then (bQ (ploop (fun (l : Int × Int) => B93_17 f A x2 l.1 l.2 m) f (x1, 0)) (fun l2837 => (some (.inl (l2837.1, wr (x2 + 1))))) (fun r => some (.inr (.inr r)))) else (some (.inr (.inl (x1, x2)))))
set_option maxRecDepth 100000 in
theorem tB93_4 {L : Nat} {xs : Nat → Int32} {Q : xO → yM → Nat → Prop} {k d n : Nat} {c : yS3} {f : Nat} {A : Nat} {x1 : Int} {x2 : Int} {m : yM} {j3 : Option Value} (hk : k ≤ f) (hc : c.2.1 = pX A) (hA : (A = 256 ∨ A = 316)) (gx1 : rg x1) (gx2 : rg x2) (hR : RM c m) (Hn : ∀ (y0 y1 : Int) (z0 : Option Value) (n' : Nat), B93_4 f A x1 x2 m = some (.inl (y0, y1)) → rg y0 → rg y1 → ∀ k', k' < k → PW (gZ L xs) k' 93 d 4 [some (.ref 8), some (yI y0), some (yI y1), z0] [] m n' Q) (He : ∀ (y0 y1 : Int) (z0 : Option Value) (n' : Nat), B93_4 f A x1 x2 m = some (.inr (.inl (y0, y1))) → rg y0 → rg y1 → ∀ k', k' ≤ k → PW (gZ L xs) k' 93 d 55 [some (.ref 8), some (yI y0), some (yI y1), z0] [] m n' Q) (Hr : ∀ r, B93_4 f A x1 x2 m = some (.inr (.inr r)) → rg r → ∀ n', Q (.inl (some (yI r))) m n') : PW (gZ L xs) k 93 d 4 [some (.ref 8), some (yI x1), some (yI x2), j3] [] m n Q := by
  have hX : B93_4 f A x1 x2 m = B93_4 f A x1 x2 m := rfl
  refine p_iload 5 c93_4 rfl rfl ?_
  refine p_aload 6 c93_5 rfl rfl ?_
  refine p_getV 9 (.ref A) c93_6 rfl kf8_4 (pX_of hA hR.2.2.2.2.1 hc) ?_
  refine p_getX 12 (m A 15) c93_9 rfl (kP_15 hA) rfl ?_
  refine p_icmp 55 15 c93_12 rfl rfl ((yc_ge gx2 (hR.rg _ _)).trans Int.not_lt.symm) (fun hb2818 k2819 hk2819 => ?_) (fun hb2818 k2820 hk2820 => ?_)
  · have hX2821 := hX.trans (if_neg hb2818)
    exact He _ _ _ _ hX2821 gx1 gx2 _ (by omega)
  · have hX2822 := hX.trans (if_pos (Classical.not_not.mp hb2818))
    refine p_iconst 16 c93_15 rfl ?_
    refine p_istore 17 c93_16 rfl rfl ?_
    refine PW.ploop (K := k2820) (pce := 49) (fun (l : Int × Int) => B93_17 f A x2 l.1 l.2 m) (fun (l : Int × Int) j => [some (.ref 8), some (yI l.1), some (yI x2), some (yI l.2)]) (fun (l : Int × Int) => rg l.1 ∧ rg l.2) (fun r' => rg r' → ∀ n' : Nat, Q (.inl (some (yI r'))) m n') (fun k' hk' l j n' hl Hn' He' Hr' => tB93_17 (f := f) (by omega) hc hA gx2 hl.1 hl.2 hR (fun y0 y1 n2 e h0 h1 => Hn' (y0, y1) (fun q => ([none, none, none, none] : List (Option Value)).getD q none) n2 e ⟨h0, h1⟩) (fun y0 y1 n2 e h0 h1 => He' (y0, y1) (fun q => ([none, none, none, none] : List (Option Value)).getD q none) n2 e ⟨h0, h1⟩) Hr') f k2820 (by omega) (Nat.le_refl _) (x1, 0) (fun q => ([some (.ref 8), some (yI x1), some (yI x2), some (yI 0)] : xL).getD q none) _ ⟨gx1, (rgD rfl)⟩ (fun l2837 j2840 n2842 e2839 hl2838 k2841 hk2841 => ?_) (fun r' e' => ?_)
    · have hX2843 := hX2822.trans (bQ_l e2839)
      refine p_iinc 52 c93_49 rfl rfl rfl ?_
      refine p_gotoD 4 c93_52 rfl (fun k2844 hk2844 => ?_)
      exact Hn _ _ _ _ hX2843 hl2838.1 (rg_wr _) _ (by omega)
    · exact Hr r' (hX2822.trans (bQ_r e'))
def F93 (f : Nat) (A : Nat) (m : yM) : Option Int := (bQ (ploop (fun (l : Int × Int) => B93_4 f A l.1 l.2 m) f (0, 0)) (fun l2845 => (some l2845.1)) (fun r => some r))
set_option maxRecDepth 100000 in
theorem d93 {L : Nat} {xs : Nat → Int32} {k d n : Nat} {c : yS3} {f : Nat} {A : Nat} {m : yM} (hk : k ≤ f) (hc : c.2.1 = pX A) (hA : (A = 256 ∨ A = 316)) (hR : RM c m) : PC (gZ L xs) k d 93 [.ref 8] m n (qO m (F93 f A m)) := by
  have hX : F93 f A m = F93 f A m := rfl
  have Hr : ∀ r, F93 f A m = some r → rg r → ∀ n' : Nat, (qO m (F93 f A m)) (.inl (some (yI r))) m n' := fun r e h n' => ⟨r, rfl, h, rfl, e⟩
  refine PC.mk [some (.ref 8), none, none, none] kn93 rfl ?_
  refine p_iconst 1 c93_0 rfl ?_
  refine p_istore 2 c93_1 rfl rfl ?_
  refine p_iconst 3 c93_2 rfl ?_
  refine p_istore 4 c93_3 rfl rfl ?_
  refine PW.ploop (K := k) (pce := 55) (fun (l : Int × Int) => B93_4 f A l.1 l.2 m) (fun (l : Int × Int) j => [some (.ref 8), some (yI l.1), some (yI l.2), j 3]) (fun (l : Int × Int) => rg l.1 ∧ rg l.2) (fun r' => rg r' → ∀ n' : Nat, (qO m (F93 f A m)) (.inl (some (yI r'))) m n') (fun k' hk' l j n' hl Hn' He' Hr' => tB93_4 (f := f) (by omega) hc hA hl.1 hl.2 hR (fun y0 y1 y2 n2 e h0 h1 => Hn' (y0, y1) (fun q => ([none, none, none, y2] : List (Option Value)).getD q none) n2 e ⟨h0, h1⟩) (fun y0 y1 y2 n2 e h0 h1 => He' (y0, y1) (fun q => ([none, none, none, y2] : List (Option Value)).getD q none) n2 e ⟨h0, h1⟩) Hr') f k (by omega) (Nat.le_refl _) (0, 0) (fun q => ([some (.ref 8), some (yI 0), some (yI 0), none] : xL).getD q none) _ ⟨(rgD rfl), (rgD rfl)⟩ (fun l2845 j2848 n2850 e2847 hl2846 k2849 hk2849 => ?_) (fun r' e' => ?_)
  · have hX2851 := hX.trans (bQ_l e2847)
    refine p_iload 56 c93_55 rfl rfl ?_
    exact p_ireturn c93_56 (Hr _ hX2851 hl2846.1 _)
  · exact Hr r' (hX.trans (bQ_r e'))
def F94 (f : Nat) (m : yM) : Option ((Int ⊕ Nat) × yM) := (bI (F74 f (m 0 6) (pA (m 0 5)) m) (fun r2047 m2049 => (if r2047 = (-1) then (bU (F91 f (pA (pX (pA (m2049 0 5)))) (yup (yup (yup m2049 0 7 r2047) 0 4 (pX (pA (m2049 0 5)))) 0 5 (pX (pA (m2049 0 4))))) (fun m2781 => (bU (F92 f m2781) (fun m2814 => (bP (F93 f (pA (pX (pA (m2049 0 5)))) m2814) (fun r2854 => (some (.inl r2854, m2814)))))))) else (some (.inr 9, yup m2049 0 7 r2047)))))
set_option maxRecDepth 100000 in
theorem d94 {L : Nat} {xs : Nat → Int32} {k d n : Nat} {c : yS3} {f : Nat} {m : yM} (hk : k ≤ f) (hR : RM c m) : PC (gZ L xs) k d 94 [.ref 0] m n (qEIe (fun e => e = 9) (F94 f m)) := by
  have hX : F94 f m = F94 f m := rfl
  have Hr : ∀ r m', F94 f m = some (.inl r, m') → rg r → (∃ c, RM c m') → ∀ n' : Nat, (qEIe (fun e => e = 9) (F94 f m)) (.inl (some (yI r))) m' n' := fun r m' e h1 h2 n' => Or.inl ⟨r, rfl, h1, h2, e⟩
  have Ht : ∀ e m', F94 f m = some (.inr e, m') → (fun e => e = 9) e → (∃ c, RM c m') → ∀ x n' : Nat, (qEIe (fun e => e = 9) (F94 f m)) (.inr (e, x)) m' n' := fun e m' e1 h1 h2 x n' => Or.inr ⟨e, x, rfl, h1, h2, e1⟩
  refine PC.mk [some (.ref 0), none] kn94 rfl ?_
  refine p_aload 1 c94_0 rfl rfl ?_
  refine p_aload 2 c94_1 rfl rfl ?_
  refine p_getR 5 c94_2 rfl kf0_1 ?_
  refine p_aload 6 c94_5 rfl rfl ?_
  refine p_getR 9 c94_6 rfl kf0_0 ?_
  refine p_aload 10 c94_9 rfl rfl ?_
  refine p_getX 13 (m 0 6) c94_10 rfl kf0_6 rfl ?_
  refine p_aload 14 c94_13 rfl rfl ?_
  refine p_getV 17 (.ref (pA (m 0 5))) c94_14 rfl kf0_5 (pA_sv2 hR.2.2.1 rfl) ?_
  refine p_cS 20 [.ref 2, .ref 1, yI (m 0 6), .ref (pA (m 0 5))] [.ref 0] c94_17 rfl rfl rfl (fun k' hk' d' => d74 (f := f) (by omega) (hR.rg _ _) (pA_is _) hR) (fun r2047 m2049 hF2045 hg2046 hR2050 n296 k295 hk295 => ?_)
  have hX2048 := hX.trans (bI_s hF2045)
  refine p_putI 23 c94_20 rfl kf0_7 ?_
  have hR2051 := hR2050.up 0 7 (v := r2047) (nselD rfl) hg2046
  refine p_aload 24 c94_23 rfl rfl ?_
  refine p_getX 27 r2047 c94_24 rfl kf0_7 (yup_eq _ _ _ _) ?_
  refine p_iconst 28 c94_27 rfl ?_
  refine p_icmp 39 31 c94_28 rfl rfl (yc_eq hg2046 (rgD rfl)) (fun hb2052 k2053 hk2053 => ?_) (fun hb2052 k2054 hk2054 => ?_)
  · have hX2055 := hX2048.trans (if_pos hb2052)
    refine p_aload 40 c94_39 rfl rfl ?_
    refine p_getV 43 (.ref (pA (m2049 0 4))) c94_40 rfl kf0_4 (pA_sv2 hR2051.2.1 (yup_nk (by decide))) ?_
    refine p_astore 44 c94_43 rfl rfl ?_
    refine p_aload 45 c94_44 rfl rfl ?_
    refine p_aload 46 c94_45 rfl rfl ?_
    refine p_getV 49 (.ref (pA (m2049 0 5))) c94_46 rfl kf0_5 (pA_sv2 hR2051.2.2.1 (yup_nk (by decide))) ?_
    refine p_put 52 (x := pX (pA (m2049 0 5))) c94_49 rfl kf0_4 (pX_sv (pA_is _)) ?_
    have hR2056 := RM.s04 hR2051 (pX_01 (pA (m2049 0 5)))
    refine p_aload 53 c94_52 rfl rfl ?_
    refine p_aload 54 c94_53 rfl rfl ?_
    refine p_put 57 (x := pX (pA (m2049 0 4))) c94_54 rfl kf0_5 (pX_sv (pA_is _)) ?_
    have hR2057 := RM.s05 hR2056 (pX_01 (pA (m2049 0 4)))
    refine p_aload 58 c94_57 rfl rfl ?_
    refine p_getR 61 c94_58 rfl kf0_2 ?_
    refine p_aload 62 c94_61 rfl rfl ?_
    refine p_getV 65 (.ref (pA (pX (pA (m2049 0 5))))) c94_62 rfl kf0_4 (pA_sv2 hR2057.2.1 ((yup_nk (by decide)).trans (yup_eq _ _ _ _))) ?_
    refine p_cV 68 [.ref 8, .ref (pA (pX (pA (m2049 0 5))))] [] c94_65 rfl rfl rfl (fun k' hk' d' => d91 (f := f) (by omega) (pA_is _) hR2057) (fun m2781 hF2777 hR2782 n2059 k2058 hk2058 => ?_)
    have hX2780 := hX2055.trans (bU_s hF2777)
    refine p_aload 69 c94_68 rfl rfl ?_
    refine p_getR 72 c94_69 rfl kf0_3 ?_
    refine p_cV 75 [.ref 169] [] c94_72 rfl rfl rfl (fun k' hk' d' => d92 (f := f) (by omega) hR2782) (fun m2814 hF2810 hR2815 n2784 k2783 hk2783 => ?_)
    have hX2813 := hX2780.trans (bU_s hF2810)
    refine p_aload 76 c94_75 rfl rfl ?_
    refine p_getR 79 c94_76 rfl kf0_2 ?_
    refine p_cO 82 [.ref 8] [] c94_79 rfl rfl rfl (fun k' hk' d' => d93 (f := f) (by omega) (rfl : ((((pX (pA (m 0 5)), c.2)).1, pX (pA (pX (pA (m2049 0 5)))), ((pX (pA (m 0 5)), c.2)).2.2) : yS3).2.1 = pX (pA (pX (pA (m2049 0 5))))) (pA_is _) hR2815) (fun r2854 hF2852 hg2853 n2817 k2816 hk2816 => ?_)
    have hX2855 := hX2813.trans (bP_s hF2852)
    exact p_ireturn c94_82 (Hr _ _ hX2855 hg2853 ⟨_, hR2815⟩ _)
  · have hX2856 := hX2048.trans (if_neg hb2052)
    exact p_throw c94_31 (fun x n' => Ht _ _ hX2856 rfl ⟨_, hR2051⟩ x n')
def F95 (f : Nat) (m : yM) : Option (Int × yM) := (bT (F94 f m) (fun r2859 m2861 => (some (0, yup m2861 413 0 ((i2l r2859).toInt)))) (fun e' m2861 => (if e' = 9 then (some (1, m2861)) else none)))
set_option maxRecDepth 100000 in
theorem d95 {L : Nat} {xs : Nat → Int32} {k d n : Nat} {c : yS3} {f : Nat} {m : yM} (hk : k ≤ f) (hR : RM c m) : PC (gZ L xs) k d 95 [.ref 0, .ref 413] m n (qSe (F95 f m)) := by
  have hX : F95 f m = F95 f m := rfl
  have Hr : ∀ r m', F95 f m = some (r, m') → rg r → (∃ c, RM c m') → ∀ n' : Nat, (qSe (F95 f m)) (.inl (some (yI r))) m' n' := fun r m' e h1 h2 n' => ⟨r, rfl, h1, h2, e⟩
  refine PC.mk [some (.ref 0), some (.ref 413), none] kn95 rfl ?_
  refine p_aload 1 c95_0 rfl rfl ?_
  refine p_iconst 2 c95_1 rfl ?_
  refine p_aload 3 c95_2 rfl rfl ?_
  refine p_cTIe 6 [.ref 0] [yI 0, .ref 413] c95_3 rfl rfl rfl (fun k' hk' d' => d94 (f := f) (by omega) hR) (fun r2859 m2861 c2867 hF2857 hg2858 hR2862 n294 k293 hk293 => ?_) (fun e' q2866 m2861 n' c2867 hF2857 hE2864 hR2865 => ?_)
  · have hX2860 := hX.trans (bT_l hF2857)
    refine p_i2l 7 c95_6 rfl ?_
    refine p_laS 8 c95_7 rfl kl413 (rgD rfl) (fun hx2868 => ?_)
    have hR2869 := hR2862.up 413 0 (v := (i2l r2859).toInt) (nselD rfl) (rg_i2l _)
    refine p_goto 14 c95_8 rfl ?_
    refine p_iconst 15 c95_14 rfl ?_
    exact p_ireturn c95_15 (Hr _ _ hX2860 (rgD rfl) ⟨_, hR2869⟩ _)
  · have hXe := hX.trans (bT_r hF2857)
    cases (show e' = 9 from hE2864)
    have hX2870 := hXe.trans (if_pos rfl)
    refine ⟨fun pq hpq k2871 hk2871 => ?_, fun hno => absurd (r_kh95_3_9.symm.trans hno) (by simp)⟩
    have hpp : pq = 11 := by have := r_kh95_3_9.symm.trans hpq; simpa using this.symm
    subst hpp
    refine p_astore 12 c95_11 rfl rfl ?_
    refine p_iconst 13 c95_12 rfl ?_
    exact p_ireturn c95_13 (Hr _ _ hX2870 (rgD rfl) ⟨_, hR2865⟩ _)
def F96 (m : yM) : Int := (wr (1 - (m 376 18)))
set_option maxRecDepth 100000 in
theorem d96 {L : Nat} {xs : Nat → Int32} {k d n : Nat} {c : yS3} {m : yM} (hR : RM c m) : PC (gZ L xs) k d 96 [.ref 376] m n (qX m (F96 m)) := by
  have hX : F96 m = F96 m := rfl
  have Hr : ∀ r, F96 m = r → rg r → ∀ n' : Nat, (qX m (F96 m)) (.inl (some (yI r))) m n' := fun r e h n' => by subst e; exact ⟨rfl, h, rfl⟩
  refine PC.mk [some (.ref 376)] kn96 rfl ?_
  refine p_iconst 1 c96_0 rfl ?_
  refine p_aload 2 c96_1 rfl rfl ?_
  refine p_getX 5 (m 376 18) c96_2 rfl kf376_18 rfl ?_
  refine p_isub 6 c96_5 rfl ?_
  exact p_ireturn c96_6 (Hr _ hX (rg_wr _) _)
def F97 (x0 : Int) : Int := (if x0 = 123 then 1 else (if x0 = 125 then 1 else (if x0 = 40 then 1 else (if x0 = 41 then 1 else (if x0 = 61 then 1 else (if x0 = 46 then 1 else (if x0 = 44 then 1 else (if x0 = 59 then 1 else (if x0 = 58 then 1 else 0)))))))))
set_option maxRecDepth 100000 in
theorem d97 {L : Nat} {xs : Nat → Int32} {k d n : Nat} {c : yS3} {x0 : Int} {m : yM} (gx0 : rg x0) (hR : RM c m) : PC (gZ L xs) k d 97 [yI x0] m n (qX m (F97 x0)) := by
  have hX : F97 x0 = F97 x0 := rfl
  have Hr : ∀ r, F97 x0 = r → rg r → ∀ n' : Nat, (qX m (F97 x0)) (.inl (some (yI r))) m n' := fun r e h n' => by subst e; exact ⟨rfl, h, rfl⟩
  refine PC.mk [some (yI x0)] kn97 rfl ?_
  refine p_iload 1 c97_0 rfl rfl ?_
  refine p_iconst 3 c97_1 rfl ?_
  refine p_icmp 54 6 c97_3 rfl rfl (yc_eq gx0 (rgD rfl)) (fun hb2938 k2939 hk2939 => ?_) (fun hb2938 k2940 hk2940 => ?_)
  · have hX2941 := hX.trans (if_pos hb2938)
    refine p_iconst 55 c97_54 rfl ?_
    refine p_goto 59 c97_55 rfl ?_
    exact p_ireturn c97_59 (Hr _ hX2941 (rgD rfl) _)
  · have hX2942 := hX.trans (if_neg hb2938)
    refine p_iload 7 c97_6 rfl rfl ?_
    refine p_iconst 9 c97_7 rfl ?_
    refine p_icmp 54 12 c97_9 rfl rfl (yc_eq gx0 (rgD rfl)) (fun hb2943 k2944 hk2944 => ?_) (fun hb2943 k2945 hk2945 => ?_)
    · have hX2946 := hX2942.trans (if_pos hb2943)
      refine p_iconst 55 c97_54 rfl ?_
      refine p_goto 59 c97_55 rfl ?_
      exact p_ireturn c97_59 (Hr _ hX2946 (rgD rfl) _)
    · have hX2947 := hX2942.trans (if_neg hb2943)
      refine p_iload 13 c97_12 rfl rfl ?_
      refine p_iconst 15 c97_13 rfl ?_
      refine p_icmp 54 18 c97_15 rfl rfl (yc_eq gx0 (rgD rfl)) (fun hb2948 k2949 hk2949 => ?_) (fun hb2948 k2950 hk2950 => ?_)
      · have hX2951 := hX2947.trans (if_pos hb2948)
        refine p_iconst 55 c97_54 rfl ?_
        refine p_goto 59 c97_55 rfl ?_
        exact p_ireturn c97_59 (Hr _ hX2951 (rgD rfl) _)
      · have hX2952 := hX2947.trans (if_neg hb2948)
        refine p_iload 19 c97_18 rfl rfl ?_
        refine p_iconst 21 c97_19 rfl ?_
        refine p_icmp 54 24 c97_21 rfl rfl (yc_eq gx0 (rgD rfl)) (fun hb2953 k2954 hk2954 => ?_) (fun hb2953 k2955 hk2955 => ?_)
        · have hX2956 := hX2952.trans (if_pos hb2953)
          refine p_iconst 55 c97_54 rfl ?_
          refine p_goto 59 c97_55 rfl ?_
          exact p_ireturn c97_59 (Hr _ hX2956 (rgD rfl) _)
        · have hX2957 := hX2952.trans (if_neg hb2953)
          refine p_iload 25 c97_24 rfl rfl ?_
          refine p_iconst 27 c97_25 rfl ?_
          refine p_icmp 54 30 c97_27 rfl rfl (yc_eq gx0 (rgD rfl)) (fun hb2958 k2959 hk2959 => ?_) (fun hb2958 k2960 hk2960 => ?_)
          · have hX2961 := hX2957.trans (if_pos hb2958)
            refine p_iconst 55 c97_54 rfl ?_
            refine p_goto 59 c97_55 rfl ?_
            exact p_ireturn c97_59 (Hr _ hX2961 (rgD rfl) _)
          · have hX2962 := hX2957.trans (if_neg hb2958)
            refine p_iload 31 c97_30 rfl rfl ?_
            refine p_iconst 33 c97_31 rfl ?_
            refine p_icmp 54 36 c97_33 rfl rfl (yc_eq gx0 (rgD rfl)) (fun hb2963 k2964 hk2964 => ?_) (fun hb2963 k2965 hk2965 => ?_)
            · have hX2966 := hX2962.trans (if_pos hb2963)
              refine p_iconst 55 c97_54 rfl ?_
              refine p_goto 59 c97_55 rfl ?_
              exact p_ireturn c97_59 (Hr _ hX2966 (rgD rfl) _)
            · have hX2967 := hX2962.trans (if_neg hb2963)
              refine p_iload 37 c97_36 rfl rfl ?_
              refine p_iconst 39 c97_37 rfl ?_
              refine p_icmp 54 42 c97_39 rfl rfl (yc_eq gx0 (rgD rfl)) (fun hb2968 k2969 hk2969 => ?_) (fun hb2968 k2970 hk2970 => ?_)
              · have hX2971 := hX2967.trans (if_pos hb2968)
                refine p_iconst 55 c97_54 rfl ?_
                refine p_goto 59 c97_55 rfl ?_
                exact p_ireturn c97_59 (Hr _ hX2971 (rgD rfl) _)
              · have hX2972 := hX2967.trans (if_neg hb2968)
                refine p_iload 43 c97_42 rfl rfl ?_
                refine p_iconst 45 c97_43 rfl ?_
                refine p_icmp 54 48 c97_45 rfl rfl (yc_eq gx0 (rgD rfl)) (fun hb2973 k2974 hk2974 => ?_) (fun hb2973 k2975 hk2975 => ?_)
                · have hX2976 := hX2972.trans (if_pos hb2973)
                  refine p_iconst 55 c97_54 rfl ?_
                  refine p_goto 59 c97_55 rfl ?_
                  exact p_ireturn c97_59 (Hr _ hX2976 (rgD rfl) _)
                · have hX2977 := hX2972.trans (if_neg hb2973)
                  refine p_iload 49 c97_48 rfl rfl ?_
                  refine p_iconst 51 c97_49 rfl ?_
                  refine p_icmp 58 54 c97_51 rfl rfl (yc_ne gx0 (rgD rfl)) (fun hb2978 k2979 hk2979 => ?_) (fun hb2978 k2980 hk2980 => ?_)
                  · have hX2981 := hX2977.trans (if_neg hb2978)
                    refine p_iconst 59 c97_58 rfl ?_
                    exact p_ireturn c97_59 (Hr _ hX2981 (rgD rfl) _)
                  · have hX2982 := hX2977.trans (if_pos (Classical.not_not.mp hb2978))
                    refine p_iconst 55 c97_54 rfl ?_
                    refine p_goto 59 c97_55 rfl ?_
                    exact p_ireturn c97_59 (Hr _ hX2982 (rgD rfl) _)
def F98 (x0 : Int) : Int := (F22 x0 97 122)
set_option maxRecDepth 100000 in
theorem d98 {L : Nat} {xs : Nat → Int32} {k d n : Nat} {c : yS3} {x0 : Int} {m : yM} (gx0 : rg x0) (hR : RM c m) : PC (gZ L xs) k d 98 [yI x0] m n (qX m (F98 x0)) := by
  have hX : F98 x0 = F98 x0 := rfl
  have Hr : ∀ r, F98 x0 = r → rg r → ∀ n' : Nat, (qX m (F98 x0)) (.inl (some (yI r))) m n' := fun r e h n' => by subst e; exact ⟨rfl, h, rfl⟩
  refine PC.mk [some (yI x0)] kn98 rfl ?_
  refine p_iload 1 c98_0 rfl rfl ?_
  refine p_iconst 3 c98_1 rfl ?_
  refine p_iconst 5 c98_3 rfl ?_
  refine p_cX 8 [yI x0, yI 97, yI 122] [] c98_5 rfl rfl rfl (fun k' hk' d' => d22 gx0 (rgD rfl) (rgD rfl) hR) (fun hg2995 n2994 k2993 hk2993 => ?_)
  exact p_ireturn c98_8 (Hr _ hX hg2995 _)
def B99_13 (f : Nat) (x1 : Int) (m : yM) : Option ((Int × yM) ⊕ ((Int × yM) ⊕ (Unit × yM))) := (if x1 < m 376 1 then (if m 377 x1.toNat = 32 then (some (.inl ((wr (x1 + 1)), m))) else (some (.inr (.inl (x1, m))))) else (some (.inr (.inl (x1, m)))))
set_option maxRecDepth 100000 in
theorem tB99_13 {L : Nat} {xs : Nat → Int32} {Q : xO → yM → Nat → Prop} {k d n : Nat} {c : yS3} {f : Nat} {x1 : Int} {m : yM} {j2 j3 : Option Value} (hk : k ≤ f) (gx1 : rg x1) (hR : RM c m) (Hn : ∀ (y0 : Int) (z0 z1 : Option Value) (m' : yM) (n' : Nat), B99_13 f x1 m = some (.inl (y0, m')) → rg y0 → RM c m' → ∀ k', k' < k → PW (gZ L xs) k' 99 d 13 [some (.ref 376), some (yI y0), z0, z1] [] m' n' Q) (He : ∀ (y0 : Int) (z0 z1 : Option Value) (m' : yM) (n' : Nat), B99_13 f x1 m = some (.inr (.inl (y0, m'))) → rg y0 → RM c m' → ∀ k', k' ≤ k → PW (gZ L xs) k' 99 d 38 [some (.ref 376), some (yI y0), z0, z1] [] m' n' Q) (Hr : ∀ m', B99_13 f x1 m = some (.inr (.inr ((), m'))) → RM c m' → ∀ n', Q (.inl none) m' n') : PW (gZ L xs) k 99 d 13 [some (.ref 376), some (yI x1), j2, j3] [] m n Q := by
  have hX : B99_13 f x1 m = B99_13 f x1 m := rfl
  refine p_iload 14 c99_13 rfl rfl ?_
  refine p_aload 15 c99_14 rfl rfl ?_
  refine p_getX 18 (m 376 1) c99_15 rfl kf376_1 rfl ?_
  refine p_icmp 38 21 c99_18 rfl rfl ((yc_ge gx1 (hR.rg _ _)).trans Int.not_lt.symm) (fun hb2909 k2910 hk2910 => ?_) (fun hb2909 k2911 hk2911 => ?_)
  · have hX2912 := hX.trans (if_neg hb2909)
    exact He _ _ _ _ _ hX2912 gx1 hR _ (by omega)
  · have hX2913 := hX.trans (if_pos (Classical.not_not.mp hb2909))
    refine p_aload 22 c99_21 rfl rfl ?_
    refine p_getR 25 c99_22 rfl kf376_0 ?_
    refine p_iload 26 c99_25 rfl rfl ?_
    refine p_iaX 27 (m 377 x1.toNat) c99_26 rfl ka377 gx1 rfl (fun hx2914 => ?_)
    refine p_iconst 29 c99_27 rfl ?_
    refine p_icmp 38 32 c99_29 rfl rfl (yc_ne (hR.rg _ _) (rgD rfl)) (fun hb2915 k2916 hk2916 => ?_) (fun hb2915 k2917 hk2917 => ?_)
    · have hX2918 := hX2913.trans (if_neg hb2915)
      exact He _ _ _ _ _ hX2918 gx1 hR _ (by omega)
    · have hX2919 := hX2913.trans (if_pos (Classical.not_not.mp hb2915))
      refine p_iinc 35 c99_32 rfl rfl rfl ?_
      refine p_gotoD 13 c99_35 rfl (fun k2920 hk2920 => ?_)
      exact Hn _ _ _ _ _ hX2919 (rg_wr _) hR _ (by omega)
def J99_156 (f : Nat) (x1 : Int) (x3 : Int) (m : yM) : Option (((Int × Int) × yM) ⊕ (((Int × Int) × yM) ⊕ (Unit × yM))) := (some (.inl ((wr (x1 + 1), wr (x3 + 1)), m)))
set_option maxRecDepth 100000 in
theorem tJ99_156 {L : Nat} {xs : Nat → Int32} {Q : xO → yM → Nat → Prop} {k d n : Nat} {c : yS3} {f : Nat} {x1 : Int} {x3 : Int} {m : yM} {j2 : Option Value} (hk : k ≤ f) (gx1 : rg x1) (gx3 : rg x3) (hR : RM c m) (Hn : ∀ (y0 y1 : Int) (z0 : Option Value) (m' : yM) (n' : Nat), J99_156 f x1 x3 m = some (.inl ((y0, y1), m')) → rg y0 → rg y1 → RM c m' → ∀ k', k' < k → PW (gZ L xs) k' 99 d 107 [some (.ref 376), some (yI y0), z0, some (yI y1)] [] m' n' Q) (He : ∀ (y0 y1 : Int) (z0 : Option Value) (m' : yM) (n' : Nat), J99_156 f x1 x3 m = some (.inr (.inl ((y0, y1), m'))) → rg y0 → rg y1 → RM c m' → ∀ k', k' ≤ k → PW (gZ L xs) k' 99 d 165 [some (.ref 376), some (yI y0), z0, some (yI y1)] [] m' n' Q) (Hr : ∀ m', J99_156 f x1 x3 m = some (.inr (.inr ((), m'))) → RM c m' → ∀ n', Q (.inl none) m' n') : PW (gZ L xs) k 99 d 156 [some (.ref 376), some (yI x1), j2, some (yI x3)] [] m n Q := by
  have hX : J99_156 f x1 x3 m = J99_156 f x1 x3 m := rfl
  refine p_iinc 159 c99_156 rfl rfl rfl ?_
  refine p_iinc 162 c99_159 rfl rfl rfl ?_
  refine p_gotoD 107 c99_162 rfl (fun k3020 hk3020 => ?_)
  exact Hn _ _ _ _ _ hX (rg_wr _) (rg_wr _) hR _ (by omega)
def B99_107 (f : Nat) (x1 : Int) (x3 : Int) (m : yM) : Option (((Int × Int) × yM) ⊕ (((Int × Int) × yM) ⊕ (Unit × yM))) := (if x1 < m 376 1 then (if F98 (m 377 x1.toNat) = 0 then (some (.inr (.inl ((x1, x3), m)))) else (if x3 < 6 then (J99_156 f x1 x3 (yup m 376 4 (wr ((wr ((wr ((wr (27 * (m 376 4))) + (m 377 x1.toNat))) - 97)) + 1)))) else (J99_156 f x1 x3 m))) else (some (.inr (.inl ((x1, x3), m)))))
set_option maxRecDepth 100000 in
theorem tB99_107 {L : Nat} {xs : Nat → Int32} {Q : xO → yM → Nat → Prop} {k d n : Nat} {c : yS3} {f : Nat} {x1 : Int} {x3 : Int} {m : yM} {j2 : Option Value} (hk : k ≤ f) (gx1 : rg x1) (gx3 : rg x3) (hR : RM c m) (Hn : ∀ (y0 y1 : Int) (z0 : Option Value) (m' : yM) (n' : Nat), B99_107 f x1 x3 m = some (.inl ((y0, y1), m')) → rg y0 → rg y1 → RM c m' → ∀ k', k' < k → PW (gZ L xs) k' 99 d 107 [some (.ref 376), some (yI y0), z0, some (yI y1)] [] m' n' Q) (He : ∀ (y0 y1 : Int) (z0 : Option Value) (m' : yM) (n' : Nat), B99_107 f x1 x3 m = some (.inr (.inl ((y0, y1), m'))) → rg y0 → rg y1 → RM c m' → ∀ k', k' ≤ k → PW (gZ L xs) k' 99 d 165 [some (.ref 376), some (yI y0), z0, some (yI y1)] [] m' n' Q) (Hr : ∀ m', B99_107 f x1 x3 m = some (.inr (.inr ((), m'))) → RM c m' → ∀ n', Q (.inl none) m' n') : PW (gZ L xs) k 99 d 107 [some (.ref 376), some (yI x1), j2, some (yI x3)] [] m n Q := by
  have hX : B99_107 f x1 x3 m = B99_107 f x1 x3 m := rfl
  refine p_iload 108 c99_107 rfl rfl ?_
  refine p_aload 109 c99_108 rfl rfl ?_
  refine p_getX 112 (m 376 1) c99_109 rfl kf376_1 rfl ?_
  refine p_icmp 165 115 c99_112 rfl rfl ((yc_ge gx1 (hR.rg _ _)).trans Int.not_lt.symm) (fun hb3002 k3003 hk3003 => ?_) (fun hb3002 k3004 hk3004 => ?_)
  · have hX3005 := hX.trans (if_neg hb3002)
    exact He _ _ _ _ _ hX3005 gx1 gx3 hR _ (by omega)
  · have hX3006 := hX.trans (if_pos (Classical.not_not.mp hb3002))
    refine p_aload 116 c99_115 rfl rfl ?_
    refine p_getR 119 c99_116 rfl kf376_0 ?_
    refine p_iload 120 c99_119 rfl rfl ?_
    refine p_iaX 121 (m 377 x1.toNat) c99_120 rfl ka377 gx1 rfl (fun hx3007 => ?_)
    refine p_cX 124 [yI (m 377 x1.toNat)] [] c99_121 rfl rfl rfl (fun k' hk' d' => d98 (hR.rg _ _) hR) (fun hg3010 n3009 k3008 hk3008 => ?_)
    refine p_if 165 127 c99_124 rfl rfl (yz_eq hg3010) (fun hb3011 k3012 hk3012 => ?_) (fun hb3011 k3013 hk3013 => ?_)
    · have hX3014 := hX3006.trans (if_pos hb3011)
      exact He _ _ _ _ _ hX3014 gx1 gx3 hR _ (by omega)
    · have hX3015 := hX3006.trans (if_neg hb3011)
      refine p_iload 128 c99_127 rfl rfl ?_
      refine p_iconst 130 c99_128 rfl ?_
      refine p_icmp 156 133 c99_130 rfl rfl ((yc_ge gx3 (rgD rfl)).trans Int.not_lt.symm) (fun hb3016 k3017 hk3017 => ?_) (fun hb3016 k3018 hk3018 => ?_)
      · have hX3019 := hX3015.trans (if_neg hb3016)
        exact tJ99_156 (f := f) (by omega) gx1 gx3 hR (fun y0 y1 y2 m' n' e' h0 h1 hR' k' hk' => Hn y0 y1 y2 m' n' (hX3019.trans e') h0 h1 hR' k' (by omega)) (fun y0 y1 y2 m' n' e' h0 h1 hR' k' hk' => He y0 y1 y2 m' n' (hX3019.trans e') h0 h1 hR' k' (by omega)) (fun m' e' => Hr m' (hX3019.trans e'))
      · have hX3021 := hX3015.trans (if_pos (Classical.not_not.mp hb3016))
        refine p_aload 134 c99_133 rfl rfl ?_
        refine p_iconst 136 c99_134 rfl ?_
        refine p_aload 137 c99_136 rfl rfl ?_
        refine p_getX 140 (m 376 4) c99_137 rfl kf376_4 rfl ?_
        refine p_imul 141 c99_140 rfl ?_
        refine p_aload 142 c99_141 rfl rfl ?_
        refine p_getR 145 c99_142 rfl kf376_0 ?_
        refine p_iload 146 c99_145 rfl rfl ?_
        refine p_iaX 147 (m 377 x1.toNat) c99_146 rfl ka377 gx1 rfl (fun hx3022 => ?_)
        refine p_iadd 148 c99_147 rfl ?_
        refine p_iconst 150 c99_148 rfl ?_
        refine p_isub 151 c99_150 rfl ?_
        refine p_iconst 152 c99_151 rfl ?_
        refine p_iadd 153 c99_152 rfl ?_
        refine p_putI 156 c99_153 rfl kf376_4 ?_
        have hR3023 := hR.up 376 4 (v := wr ((wr ((wr ((wr (27 * (m 376 4))) + (m 377 x1.toNat))) - 97)) + 1)) (nselD rfl) (rg_wr _)
        exact tJ99_156 (f := f) (by omega) gx1 gx3 hR3023 (fun y0 y1 y2 m' n' e' h0 h1 hR' k' hk' => Hn y0 y1 y2 m' n' (hX3021.trans e') h0 h1 hR' k' (by omega)) (fun y0 y1 y2 m' n' e' h0 h1 hR' k' hk' => He y0 y1 y2 m' n' (hX3021.trans e') h0 h1 hR' k' (by omega)) (fun m' e' => Hr m' (hX3021.trans e'))
def J99_182 (f : Nat) (xs1 : Int) (m : yM) : Option yM := (some (yup m 376 3 xs1))
set_option maxRecDepth 100000 in
theorem tJ99_182 {L : Nat} {xs : Nat → Int32} {Q : xO → yM → Nat → Prop} {k d n : Nat} {c : yS3} {f : Nat} {xs1 : Int} {m : yM} {j0 j1 j2 j3 : Option Value} (hk : k ≤ f) (gxs1 : rg xs1) (hR : RM c m) (Hr : ∀ m', J99_182 f xs1 m = some m' → RM c m' → ∀ n', Q (.inl none) m' n') : PW (gZ L xs) k 99 d 182 [j0, j1, j2, j3] [yI xs1, .ref 376] m n Q := by
  have hX : J99_182 f xs1 m = J99_182 f xs1 m := rfl
  refine p_putI 185 c99_182 rfl kf376_3 ?_
  have hR3038 := hR.up 376 3 (v := xs1) (nselD rfl) gxs1
  exact p_return c99_185 (Hr _ hX hR3038 _)
def J99_165 (f : Nat) (x1 : Int) (x3 : Int) (m : yM) : Option yM := (if 6 < x3 then (J99_182 f 3 (yup m 376 6 x1)) else (J99_182 f 1 (yup m 376 6 x1)))
set_option maxRecDepth 100000 in
theorem tJ99_165 {L : Nat} {xs : Nat → Int32} {Q : xO → yM → Nat → Prop} {k d n : Nat} {c : yS3} {f : Nat} {x1 : Int} {x3 : Int} {m : yM} {j2 : Option Value} (hk : k ≤ f) (gx1 : rg x1) (gx3 : rg x3) (hR : RM c m) (Hr : ∀ m', J99_165 f x1 x3 m = some m' → RM c m' → ∀ n', Q (.inl none) m' n') : PW (gZ L xs) k 99 d 165 [some (.ref 376), some (yI x1), j2, some (yI x3)] [] m n Q := by
  have hX : J99_165 f x1 x3 m = J99_165 f x1 x3 m := rfl
  refine p_aload 166 c99_165 rfl rfl ?_
  refine p_iload 167 c99_166 rfl rfl ?_
  refine p_putI 170 c99_167 rfl kf376_6 ?_
  have hR3033 := hR.up 376 6 (v := x1) (nselD rfl) gx1
  refine p_aload 171 c99_170 rfl rfl ?_
  refine p_iload 172 c99_171 rfl rfl ?_
  refine p_iconst 174 c99_172 rfl ?_
  refine p_icmp 181 177 c99_174 rfl rfl ((yc_le gx3 (rgD rfl)).trans Int.not_lt.symm) (fun hb3034 k3035 hk3035 => ?_) (fun hb3034 k3036 hk3036 => ?_)
  · have hX3037 := hX.trans (if_neg hb3034)
    refine p_iconst 182 c99_181 rfl ?_
    exact tJ99_182 (f := f) (by omega) (rgD rfl) hR3033 (fun m' e' => Hr m' (hX3037.trans e'))
  · have hX3039 := hX.trans (if_pos (Classical.not_not.mp hb3034))
    refine p_iconst 178 c99_177 rfl ?_
    refine p_goto 182 c99_178 rfl ?_
    exact tJ99_182 (f := f) (by omega) (rgD rfl) hR3033 (fun m' e' => Hr m' (hX3039.trans e'))
def J99_77 (f : Nat) (x1 : Int) (x2 : Int) (xs1 : Int) (m : yM) : Option yM := (if F98 x2 = 0 then (some (yup (yup (yup m 376 3 xs1) 376 4 x2) 376 6 (wr (x1 + 1)))) else (bL (yloop (fun (l : Int × Int) ml => B99_107 f l.1 l.2 ml) f (x1, 0) (yup (yup (yup (yup m 376 3 xs1) 376 4 x2) 376 6 (wr (x1 + 1))) 376 4 0)) (fun l3024 m3030 => (J99_165 f l3024.1 l3024.2 m3030)) (fun _ mr => some mr)))
set_option maxRecDepth 100000 in
theorem tJ99_77 {L : Nat} {xs : Nat → Int32} {Q : xO → yM → Nat → Prop} {k d n : Nat} {c : yS3} {f : Nat} {x1 : Int} {x2 : Int} {xs1 : Int} {m : yM} {j3 : Option Value} (hk : k ≤ f) (gx1 : rg x1) (gx2 : rg x2) (gxs1 : rg xs1) (hR : RM c m) (Hr : ∀ m', J99_77 f x1 x2 xs1 m = some m' → RM c m' → ∀ n', Q (.inl none) m' n') : PW (gZ L xs) k 99 d 77 [some (.ref 376), some (yI x1), some (yI x2), j3] [yI xs1, .ref 376] m n Q := by
  have hX : J99_77 f x1 x2 xs1 m = J99_77 f x1 x2 xs1 m := rfl
  refine p_putI 80 c99_77 rfl kf376_3 ?_
  have hR2988 := hR.up 376 3 (v := xs1) (nselD rfl) gxs1
  refine p_aload 81 c99_80 rfl rfl ?_
  refine p_iload 82 c99_81 rfl rfl ?_
  refine p_putI 85 c99_82 rfl kf376_4 ?_
  have hR2989 := hR2988.up 376 4 (v := x2) (nselD rfl) gx2
  refine p_aload 86 c99_85 rfl rfl ?_
  refine p_iload 87 c99_86 rfl rfl ?_
  refine p_iconst 88 c99_87 rfl ?_
  refine p_iadd 89 c99_88 rfl ?_
  refine p_putI 92 c99_89 rfl kf376_6 ?_
  have hR2990 := hR2989.up 376 6 (v := wr (x1 + 1)) (nselD rfl) (rg_wr _)
  refine p_iload 93 c99_92 rfl rfl ?_
  refine p_cX 96 [yI x2] [] c99_93 rfl rfl rfl (fun k' hk' d' => d98 gx2 hR2990) (fun hg2996 n2992 k2991 hk2991 => ?_)
  refine p_if 100 99 c99_96 rfl rfl (yz_ne hg2996) (fun hb2997 k2998 hk2998 => ?_) (fun hb2997 k2999 hk2999 => ?_)
  · have hX3000 := hX.trans (if_neg hb2997)
    refine p_aload 101 c99_100 rfl rfl ?_
    refine p_iconst 102 c99_101 rfl ?_
    refine p_putI 105 c99_102 rfl kf376_4 ?_
    have hR3001 := hR2990.up 376 4 (v := 0) (nselD rfl) (rgD rfl)
    refine p_iconst 106 c99_105 rfl ?_
    refine p_istore 107 c99_106 rfl rfl ?_
    refine PW.loop (K := k2998) (pce := 165) (fun (l : Int × Int) ml => B99_107 f l.1 l.2 ml) (fun (l : Int × Int) j => [some (.ref 376), some (yI l.1), j 2, some (yI l.2)]) (fun (l : Int × Int) => rg l.1 ∧ rg l.2) (RM c) (fun (r' : Unit) m' => RM c m' → ∀ n' : Nat, Q (.inl none) m' n') (fun k' hk' l j m' n' hl hI Hn' He' Hr' => tB99_107 (f := f) (by omega) hl.1 hl.2 hI (fun y0 y1 y2 m2 n2 e h0 h1 hR2 => Hn' (y0, y1) (fun q => ([none, none, y2, none] : List (Option Value)).getD q none) m2 n2 e ⟨h0, h1⟩ hR2) (fun y0 y1 y2 m2 n2 e h0 h1 hR2 => He' (y0, y1) (fun q => ([none, none, y2, none] : List (Option Value)).getD q none) m2 n2 e ⟨h0, h1⟩ hR2) (fun m2 e => Hr' () m2 e)) f k2998 (by omega) (Nat.le_refl _) (x1, 0) (fun q => ([some (.ref 376), some (yI x1), some (yI x2), some (yI 0)] : xL).getD q none) _ _ ⟨gx1, (rgD rfl)⟩ hR3001 (fun l3024 j3027 m3030 n3029 e3026 hl3025 hR3031 k3028 hk3028 => ?_) (fun r' m' e' => ?_)
    · have hX3032 := hX3000.trans (bL_l e3026)
      exact tJ99_165 (f := f) (by omega) hl3025.1 hl3025.2 hR3031 (fun m' e' => Hr m' (hX3032.trans e'))
    · exact Hr m' (hX3000.trans (bL_r e'))
  · have hX3040 := hX.trans (if_pos (Classical.not_not.mp hb2997))
    exact p_return c99_99 (Hr _ hX3040 hR2990 _)
def J99_38 (f : Nat) (x1 : Int) (m : yM) : Option yM := (if x1 = m 376 1 then (some (yup (yup m 376 5 x1) 376 3 0)) else (if F97 (m 377 x1.toNat) = 0 then (J99_77 f x1 (m 377 x1.toNat) 3 (yup m 376 5 x1)) else (J99_77 f x1 (m 377 x1.toNat) 2 (yup m 376 5 x1))))
set_option maxRecDepth 100000 in
theorem tJ99_38 {L : Nat} {xs : Nat → Int32} {Q : xO → yM → Nat → Prop} {k d n : Nat} {c : yS3} {f : Nat} {x1 : Int} {m : yM} {j2 j3 : Option Value} (hk : k ≤ f) (gx1 : rg x1) (hR : RM c m) (Hr : ∀ m', J99_38 f x1 m = some m' → RM c m' → ∀ n', Q (.inl none) m' n') : PW (gZ L xs) k 99 d 38 [some (.ref 376), some (yI x1), j2, j3] [] m n Q := by
  have hX : J99_38 f x1 m = J99_38 f x1 m := rfl
  refine p_aload 39 c99_38 rfl rfl ?_
  refine p_iload 40 c99_39 rfl rfl ?_
  refine p_putI 43 c99_40 rfl kf376_5 ?_
  have hR2930 := hR.up 376 5 (v := x1) (nselD rfl) gx1
  refine p_iload 44 c99_43 rfl rfl ?_
  refine p_aload 45 c99_44 rfl rfl ?_
  refine p_getX 48 (m 376 1) c99_45 rfl kf376_1 (yup_nk (by decide)) ?_
  refine p_icmp 57 51 c99_48 rfl rfl (yc_ne gx1 (hR.rg _ _)) (fun hb2931 k2932 hk2932 => ?_) (fun hb2931 k2933 hk2933 => ?_)
  · have hX2934 := hX.trans (if_neg hb2931)
    refine p_aload 58 c99_57 rfl rfl ?_
    refine p_getR 61 c99_58 rfl kf376_0 ?_
    refine p_iload 62 c99_61 rfl rfl ?_
    refine p_iaX 63 (m 377 x1.toNat) c99_62 rfl ka377 gx1 (yup_na (by decide)) (fun hx2935 => ?_)
    refine p_istore 64 c99_63 rfl rfl ?_
    refine p_aload 65 c99_64 rfl rfl ?_
    refine p_iload 66 c99_65 rfl rfl ?_
    refine p_cX 69 [yI (m 377 x1.toNat)] [.ref 376] c99_66 rfl rfl rfl (fun k' hk' d' => d97 (hR.rg _ _) hR2930) (fun hg2983 n2937 k2936 hk2936 => ?_)
    refine p_if 76 72 c99_69 rfl rfl (yz_eq hg2983) (fun hb2984 k2985 hk2985 => ?_) (fun hb2984 k2986 hk2986 => ?_)
    · have hX2987 := hX2934.trans (if_pos hb2984)
      refine p_iconst 77 c99_76 rfl ?_
      exact tJ99_77 (f := f) (by omega) gx1 (hR.rg _ _) (rgD rfl) hR2930 (fun m' e' => Hr m' (hX2987.trans e'))
    · have hX3041 := hX2934.trans (if_neg hb2984)
      refine p_iconst 73 c99_72 rfl ?_
      refine p_goto 77 c99_73 rfl ?_
      exact tJ99_77 (f := f) (by omega) gx1 (hR.rg _ _) (rgD rfl) hR2930 (fun m' e' => Hr m' (hX3041.trans e'))
  · have hX3042 := hX.trans (if_pos (Classical.not_not.mp hb2931))
    refine p_aload 52 c99_51 rfl rfl ?_
    refine p_iconst 53 c99_52 rfl ?_
    refine p_putI 56 c99_53 rfl kf376_3 ?_
    have hR3043 := hR2930.up 376 3 (v := 0) (nselD rfl) (rgD rfl)
    exact p_return c99_56 (Hr _ hX3042 hR3043 _)
def F99 (f : Nat) (m : yM) : Option yM := (bL (yloop (fun (l : Int) ml => B99_13 f l ml) f (m 376 6) (yup m 376 7 (m 376 6))) (fun l2921 m2927 => (J99_38 f l2921 m2927)) (fun _ mr => some mr))
set_option maxRecDepth 100000 in
theorem d99 {L : Nat} {xs : Nat → Int32} {k d n : Nat} {c : yS3} {f : Nat} {m : yM} (hk : k ≤ f) (hR : RM c m) : PC (gZ L xs) k d 99 [.ref 376] m n (qV c (F99 f m)) := by
  have hX : F99 f m = F99 f m := rfl
  have Hr : ∀ m', F99 f m = some m' → RM c m' → ∀ n' : Nat, (qV c (F99 f m)) (.inl none) m' n' := fun m' e h n' => ⟨rfl, h, e⟩
  refine PC.mk [some (.ref 376), none, none, none] kn99 rfl ?_
  refine p_aload 1 c99_0 rfl rfl ?_
  refine p_aload 2 c99_1 rfl rfl ?_
  refine p_getX 5 (m 376 6) c99_2 rfl kf376_6 rfl ?_
  refine p_putI 8 c99_5 rfl kf376_7 ?_
  have hR2908 := hR.up 376 7 (v := m 376 6) (nselD rfl) (hR.rg _ _)
  refine p_aload 9 c99_8 rfl rfl ?_
  refine p_getX 12 (m 376 6) c99_9 rfl kf376_6 (yup_nk (by decide)) ?_
  refine p_istore 13 c99_12 rfl rfl ?_
  refine PW.loop (K := k) (pce := 38) (fun (l : Int) ml => B99_13 f l ml) (fun (l : Int) j => [some (.ref 376), some (yI l), j 2, j 3]) (fun (l : Int) => rg l) (RM c) (fun (r' : Unit) m' => RM c m' → ∀ n' : Nat, (qV c (F99 f m)) (.inl none) m' n') (fun k' hk' l j m' n' hl hI Hn' He' Hr' => tB99_13 (f := f) (by omega) hl hI (fun y0 y1 y2 m2 n2 e h0 hR2 => Hn' y0 (fun q => ([none, none, y1, y2] : List (Option Value)).getD q none) m2 n2 e h0 hR2) (fun y0 y1 y2 m2 n2 e h0 hR2 => He' y0 (fun q => ([none, none, y1, y2] : List (Option Value)).getD q none) m2 n2 e h0 hR2) (fun m2 e => Hr' () m2 e)) f k (by omega) (Nat.le_refl _) (m 376 6) (fun q => ([some (.ref 376), some (yI (m 376 6)), none, none] : xL).getD q none) _ _ (hR.rg _ _) hR2908 (fun l2921 j2924 m2927 n2926 e2923 hl2922 hR2928 k2925 hk2925 => ?_) (fun r' m' e' => ?_)
  · have hX2929 := hX.trans (bL_l e2923)
    exact tJ99_38 (f := f) (by omega) hl2922 hR2928 (fun m' e' => Hr m' (hX2929.trans e'))
  · exact Hr m' (hX.trans (bL_r e'))
def F100 (x0 : Int) (x1 : Int) : Int := (if x1 = 0 then x0 else (wr ((wr ((wr ((wr (27 * x0)) + x1)) - 97)) + 1)))
set_option maxRecDepth 100000 in
theorem d100 {L : Nat} {xs : Nat → Int32} {k d n : Nat} {c : yS3} {x0 : Int} {x1 : Int} {m : yM} (gx0 : rg x0) (gx1 : rg x1) (hR : RM c m) : PC (gZ L xs) k d 100 [yI x0, yI x1] m n (qX m (F100 x0 x1)) := by
  have hX : F100 x0 x1 = F100 x0 x1 := rfl
  have Hr : ∀ r, F100 x0 x1 = r → rg r → ∀ n' : Nat, (qX m (F100 x0 x1)) (.inl (some (yI r))) m n' := fun r e h n' => by subst e; exact ⟨rfl, h, rfl⟩
  refine PC.mk [some (yI x0), some (yI x1)] kn100 rfl ?_
  refine p_iload 1 c100_0 rfl rfl ?_
  refine p_if 8 4 c100_1 rfl rfl (yz_ne gx1) (fun hb3063 k3064 hk3064 => ?_) (fun hb3063 k3065 hk3065 => ?_)
  · have hX3066 := hX.trans (if_neg hb3063)
    refine p_iconst 10 c100_8 rfl ?_
    refine p_iload 11 c100_10 rfl rfl ?_
    refine p_imul 12 c100_11 rfl ?_
    refine p_iload 13 c100_12 rfl rfl ?_
    refine p_iadd 14 c100_13 rfl ?_
    refine p_iconst 16 c100_14 rfl ?_
    refine p_isub 17 c100_16 rfl ?_
    refine p_iconst 18 c100_17 rfl ?_
    refine p_iadd 19 c100_18 rfl ?_
    exact p_ireturn c100_19 (Hr _ hX3066 (rg_wr _) _)
  · have hX3067 := hX.trans (if_pos (Classical.not_not.mp hb3063))
    refine p_iload 5 c100_4 rfl rfl ?_
    refine p_goto 19 c100_5 rfl ?_
    exact p_ireturn c100_19 (Hr _ hX3067 gx0 _)
def F101 (x0 : Int) (x1 : Int) (x2 : Int) (x3 : Int) (x4 : Int) (x5 : Int) : Int := (F100 (F100 (F100 (F100 (F100 (F100 0 x0) x1) x2) x3) x4) x5)
set_option maxRecDepth 100000 in
theorem d101 {L : Nat} {xs : Nat → Int32} {k d n : Nat} {c : yS3} {x0 : Int} {x1 : Int} {x2 : Int} {x3 : Int} {x4 : Int} {x5 : Int} {m : yM} (gx0 : rg x0) (gx1 : rg x1) (gx2 : rg x2) (gx3 : rg x3) (gx4 : rg x4) (gx5 : rg x5) (hR : RM c m) : PC (gZ L xs) k d 101 [yI x0, yI x1, yI x2, yI x3, yI x4, yI x5] m n (qX m (F101 x0 x1 x2 x3 x4 x5)) := by
  have hX : F101 x0 x1 x2 x3 x4 x5 = F101 x0 x1 x2 x3 x4 x5 := rfl
  have Hr : ∀ r, F101 x0 x1 x2 x3 x4 x5 = r → rg r → ∀ n' : Nat, (qX m (F101 x0 x1 x2 x3 x4 x5)) (.inl (some (yI r))) m n' := fun r e h n' => by subst e; exact ⟨rfl, h, rfl⟩
  refine PC.mk [some (yI x0), some (yI x1), some (yI x2), some (yI x3), some (yI x4), some (yI x5)] kn101 rfl ?_
  refine p_iconst 1 c101_0 rfl ?_
  refine p_iload 2 c101_1 rfl rfl ?_
  refine p_cX 5 [yI 0, yI x0] [] c101_2 rfl rfl rfl (fun k' hk' d' => d100 (rgD rfl) gx0 hR) (fun hg3068 n3062 k3061 hk3061 => ?_)
  refine p_iload 6 c101_5 rfl rfl ?_
  refine p_cX 9 [yI (F100 0 x0), yI x1] [] c101_6 rfl rfl rfl (fun k' hk' d' => d100 hg3068 gx1 hR) (fun hg3071 n3070 k3069 hk3069 => ?_)
  refine p_iload 10 c101_9 rfl rfl ?_
  refine p_cX 13 [yI (F100 (F100 0 x0) x1), yI x2] [] c101_10 rfl rfl rfl (fun k' hk' d' => d100 hg3071 gx2 hR) (fun hg3074 n3073 k3072 hk3072 => ?_)
  refine p_iload 14 c101_13 rfl rfl ?_
  refine p_cX 17 [yI (F100 (F100 (F100 0 x0) x1) x2), yI x3] [] c101_14 rfl rfl rfl (fun k' hk' d' => d100 hg3074 gx3 hR) (fun hg3077 n3076 k3075 hk3075 => ?_)
  refine p_iload 19 c101_17 rfl rfl ?_
  refine p_cX 22 [yI (F100 (F100 (F100 (F100 0 x0) x1) x2) x3), yI x4] [] c101_19 rfl rfl rfl (fun k' hk' d' => d100 hg3077 gx4 hR) (fun hg3080 n3079 k3078 hk3078 => ?_)
  refine p_iload 24 c101_22 rfl rfl ?_
  refine p_cX 27 [yI (F100 (F100 (F100 (F100 (F100 0 x0) x1) x2) x3) x4), yI x5] [] c101_24 rfl rfl rfl (fun k' hk' d' => d100 hg3080 gx5 hR) (fun hg3083 n3082 k3081 hk3081 => ?_)
  exact p_ireturn c101_27 (Hr _ hX hg3083 _)
def F102 (x1 : Int) (m : yM) : Int := (if m 376 3 = 1 then (if m 376 4 = x1 then 1 else 0) else 0)
set_option maxRecDepth 100000 in
theorem d102 {L : Nat} {xs : Nat → Int32} {k d n : Nat} {c : yS3} {x1 : Int} {m : yM} (gx1 : rg x1) (hR : RM c m) : PC (gZ L xs) k d 102 [.ref 376, yI x1] m n (qX m (F102 x1 m)) := by
  have hX : F102 x1 m = F102 x1 m := rfl
  have Hr : ∀ r, F102 x1 m = r → rg r → ∀ n' : Nat, (qX m (F102 x1 m)) (.inl (some (yI r))) m n' := fun r e h n' => by subst e; exact ⟨rfl, h, rfl⟩
  refine PC.mk [some (.ref 376), some (yI x1)] kn102 rfl ?_
  refine p_aload 1 c102_0 rfl rfl ?_
  refine p_getX 4 (m 376 3) c102_1 rfl kf376_3 rfl ?_
  refine p_iconst 5 c102_4 rfl ?_
  refine p_icmp 20 8 c102_5 rfl rfl (yc_ne (hR.rg _ _) (rgD rfl)) (fun hb3087 k3088 hk3088 => ?_) (fun hb3087 k3089 hk3089 => ?_)
  · have hX3090 := hX.trans (if_neg hb3087)
    refine p_iconst 21 c102_20 rfl ?_
    exact p_ireturn c102_21 (Hr _ hX3090 (rgD rfl) _)
  · have hX3091 := hX.trans (if_pos (Classical.not_not.mp hb3087))
    refine p_aload 9 c102_8 rfl rfl ?_
    refine p_getX 12 (m 376 4) c102_9 rfl kf376_4 rfl ?_
    refine p_iload 13 c102_12 rfl rfl ?_
    refine p_icmp 20 16 c102_13 rfl rfl (yc_ne (hR.rg _ _) gx1) (fun hb3092 k3093 hk3093 => ?_) (fun hb3092 k3094 hk3094 => ?_)
    · have hX3095 := hX3091.trans (if_neg hb3092)
      refine p_iconst 21 c102_20 rfl ?_
      exact p_ireturn c102_21 (Hr _ hX3095 (rgD rfl) _)
    · have hX3096 := hX3091.trans (if_pos (Classical.not_not.mp hb3092))
      refine p_iconst 17 c102_16 rfl ?_
      refine p_goto 21 c102_17 rfl ?_
      exact p_ireturn c102_21 (Hr _ hX3096 (rgD rfl) _)
def F103 (m : yM) : Int := (F102 (F101 99 108 97 115 115 0) m)
set_option maxRecDepth 100000 in
theorem d103 {L : Nat} {xs : Nat → Int32} {k d n : Nat} {c : yS3} {m : yM} (hR : RM c m) : PC (gZ L xs) k d 103 [.ref 376] m n (qX m (F103 m)) := by
  have hX : F103 m = F103 m := rfl
  have Hr : ∀ r, F103 m = r → rg r → ∀ n' : Nat, (qX m (F103 m)) (.inl (some (yI r))) m n' := fun r e h n' => by subst e; exact ⟨rfl, h, rfl⟩
  refine PC.mk [some (.ref 376)] kn103 rfl ?_
  refine p_aload 1 c103_0 rfl rfl ?_
  refine p_iconst 3 c103_1 rfl ?_
  refine p_iconst 5 c103_3 rfl ?_
  refine p_iconst 7 c103_5 rfl ?_
  refine p_iconst 9 c103_7 rfl ?_
  refine p_iconst 11 c103_9 rfl ?_
  refine p_iconst 12 c103_11 rfl ?_
  refine p_cX 15 [yI 99, yI 108, yI 97, yI 115, yI 115, yI 0] [.ref 376] c103_12 rfl rfl rfl (fun k' hk' d' => d101 (rgD rfl) (rgD rfl) (rgD rfl) (rgD rfl) (rgD rfl) (rgD rfl) hR) (fun hg3084 n3060 k3059 hk3059 => ?_)
  refine p_cX 18 [.ref 376, yI (F101 99 108 97 115 115 0)] [] c103_15 rfl rfl rfl (fun k' hk' d' => d102 hg3084 hR) (fun hg3097 n3086 k3085 hk3085 => ?_)
  exact p_ireturn c103_18 (Hr _ hX hg3097 _)
def J104_26 (f : Nat) (xs1 : Int) (m : yM) : Option yM := (some (yup m 376 8 xs1))
set_option maxRecDepth 100000 in
theorem tJ104_26 {L : Nat} {xs : Nat → Int32} {Q : xO → yM → Nat → Prop} {k d n : Nat} {c : yS3} {f : Nat} {xs1 : Int} {m : yM} {j0 : Option Value} (hk : k ≤ f) (gxs1 : rg xs1) (hR : RM c m) (Hr : ∀ m', J104_26 f xs1 m = some m' → RM c m' → ∀ n', Q (.inl none) m' n') : PW (gZ L xs) k 104 d 26 [j0] [yI xs1, .ref 376] m n Q := by
  have hX : J104_26 f xs1 m = J104_26 f xs1 m := rfl
  refine p_putI 29 c104_26 rfl kf376_8 ?_
  have hR3130 := hR.up 376 8 (v := xs1) (nselD rfl) gxs1
  exact p_return c104_29 (Hr _ hX hR3130 _)
def F104 (f : Nat) (m : yM) : Option yM := (if m 376 8 < 0 then (if m 376 3 = 0 then (J104_26 f (m 376 7) m) else (J104_26 f (m 376 5) m)) else (some m))
set_option maxRecDepth 100000 in
theorem d104 {L : Nat} {xs : Nat → Int32} {k d n : Nat} {c : yS3} {f : Nat} {m : yM} (hk : k ≤ f) (hR : RM c m) : PC (gZ L xs) k d 104 [.ref 376] m n (qV c (F104 f m)) := by
  have hX : F104 f m = F104 f m := rfl
  have Hr : ∀ m', F104 f m = some m' → RM c m' → ∀ n' : Nat, (qV c (F104 f m)) (.inl none) m' n' := fun m' e h n' => ⟨rfl, h, e⟩
  refine PC.mk [some (.ref 376)] kn104 rfl ?_
  refine p_aload 1 c104_0 rfl rfl ?_
  refine p_getX 4 (m 376 8) c104_1 rfl kf376_8 rfl ?_
  refine p_if 29 7 c104_4 rfl rfl ((yz_ge (hR.rg _ _)).trans Int.not_lt.symm) (fun hb3121 k3122 hk3122 => ?_) (fun hb3121 k3123 hk3123 => ?_)
  · have hX3124 := hX.trans (if_neg hb3121)
    exact p_return c104_29 (Hr _ hX3124 hR _)
  · have hX3125 := hX.trans (if_pos (Classical.not_not.mp hb3121))
    refine p_aload 8 c104_7 rfl rfl ?_
    refine p_aload 9 c104_8 rfl rfl ?_
    refine p_getX 12 (m 376 3) c104_9 rfl kf376_3 rfl ?_
    refine p_if 22 15 c104_12 rfl rfl (yz_ne (hR.rg _ _)) (fun hb3126 k3127 hk3127 => ?_) (fun hb3126 k3128 hk3128 => ?_)
    · have hX3129 := hX3125.trans (if_neg hb3126)
      refine p_aload 23 c104_22 rfl rfl ?_
      refine p_getX 26 (m 376 5) c104_23 rfl kf376_5 rfl ?_
      exact tJ104_26 (f := f) (by omega) (hR.rg _ _) hR (fun m' e' => Hr m' (hX3129.trans e'))
    · have hX3131 := hX3125.trans (if_pos (Classical.not_not.mp hb3126))
      refine p_aload 16 c104_15 rfl rfl ?_
      refine p_getX 19 (m 376 7) c104_16 rfl kf376_7 rfl ?_
      refine p_goto 26 c104_19 rfl ?_
      exact tJ104_26 (f := f) (by omega) (hR.rg _ _) hR (fun m' e' => Hr m' (hX3131.trans e'))
def J105_8 (f : Nat) (m : yM) : Option (Int × yM) := (if m 376 8 < 0 then (bU (F99 f m) (fun m3115 => (some (1, m3115)))) else (some (0, m)))
set_option maxRecDepth 100000 in
theorem tJ105_8 {L : Nat} {xs : Nat → Int32} {Q : xO → yM → Nat → Prop} {k d n : Nat} {c : yS3} {f : Nat} {m : yM} {j1 : Option Value} (hk : k ≤ f) (hR : RM c m) (Hr : ∀ r m', J105_8 f m = some (r, m') → rg r → RM c m' → ∀ n', Q (.inl (some (yI r))) m' n') : PW (gZ L xs) k 105 d 8 [some (.ref 376), j1] [] m n Q := by
  have hX : J105_8 f m = J105_8 f m := rfl
  refine p_aload 9 c105_8 rfl rfl ?_
  refine p_getX 12 (m 376 8) c105_9 rfl kf376_8 rfl ?_
  refine p_if 17 15 c105_12 rfl rfl (yz_lt (hR.rg _ _)) (fun hb3105 k3106 hk3106 => ?_) (fun hb3105 k3107 hk3107 => ?_)
  · have hX3108 := hX.trans (if_pos hb3105)
    refine p_aload 18 c105_17 rfl rfl ?_
    refine p_cV 21 [.ref 376] [] c105_18 rfl rfl rfl (fun k' hk' d' => d99 (f := f) (by omega) hR) (fun m3115 hF3111 hR3116 n3110 k3109 hk3109 => ?_)
    have hX3114 := hX3108.trans (bU_s hF3111)
    refine p_iconst 22 c105_21 rfl ?_
    exact p_ireturn c105_22 (Hr _ _ hX3114 (rgD rfl) hR3116 _)
  · have hX3117 := hX.trans (if_neg hb3105)
    refine p_iconst 16 c105_15 rfl ?_
    exact p_ireturn c105_16 (Hr _ _ hX3117 (rgD rfl) hR _)
def F105 (f : Nat) (x1 : Int) (m : yM) : Option (Int × yM) := (if x1 = 0 then (bU (F104 f m) (fun m3136 => (J105_8 f m3136))) else (J105_8 f m))
set_option maxRecDepth 100000 in
theorem d105 {L : Nat} {xs : Nat → Int32} {k d n : Nat} {c : yS3} {f : Nat} {x1 : Int} {m : yM} (hk : k ≤ f) (gx1 : rg x1) (hR : RM c m) : PC (gZ L xs) k d 105 [.ref 376, yI x1] m n (qS c (F105 f x1 m)) := by
  have hX : F105 f x1 m = F105 f x1 m := rfl
  have Hr : ∀ r m', F105 f x1 m = some (r, m') → rg r → RM c m' → ∀ n' : Nat, (qS c (F105 f x1 m)) (.inl (some (yI r))) m' n' := fun r m' e h1 h2 n' => ⟨r, rfl, h1, h2, e⟩
  refine PC.mk [some (.ref 376), some (yI x1)] kn105 rfl ?_
  refine p_iload 1 c105_0 rfl rfl ?_
  refine p_if 8 4 c105_1 rfl rfl (yz_ne gx1) (fun hb3101 k3102 hk3102 => ?_) (fun hb3101 k3103 hk3103 => ?_)
  · have hX3104 := hX.trans (if_neg hb3101)
    exact tJ105_8 (f := f) (by omega) hR (fun r' m' e' => Hr r' m' (hX3104.trans e'))
  · have hX3118 := hX.trans (if_pos (Classical.not_not.mp hb3101))
    refine p_aload 5 c105_4 rfl rfl ?_
    refine p_cV 8 [.ref 376] [] c105_5 rfl rfl rfl (fun k' hk' d' => d104 (f := f) (by omega) hR) (fun m3136 hF3132 hR3137 n3120 k3119 hk3119 => ?_)
    have hX3135 := hX3118.trans (bU_s hF3132)
    exact tJ105_8 (f := f) (by omega) hR3137 (fun r' m' e' => Hr r' m' (hX3135.trans e'))
def F106 (m : yM) : Int := (F102 (F101 102 105 101 108 100 0) m)
set_option maxRecDepth 100000 in
theorem d106 {L : Nat} {xs : Nat → Int32} {k d n : Nat} {c : yS3} {m : yM} (hR : RM c m) : PC (gZ L xs) k d 106 [.ref 376] m n (qX m (F106 m)) := by
  have hX : F106 m = F106 m := rfl
  have Hr : ∀ r, F106 m = r → rg r → ∀ n' : Nat, (qX m (F106 m)) (.inl (some (yI r))) m n' := fun r e h n' => by subst e; exact ⟨rfl, h, rfl⟩
  refine PC.mk [some (.ref 376)] kn106 rfl ?_
  refine p_aload 1 c106_0 rfl rfl ?_
  refine p_iconst 3 c106_1 rfl ?_
  refine p_iconst 5 c106_3 rfl ?_
  refine p_iconst 7 c106_5 rfl ?_
  refine p_iconst 9 c106_7 rfl ?_
  refine p_iconst 11 c106_9 rfl ?_
  refine p_iconst 12 c106_11 rfl ?_
  refine p_cX 15 [yI 102, yI 105, yI 101, yI 108, yI 100, yI 0] [.ref 376] c106_12 rfl rfl rfl (fun k' hk' d' => d101 (rgD rfl) (rgD rfl) (rgD rfl) (rgD rfl) (rgD rfl) (rgD rfl) hR) (fun hg3167 n3166 k3165 hk3165 => ?_)
  refine p_cX 18 [.ref 376, yI (F101 102 105 101 108 100 0)] [] c106_15 rfl rfl rfl (fun k' hk' d' => d102 hg3167 hR) (fun hg3170 n3169 k3168 hk3168 => ?_)
  exact p_ireturn c106_18 (Hr _ hX hg3170 _)
def F107 (m : yM) : Int := (F102 (F101 100 101 102 0 0 0) m)
set_option maxRecDepth 100000 in
theorem d107 {L : Nat} {xs : Nat → Int32} {k d n : Nat} {c : yS3} {m : yM} (hR : RM c m) : PC (gZ L xs) k d 107 [.ref 376] m n (qX m (F107 m)) := by
  have hX : F107 m = F107 m := rfl
  have Hr : ∀ r, F107 m = r → rg r → ∀ n' : Nat, (qX m (F107 m)) (.inl (some (yI r))) m n' := fun r e h n' => by subst e; exact ⟨rfl, h, rfl⟩
  refine PC.mk [some (.ref 376)] kn107 rfl ?_
  refine p_aload 1 c107_0 rfl rfl ?_
  refine p_iconst 3 c107_1 rfl ?_
  refine p_iconst 5 c107_3 rfl ?_
  refine p_iconst 7 c107_5 rfl ?_
  refine p_iconst 8 c107_7 rfl ?_
  refine p_iconst 9 c107_8 rfl ?_
  refine p_iconst 10 c107_9 rfl ?_
  refine p_cX 13 [yI 100, yI 101, yI 102, yI 0, yI 0, yI 0] [.ref 376] c107_10 rfl rfl rfl (fun k' hk' d' => d101 (rgD rfl) (rgD rfl) (rgD rfl) (rgD rfl) (rgD rfl) (rgD rfl) hR) (fun hg3181 n3180 k3179 hk3179 => ?_)
  refine p_cX 16 [.ref 376, yI (F101 100 101 102 0 0 0)] [] c107_13 rfl rfl rfl (fun k' hk' d' => d102 hg3181 hR) (fun hg3184 n3183 k3182 hk3182 => ?_)
  exact p_ireturn c107_16 (Hr _ hX hg3184 _)
def F108 (m : yM) : Int := (F102 (F101 110 101 119 0 0 0) m)
set_option maxRecDepth 100000 in
theorem d108 {L : Nat} {xs : Nat → Int32} {k d n : Nat} {c : yS3} {m : yM} (hR : RM c m) : PC (gZ L xs) k d 108 [.ref 376] m n (qX m (F108 m)) := by
  have hX : F108 m = F108 m := rfl
  have Hr : ∀ r, F108 m = r → rg r → ∀ n' : Nat, (qX m (F108 m)) (.inl (some (yI r))) m n' := fun r e h n' => by subst e; exact ⟨rfl, h, rfl⟩
  refine PC.mk [some (.ref 376)] kn108 rfl ?_
  refine p_aload 1 c108_0 rfl rfl ?_
  refine p_iconst 3 c108_1 rfl ?_
  refine p_iconst 5 c108_3 rfl ?_
  refine p_iconst 7 c108_5 rfl ?_
  refine p_iconst 8 c108_7 rfl ?_
  refine p_iconst 9 c108_8 rfl ?_
  refine p_iconst 10 c108_9 rfl ?_
  refine p_cX 13 [yI 110, yI 101, yI 119, yI 0, yI 0, yI 0] [.ref 376] c108_10 rfl rfl rfl (fun k' hk' d' => d101 (rgD rfl) (rgD rfl) (rgD rfl) (rgD rfl) (rgD rfl) (rgD rfl) hR) (fun hg3195 n3194 k3193 hk3193 => ?_)
  refine p_cX 16 [.ref 376, yI (F101 110 101 119 0 0 0)] [] c108_13 rfl rfl rfl (fun k' hk' d' => d102 hg3195 hR) (fun hg3198 n3197 k3196 hk3196 => ?_)
  exact p_ireturn c108_16 (Hr _ hX hg3198 _)
def F109 (m : yM) : Int := (F102 (F101 110 117 108 108 0 0) m)
set_option maxRecDepth 100000 in
theorem d109 {L : Nat} {xs : Nat → Int32} {k d n : Nat} {c : yS3} {m : yM} (hR : RM c m) : PC (gZ L xs) k d 109 [.ref 376] m n (qX m (F109 m)) := by
  have hX : F109 m = F109 m := rfl
  have Hr : ∀ r, F109 m = r → rg r → ∀ n' : Nat, (qX m (F109 m)) (.inl (some (yI r))) m n' := fun r e h n' => by subst e; exact ⟨rfl, h, rfl⟩
  refine PC.mk [some (.ref 376)] kn109 rfl ?_
  refine p_aload 1 c109_0 rfl rfl ?_
  refine p_iconst 3 c109_1 rfl ?_
  refine p_iconst 5 c109_3 rfl ?_
  refine p_iconst 7 c109_5 rfl ?_
  refine p_iconst 9 c109_7 rfl ?_
  refine p_iconst 10 c109_9 rfl ?_
  refine p_iconst 11 c109_10 rfl ?_
  refine p_cX 14 [yI 110, yI 117, yI 108, yI 108, yI 0, yI 0] [.ref 376] c109_11 rfl rfl rfl (fun k' hk' d' => d101 (rgD rfl) (rgD rfl) (rgD rfl) (rgD rfl) (rgD rfl) (rgD rfl) hR) (fun hg3209 n3208 k3207 hk3207 => ?_)
  refine p_cX 17 [.ref 376, yI (F101 110 117 108 108 0 0)] [] c109_14 rfl rfl rfl (fun k' hk' d' => d102 hg3209 hR) (fun hg3212 n3211 k3210 hk3210 => ?_)
  exact p_ireturn c109_17 (Hr _ hX hg3212 _)
def F110 (m : yM) : Int := (F102 (F101 105 102 0 0 0 0) m)
set_option maxRecDepth 100000 in
theorem d110 {L : Nat} {xs : Nat → Int32} {k d n : Nat} {c : yS3} {m : yM} (hR : RM c m) : PC (gZ L xs) k d 110 [.ref 376] m n (qX m (F110 m)) := by
  have hX : F110 m = F110 m := rfl
  have Hr : ∀ r, F110 m = r → rg r → ∀ n' : Nat, (qX m (F110 m)) (.inl (some (yI r))) m n' := fun r e h n' => by subst e; exact ⟨rfl, h, rfl⟩
  refine PC.mk [some (.ref 376)] kn110 rfl ?_
  refine p_aload 1 c110_0 rfl rfl ?_
  refine p_iconst 3 c110_1 rfl ?_
  refine p_iconst 5 c110_3 rfl ?_
  refine p_iconst 6 c110_5 rfl ?_
  refine p_iconst 7 c110_6 rfl ?_
  refine p_iconst 8 c110_7 rfl ?_
  refine p_iconst 9 c110_8 rfl ?_
  refine p_cX 12 [yI 105, yI 102, yI 0, yI 0, yI 0, yI 0] [.ref 376] c110_9 rfl rfl rfl (fun k' hk' d' => d101 (rgD rfl) (rgD rfl) (rgD rfl) (rgD rfl) (rgD rfl) (rgD rfl) hR) (fun hg3223 n3222 k3221 hk3221 => ?_)
  refine p_cX 15 [.ref 376, yI (F101 105 102 0 0 0 0)] [] c110_12 rfl rfl rfl (fun k' hk' d' => d102 hg3223 hR) (fun hg3226 n3225 k3224 hk3224 => ?_)
  exact p_ireturn c110_15 (Hr _ hX hg3226 _)
end
section
/-! FUNCTIONS OF THE METHODS: printed by wip/fn/dc.py -/
def F111 (m : yM) : Int := (F102 (F101 101 108 115 101 0 0) m)
set_option maxRecDepth 100000 in
theorem d111 {L : Nat} {xs : Nat → Int32} {k d n : Nat} {c : yS3} {m : yM} (hR : RM c m) : PC (gZ L xs) k d 111 [.ref 376] m n (qX m (F111 m)) := by
  have hX : F111 m = F111 m := rfl
  have Hr : ∀ r, F111 m = r → rg r → ∀ n' : Nat, (qX m (F111 m)) (.inl (some (yI r))) m n' := fun r e h n' => by subst e; exact ⟨rfl, h, rfl⟩
  refine PC.mk [some (.ref 376)] kn111 rfl ?_
  refine p_aload 1 c111_0 rfl rfl ?_
  refine p_iconst 3 c111_1 rfl ?_
  refine p_iconst 5 c111_3 rfl ?_
  refine p_iconst 7 c111_5 rfl ?_
  refine p_iconst 9 c111_7 rfl ?_
  refine p_iconst 10 c111_9 rfl ?_
  refine p_iconst 11 c111_10 rfl ?_
  refine p_cX 14 [yI 101, yI 108, yI 115, yI 101, yI 0, yI 0] [.ref 376] c111_11 rfl rfl rfl (fun k' hk' d' => d101 (rgD rfl) (rgD rfl) (rgD rfl) (rgD rfl) (rgD rfl) (rgD rfl) hR) (fun hg3237 n3236 k3235 hk3235 => ?_)
  refine p_cX 17 [.ref 376, yI (F101 101 108 115 101 0 0)] [] c111_14 rfl rfl rfl (fun k' hk' d' => d102 hg3237 hR) (fun hg3240 n3239 k3238 hk3238 => ?_)
  exact p_ireturn c111_17 (Hr _ hX hg3240 _)
def F112 (m : yM) : Int := (F102 (F101 119 104 105 108 101 0) m)
set_option maxRecDepth 100000 in
theorem d112 {L : Nat} {xs : Nat → Int32} {k d n : Nat} {c : yS3} {m : yM} (hR : RM c m) : PC (gZ L xs) k d 112 [.ref 376] m n (qX m (F112 m)) := by
  have hX : F112 m = F112 m := rfl
  have Hr : ∀ r, F112 m = r → rg r → ∀ n' : Nat, (qX m (F112 m)) (.inl (some (yI r))) m n' := fun r e h n' => by subst e; exact ⟨rfl, h, rfl⟩
  refine PC.mk [some (.ref 376)] kn112 rfl ?_
  refine p_aload 1 c112_0 rfl rfl ?_
  refine p_iconst 3 c112_1 rfl ?_
  refine p_iconst 5 c112_3 rfl ?_
  refine p_iconst 7 c112_5 rfl ?_
  refine p_iconst 9 c112_7 rfl ?_
  refine p_iconst 11 c112_9 rfl ?_
  refine p_iconst 12 c112_11 rfl ?_
  refine p_cX 15 [yI 119, yI 104, yI 105, yI 108, yI 101, yI 0] [.ref 376] c112_12 rfl rfl rfl (fun k' hk' d' => d101 (rgD rfl) (rgD rfl) (rgD rfl) (rgD rfl) (rgD rfl) (rgD rfl) hR) (fun hg3251 n3250 k3249 hk3249 => ?_)
  refine p_cX 18 [.ref 376, yI (F101 119 104 105 108 101 0)] [] c112_15 rfl rfl rfl (fun k' hk' d' => d102 hg3251 hR) (fun hg3254 n3253 k3252 hk3252 => ?_)
  exact p_ireturn c112_18 (Hr _ hX hg3254 _)
def F113 (m : yM) : Int := (F102 (F101 114 101 116 117 114 110) m)
set_option maxRecDepth 100000 in
theorem d113 {L : Nat} {xs : Nat → Int32} {k d n : Nat} {c : yS3} {m : yM} (hR : RM c m) : PC (gZ L xs) k d 113 [.ref 376] m n (qX m (F113 m)) := by
  have hX : F113 m = F113 m := rfl
  have Hr : ∀ r, F113 m = r → rg r → ∀ n' : Nat, (qX m (F113 m)) (.inl (some (yI r))) m n' := fun r e h n' => by subst e; exact ⟨rfl, h, rfl⟩
  refine PC.mk [some (.ref 376)] kn113 rfl ?_
  refine p_aload 1 c113_0 rfl rfl ?_
  refine p_iconst 3 c113_1 rfl ?_
  refine p_iconst 5 c113_3 rfl ?_
  refine p_iconst 7 c113_5 rfl ?_
  refine p_iconst 9 c113_7 rfl ?_
  refine p_iconst 11 c113_9 rfl ?_
  refine p_iconst 13 c113_11 rfl ?_
  refine p_cX 16 [yI 114, yI 101, yI 116, yI 117, yI 114, yI 110] [.ref 376] c113_13 rfl rfl rfl (fun k' hk' d' => d101 (rgD rfl) (rgD rfl) (rgD rfl) (rgD rfl) (rgD rfl) (rgD rfl) hR) (fun hg3265 n3264 k3263 hk3263 => ?_)
  refine p_cX 19 [.ref 376, yI (F101 114 101 116 117 114 110)] [] c113_16 rfl rfl rfl (fun k' hk' d' => d102 hg3265 hR) (fun hg3268 n3267 k3266 hk3266 => ?_)
  exact p_ireturn c113_19 (Hr _ hX hg3268 _)
def F114 (m : yM) : Int := (F102 (F101 116 104 105 115 0 0) m)
set_option maxRecDepth 100000 in
theorem d114 {L : Nat} {xs : Nat → Int32} {k d n : Nat} {c : yS3} {m : yM} (hR : RM c m) : PC (gZ L xs) k d 114 [.ref 376] m n (qX m (F114 m)) := by
  have hX : F114 m = F114 m := rfl
  have Hr : ∀ r, F114 m = r → rg r → ∀ n' : Nat, (qX m (F114 m)) (.inl (some (yI r))) m n' := fun r e h n' => by subst e; exact ⟨rfl, h, rfl⟩
  refine PC.mk [some (.ref 376)] kn114 rfl ?_
  refine p_aload 1 c114_0 rfl rfl ?_
  refine p_iconst 3 c114_1 rfl ?_
  refine p_iconst 5 c114_3 rfl ?_
  refine p_iconst 7 c114_5 rfl ?_
  refine p_iconst 9 c114_7 rfl ?_
  refine p_iconst 10 c114_9 rfl ?_
  refine p_iconst 11 c114_10 rfl ?_
  refine p_cX 14 [yI 116, yI 104, yI 105, yI 115, yI 0, yI 0] [.ref 376] c114_11 rfl rfl rfl (fun k' hk' d' => d101 (rgD rfl) (rgD rfl) (rgD rfl) (rgD rfl) (rgD rfl) (rgD rfl) hR) (fun hg3279 n3278 k3277 hk3277 => ?_)
  refine p_cX 17 [.ref 376, yI (F101 116 104 105 115 0 0)] [] c114_14 rfl rfl rfl (fun k' hk' d' => d102 hg3279 hR) (fun hg3282 n3281 k3280 hk3280 => ?_)
  exact p_ireturn c114_17 (Hr _ hX hg3282 _)
def F115 (m : yM) : Int := (if m 376 3 = 1 then (if F103 m = 0 then (if F106 m = 0 then (if F107 m = 0 then (if F108 m = 0 then (if F109 m = 0 then (if F110 m = 0 then (if F111 m = 0 then (if F112 m = 0 then (if F113 m = 0 then (if F114 m = 0 then 1 else 0) else 0) else 0) else 0) else 0) else 0) else 0) else 0) else 0) else 0) else 0)
set_option maxRecDepth 100000 in
theorem d115 {L : Nat} {xs : Nat → Int32} {k d n : Nat} {c : yS3} {m : yM} (hR : RM c m) : PC (gZ L xs) k d 115 [.ref 376] m n (qX m (F115 m)) := by
  have hX : F115 m = F115 m := rfl
  have Hr : ∀ r, F115 m = r → rg r → ∀ n' : Nat, (qX m (F115 m)) (.inl (some (yI r))) m n' := fun r e h n' => by subst e; exact ⟨rfl, h, rfl⟩
  refine PC.mk [some (.ref 376)] kn115 rfl ?_
  refine p_aload 1 c115_0 rfl rfl ?_
  refine p_getX 4 (m 376 3) c115_1 rfl kf376_3 rfl ?_
  refine p_iconst 5 c115_4 rfl ?_
  refine p_icmp 82 8 c115_5 rfl rfl (yc_ne (hR.rg _ _) (rgD rfl)) (fun hb3150 k3151 hk3151 => ?_) (fun hb3150 k3152 hk3152 => ?_)
  · have hX3153 := hX.trans (if_neg hb3150)
    refine p_iconst 83 c115_82 rfl ?_
    exact p_ireturn c115_83 (Hr _ hX3153 (rgD rfl) _)
  · have hX3154 := hX.trans (if_pos (Classical.not_not.mp hb3150))
    refine p_aload 9 c115_8 rfl rfl ?_
    refine p_cX 12 [.ref 376] [] c115_9 rfl rfl rfl (fun k' hk' d' => d103 hR) (fun hg3157 n3156 k3155 hk3155 => ?_)
    refine p_if 82 15 c115_12 rfl rfl (yz_ne hg3157) (fun hb3158 k3159 hk3159 => ?_) (fun hb3158 k3160 hk3160 => ?_)
    · have hX3161 := hX3154.trans (if_neg hb3158)
      refine p_iconst 83 c115_82 rfl ?_
      exact p_ireturn c115_83 (Hr _ hX3161 (rgD rfl) _)
    · have hX3162 := hX3154.trans (if_pos (Classical.not_not.mp hb3158))
      refine p_aload 16 c115_15 rfl rfl ?_
      refine p_cX 19 [.ref 376] [] c115_16 rfl rfl rfl (fun k' hk' d' => d106 hR) (fun hg3171 n3164 k3163 hk3163 => ?_)
      refine p_if 82 22 c115_19 rfl rfl (yz_ne hg3171) (fun hb3172 k3173 hk3173 => ?_) (fun hb3172 k3174 hk3174 => ?_)
      · have hX3175 := hX3162.trans (if_neg hb3172)
        refine p_iconst 83 c115_82 rfl ?_
        exact p_ireturn c115_83 (Hr _ hX3175 (rgD rfl) _)
      · have hX3176 := hX3162.trans (if_pos (Classical.not_not.mp hb3172))
        refine p_aload 23 c115_22 rfl rfl ?_
        refine p_cX 26 [.ref 376] [] c115_23 rfl rfl rfl (fun k' hk' d' => d107 hR) (fun hg3185 n3178 k3177 hk3177 => ?_)
        refine p_if 82 29 c115_26 rfl rfl (yz_ne hg3185) (fun hb3186 k3187 hk3187 => ?_) (fun hb3186 k3188 hk3188 => ?_)
        · have hX3189 := hX3176.trans (if_neg hb3186)
          refine p_iconst 83 c115_82 rfl ?_
          exact p_ireturn c115_83 (Hr _ hX3189 (rgD rfl) _)
        · have hX3190 := hX3176.trans (if_pos (Classical.not_not.mp hb3186))
          refine p_aload 30 c115_29 rfl rfl ?_
          refine p_cX 33 [.ref 376] [] c115_30 rfl rfl rfl (fun k' hk' d' => d108 hR) (fun hg3199 n3192 k3191 hk3191 => ?_)
          refine p_if 82 36 c115_33 rfl rfl (yz_ne hg3199) (fun hb3200 k3201 hk3201 => ?_) (fun hb3200 k3202 hk3202 => ?_)
          · have hX3203 := hX3190.trans (if_neg hb3200)
            refine p_iconst 83 c115_82 rfl ?_
            exact p_ireturn c115_83 (Hr _ hX3203 (rgD rfl) _)
          · have hX3204 := hX3190.trans (if_pos (Classical.not_not.mp hb3200))
            refine p_aload 37 c115_36 rfl rfl ?_
            refine p_cX 40 [.ref 376] [] c115_37 rfl rfl rfl (fun k' hk' d' => d109 hR) (fun hg3213 n3206 k3205 hk3205 => ?_)
            refine p_if 82 43 c115_40 rfl rfl (yz_ne hg3213) (fun hb3214 k3215 hk3215 => ?_) (fun hb3214 k3216 hk3216 => ?_)
            · have hX3217 := hX3204.trans (if_neg hb3214)
              refine p_iconst 83 c115_82 rfl ?_
              exact p_ireturn c115_83 (Hr _ hX3217 (rgD rfl) _)
            · have hX3218 := hX3204.trans (if_pos (Classical.not_not.mp hb3214))
              refine p_aload 44 c115_43 rfl rfl ?_
              refine p_cX 47 [.ref 376] [] c115_44 rfl rfl rfl (fun k' hk' d' => d110 hR) (fun hg3227 n3220 k3219 hk3219 => ?_)
              refine p_if 82 50 c115_47 rfl rfl (yz_ne hg3227) (fun hb3228 k3229 hk3229 => ?_) (fun hb3228 k3230 hk3230 => ?_)
              · have hX3231 := hX3218.trans (if_neg hb3228)
                refine p_iconst 83 c115_82 rfl ?_
                exact p_ireturn c115_83 (Hr _ hX3231 (rgD rfl) _)
              · have hX3232 := hX3218.trans (if_pos (Classical.not_not.mp hb3228))
                refine p_aload 51 c115_50 rfl rfl ?_
                refine p_cX 54 [.ref 376] [] c115_51 rfl rfl rfl (fun k' hk' d' => d111 hR) (fun hg3241 n3234 k3233 hk3233 => ?_)
                refine p_if 82 57 c115_54 rfl rfl (yz_ne hg3241) (fun hb3242 k3243 hk3243 => ?_) (fun hb3242 k3244 hk3244 => ?_)
                · have hX3245 := hX3232.trans (if_neg hb3242)
                  refine p_iconst 83 c115_82 rfl ?_
                  exact p_ireturn c115_83 (Hr _ hX3245 (rgD rfl) _)
                · have hX3246 := hX3232.trans (if_pos (Classical.not_not.mp hb3242))
                  refine p_aload 58 c115_57 rfl rfl ?_
                  refine p_cX 61 [.ref 376] [] c115_58 rfl rfl rfl (fun k' hk' d' => d112 hR) (fun hg3255 n3248 k3247 hk3247 => ?_)
                  refine p_if 82 64 c115_61 rfl rfl (yz_ne hg3255) (fun hb3256 k3257 hk3257 => ?_) (fun hb3256 k3258 hk3258 => ?_)
                  · have hX3259 := hX3246.trans (if_neg hb3256)
                    refine p_iconst 83 c115_82 rfl ?_
                    exact p_ireturn c115_83 (Hr _ hX3259 (rgD rfl) _)
                  · have hX3260 := hX3246.trans (if_pos (Classical.not_not.mp hb3256))
                    refine p_aload 65 c115_64 rfl rfl ?_
                    refine p_cX 68 [.ref 376] [] c115_65 rfl rfl rfl (fun k' hk' d' => d113 hR) (fun hg3269 n3262 k3261 hk3261 => ?_)
                    refine p_if 82 71 c115_68 rfl rfl (yz_ne hg3269) (fun hb3270 k3271 hk3271 => ?_) (fun hb3270 k3272 hk3272 => ?_)
                    · have hX3273 := hX3260.trans (if_neg hb3270)
                      refine p_iconst 83 c115_82 rfl ?_
                      exact p_ireturn c115_83 (Hr _ hX3273 (rgD rfl) _)
                    · have hX3274 := hX3260.trans (if_pos (Classical.not_not.mp hb3270))
                      refine p_aload 72 c115_71 rfl rfl ?_
                      refine p_cX 75 [.ref 376] [] c115_72 rfl rfl rfl (fun k' hk' d' => d114 hR) (fun hg3283 n3276 k3275 hk3275 => ?_)
                      refine p_if 82 78 c115_75 rfl rfl (yz_ne hg3283) (fun hb3284 k3285 hk3285 => ?_) (fun hb3284 k3286 hk3286 => ?_)
                      · have hX3287 := hX3274.trans (if_neg hb3284)
                        refine p_iconst 83 c115_82 rfl ?_
                        exact p_ireturn c115_83 (Hr _ hX3287 (rgD rfl) _)
                      · have hX3288 := hX3274.trans (if_pos (Classical.not_not.mp hb3284))
                        refine p_iconst 79 c115_78 rfl ?_
                        refine p_goto 83 c115_79 rfl ?_
                        exact p_ireturn c115_83 (Hr _ hX3288 (rgD rfl) _)
def F117 (x1 : Int) (m : yM) : Int := (if m 376 3 = 2 then (if m 376 4 = x1 then 1 else 0) else 0)
set_option maxRecDepth 100000 in
theorem d117 {L : Nat} {xs : Nat → Int32} {k d n : Nat} {c : yS3} {x1 : Int} {m : yM} (gx1 : rg x1) (hR : RM c m) : PC (gZ L xs) k d 117 [.ref 376, yI x1] m n (qX m (F117 x1 m)) := by
  have hX : F117 x1 m = F117 x1 m := rfl
  have Hr : ∀ r, F117 x1 m = r → rg r → ∀ n' : Nat, (qX m (F117 x1 m)) (.inl (some (yI r))) m n' := fun r e h n' => by subst e; exact ⟨rfl, h, rfl⟩
  refine PC.mk [some (.ref 376), some (yI x1)] kn117 rfl ?_
  refine p_aload 1 c117_0 rfl rfl ?_
  refine p_getX 4 (m 376 3) c117_1 rfl kf376_3 rfl ?_
  refine p_iconst 5 c117_4 rfl ?_
  refine p_icmp 20 8 c117_5 rfl rfl (yc_ne (hR.rg _ _) (rgD rfl)) (fun hb3308 k3309 hk3309 => ?_) (fun hb3308 k3310 hk3310 => ?_)
  · have hX3311 := hX.trans (if_neg hb3308)
    refine p_iconst 21 c117_20 rfl ?_
    exact p_ireturn c117_21 (Hr _ hX3311 (rgD rfl) _)
  · have hX3312 := hX.trans (if_pos (Classical.not_not.mp hb3308))
    refine p_aload 9 c117_8 rfl rfl ?_
    refine p_getX 12 (m 376 4) c117_9 rfl kf376_4 rfl ?_
    refine p_iload 13 c117_12 rfl rfl ?_
    refine p_icmp 20 16 c117_13 rfl rfl (yc_ne (hR.rg _ _) gx1) (fun hb3313 k3314 hk3314 => ?_) (fun hb3313 k3315 hk3315 => ?_)
    · have hX3316 := hX3312.trans (if_neg hb3313)
      refine p_iconst 21 c117_20 rfl ?_
      exact p_ireturn c117_21 (Hr _ hX3316 (rgD rfl) _)
    · have hX3317 := hX3312.trans (if_pos (Classical.not_not.mp hb3313))
      refine p_iconst 17 c117_16 rfl ?_
      refine p_goto 21 c117_17 rfl ?_
      exact p_ireturn c117_21 (Hr _ hX3317 (rgD rfl) _)
def F118 (f : Nat) (x1 : Int) (m : yM) : Option (Int × yM) := (bI (F105 f (F117 x1 m) m) (fun r3359 m3361 => (some (r3359, m3361))))
set_option maxRecDepth 100000 in
theorem d118 {L : Nat} {xs : Nat → Int32} {k d n : Nat} {c : yS3} {f : Nat} {x1 : Int} {m : yM} (hk : k ≤ f) (gx1 : rg x1) (hR : RM c m) : PC (gZ L xs) k d 118 [.ref 376, yI x1] m n (qS c (F118 f x1 m)) := by
  have hX : F118 f x1 m = F118 f x1 m := rfl
  have Hr : ∀ r m', F118 f x1 m = some (r, m') → rg r → RM c m' → ∀ n' : Nat, (qS c (F118 f x1 m)) (.inl (some (yI r))) m' n' := fun r m' e h1 h2 n' => ⟨r, rfl, h1, h2, e⟩
  refine PC.mk [some (.ref 376), some (yI x1)] kn118 rfl ?_
  refine p_aload 1 c118_0 rfl rfl ?_
  refine p_aload 2 c118_1 rfl rfl ?_
  refine p_iload 3 c118_2 rfl rfl ?_
  refine p_cX 6 [.ref 376, yI x1] [.ref 376] c118_3 rfl rfl rfl (fun k' hk' d' => d117 gx1 hR) (fun hg3354 n3353 k3352 hk3352 => ?_)
  refine p_cS 9 [.ref 376, yI (F117 x1 m)] [] c118_6 rfl rfl rfl (fun k' hk' d' => d105 (f := f) (by omega) hg3354 hR) (fun r3359 m3361 hF3357 hg3358 hR3362 n3356 k3355 hk3355 => ?_)
  have hX3360 := hX.trans (bI_s hF3357)
  exact p_ireturn c118_9 (Hr _ _ hX3360 hg3358 hR3362 _)
def B116_2 (f : Nat) (x1 : Int) (x2 : Int) (x3 : Int) (m : yM) : Option (Int ⊕ (Int ⊕ Int)) := (if x3 < m 383 x1.toNat then (if m 391 (wr ((wr (6 * x1)) + x3)).toNat = x2 then (some (.inr (.inr x3))) else (some (.inl (wr (x3 + 1))))) else (some (.inr (.inl x3))))
set_option maxRecDepth 100000 in
theorem tB116_2 {L : Nat} {xs : Nat → Int32} {Q : xO → yM → Nat → Prop} {k d n : Nat} {c : yS3} {f : Nat} {x1 : Int} {x2 : Int} {x3 : Int} {m : yM} (hk : k ≤ f) (gx1 : rg x1) (gx2 : rg x2) (gx3 : rg x3) (hR : RM c m) (Hn : ∀ (y0 : Int) (n' : Nat), B116_2 f x1 x2 x3 m = some (.inl y0) → rg y0 → ∀ k', k' < k → PW (gZ L xs) k' 116 d 2 [some (.ref 376), some (yI x1), some (yI x2), some (yI y0)] [] m n' Q) (He : ∀ (y0 : Int) (n' : Nat), B116_2 f x1 x2 x3 m = some (.inr (.inl y0)) → rg y0 → ∀ k', k' ≤ k → PW (gZ L xs) k' 116 d 35 [some (.ref 376), some (yI x1), some (yI x2), some (yI y0)] [] m n' Q) (Hr : ∀ r, B116_2 f x1 x2 x3 m = some (.inr (.inr r)) → rg r → ∀ n', Q (.inl (some (yI r))) m n') : PW (gZ L xs) k 116 d 2 [some (.ref 376), some (yI x1), some (yI x2), some (yI x3)] [] m n Q := by
  have hX : B116_2 f x1 x2 x3 m = B116_2 f x1 x2 x3 m := rfl
  refine p_iload 3 c116_2 rfl rfl ?_
  refine p_aload 4 c116_3 rfl rfl ?_
  refine p_getR 7 c116_4 rfl kf376_20 ?_
  refine p_iload 8 c116_7 rfl rfl ?_
  refine p_iaX 9 (m 383 x1.toNat) c116_8 rfl ka383 gx1 rfl (fun hx3411 => ?_)
  refine p_icmp 35 12 c116_9 rfl rfl ((yc_ge gx3 (hR.rg _ _)).trans Int.not_lt.symm) (fun hb3412 k3413 hk3413 => ?_) (fun hb3412 k3414 hk3414 => ?_)
  · have hX3415 := hX.trans (if_neg hb3412)
    exact He _ _ hX3415 gx3 _ (by omega)
  · have hX3416 := hX.trans (if_pos (Classical.not_not.mp hb3412))
    refine p_aload 13 c116_12 rfl rfl ?_
    refine p_getR 16 c116_13 rfl kf376_28 ?_
    refine p_iconst 18 c116_16 rfl ?_
    refine p_iload 19 c116_18 rfl rfl ?_
    refine p_imul 20 c116_19 rfl ?_
    refine p_iload 21 c116_20 rfl rfl ?_
    refine p_iadd 22 c116_21 rfl ?_
    refine p_iaX 23 (m 391 (wr ((wr (6 * x1)) + x3)).toNat) c116_22 rfl ka391 (rg_wr _) rfl (fun hx3417 => ?_)
    refine p_iload 24 c116_23 rfl rfl ?_
    refine p_icmp 29 27 c116_24 rfl rfl (yc_ne (hR.rg _ _) gx2) (fun hb3418 k3419 hk3419 => ?_) (fun hb3418 k3420 hk3420 => ?_)
    · have hX3421 := hX3416.trans (if_neg hb3418)
      refine p_iinc 32 c116_29 rfl rfl rfl ?_
      refine p_gotoD 2 c116_32 rfl (fun k3422 hk3422 => ?_)
      exact Hn _ _ hX3421 (rg_wr _) _ (by omega)
    · have hX3423 := hX3416.trans (if_pos (Classical.not_not.mp hb3418))
      refine p_iload 28 c116_27 rfl rfl ?_
      exact p_ireturn c116_28 (Hr _ hX3423 gx3 _)
def F116 (f : Nat) (x1 : Int) (x2 : Int) (m : yM) : Option Int := (bQ (ploop (fun (l : Int) => B116_2 f x1 x2 l m) f 0) (fun l3424 => (some ((-1)))) (fun r => some r))
set_option maxRecDepth 100000 in
theorem d116 {L : Nat} {xs : Nat → Int32} {k d n : Nat} {c : yS3} {f : Nat} {x1 : Int} {x2 : Int} {m : yM} (hk : k ≤ f) (gx1 : rg x1) (gx2 : rg x2) (hR : RM c m) : PC (gZ L xs) k d 116 [.ref 376, yI x1, yI x2] m n (qO m (F116 f x1 x2 m)) := by
  have hX : F116 f x1 x2 m = F116 f x1 x2 m := rfl
  have Hr : ∀ r, F116 f x1 x2 m = some r → rg r → ∀ n' : Nat, (qO m (F116 f x1 x2 m)) (.inl (some (yI r))) m n' := fun r e h n' => ⟨r, rfl, h, rfl, e⟩
  refine PC.mk [some (.ref 376), some (yI x1), some (yI x2), none] kn116 rfl ?_
  refine p_iconst 1 c116_0 rfl ?_
  refine p_istore 2 c116_1 rfl rfl ?_
  refine PW.ploop (K := k) (pce := 35) (fun (l : Int) => B116_2 f x1 x2 l m) (fun (l : Int) j => [some (.ref 376), some (yI x1), some (yI x2), some (yI l)]) (fun (l : Int) => rg l) (fun r' => rg r' → ∀ n' : Nat, (qO m (F116 f x1 x2 m)) (.inl (some (yI r'))) m n') (fun k' hk' l j n' hl Hn' He' Hr' => tB116_2 (f := f) (by omega) gx1 gx2 hl hR (fun y0 n2 e h0 => Hn' y0 (fun q => ([none, none, none, none] : List (Option Value)).getD q none) n2 e h0) (fun y0 n2 e h0 => He' y0 (fun q => ([none, none, none, none] : List (Option Value)).getD q none) n2 e h0) Hr') f k (by omega) (Nat.le_refl _) 0 (fun q => ([some (.ref 376), some (yI x1), some (yI x2), some (yI 0)] : xL).getD q none) _ (rgD rfl) (fun l3424 j3427 n3429 e3426 hl3425 k3428 hk3428 => ?_) (fun r' e' => ?_)
  · have hX3430 := hX.trans (bQ_l e3426)
    refine p_iconst 36 c116_35 rfl ?_
    exact p_ireturn c116_36 (Hr _ hX3430 (rgD rfl) _)
  · exact Hr r' (hX.trans (bQ_r e'))
def B119_161 (f : Nat) (x1 : Int) (x5 : Int) (m : yM) : Option ((Int × yM) ⊕ ((Int × yM) ⊕ (Unit × yM))) := (if x5 < 8 then (some (.inl ((wr (x5 + 1)), yup m 393 (wr ((wr ((wr (48 * x1)) + (wr (8 * (m 383 x1.toNat))))) + x5)).toNat 0))) else (some (.inr (.inl (x5, m)))))
set_option maxRecDepth 100000 in
theorem tB119_161 {L : Nat} {xs : Nat → Int32} {Q : xO → yM → Nat → Prop} {k d n : Nat} {c : yS3} {f : Nat} {x1 : Int} {x5 : Int} {m : yM} {j2 j3 j4 : Option Value} (hk : k ≤ f) (gx1 : rg x1) (gx5 : rg x5) (hR : RM c m) (Hn : ∀ (y0 : Int) (z0 z1 z2 : Option Value) (m' : yM) (n' : Nat), B119_161 f x1 x5 m = some (.inl (y0, m')) → rg y0 → RM c m' → ∀ k', k' < k → PW (gZ L xs) k' 119 d 161 [some (.ref 376), some (yI x1), z0, z1, z2, some (yI y0)] [] m' n' Q) (He : ∀ (y0 : Int) (z0 z1 z2 : Option Value) (m' : yM) (n' : Nat), B119_161 f x1 x5 m = some (.inr (.inl (y0, m'))) → rg y0 → RM c m' → ∀ k', k' ≤ k → PW (gZ L xs) k' 119 d 197 [some (.ref 376), some (yI x1), z0, z1, z2, some (yI y0)] [] m' n' Q) (Hr : ∀ m', B119_161 f x1 x5 m = some (.inr (.inr ((), m'))) → RM c m' → ∀ n', Q (.inl none) m' n') : PW (gZ L xs) k 119 d 161 [some (.ref 376), some (yI x1), j2, j3, j4, some (yI x5)] [] m n Q := by
  have hX : B119_161 f x1 x5 m = B119_161 f x1 x5 m := rfl
  refine p_iload 163 c119_161 rfl rfl ?_
  refine p_iconst 165 c119_163 rfl ?_
  refine p_icmp 197 168 c119_165 rfl rfl ((yc_ge gx5 (rgD rfl)).trans Int.not_lt.symm) (fun hb3329 k3330 hk3330 => ?_) (fun hb3329 k3331 hk3331 => ?_)
  · have hX3332 := hX.trans (if_neg hb3329)
    exact He _ _ _ _ _ _ hX3332 gx5 hR _ (by omega)
  · have hX3333 := hX.trans (if_pos (Classical.not_not.mp hb3329))
    refine p_aload 169 c119_168 rfl rfl ?_
    refine p_getR 172 c119_169 rfl kf376_30 ?_
    refine p_iconst 174 c119_172 rfl ?_
    refine p_iload 175 c119_174 rfl rfl ?_
    refine p_imul 176 c119_175 rfl ?_
    refine p_iconst 178 c119_176 rfl ?_
    refine p_aload 179 c119_178 rfl rfl ?_
    refine p_getR 182 c119_179 rfl kf376_20 ?_
    refine p_iload 183 c119_182 rfl rfl ?_
    refine p_iaX 184 (m 383 x1.toNat) c119_183 rfl ka383 gx1 rfl (fun hx3334 => ?_)
    refine p_imul 185 c119_184 rfl ?_
    refine p_iadd 186 c119_185 rfl ?_
    refine p_iload 188 c119_186 rfl rfl ?_
    refine p_iadd 189 c119_188 rfl ?_
    refine p_iconst 190 c119_189 rfl ?_
    refine p_iaS 191 c119_190 rfl ka393 (rg_wr _) 0 rfl (fun hx3335 => ?_)
    have hR3336 := hR.up 393 (wr ((wr ((wr (48 * x1)) + (wr (8 * (m 383 x1.toNat))))) + x5)).toNat (v := 0) (nselA (by decide)) (rgD rfl)
    refine p_iinc 194 c119_191 rfl rfl rfl ?_
    refine p_gotoD 161 c119_194 rfl (fun k3337 hk3337 => ?_)
    exact Hn _ _ _ _ _ _ hX3333 (rg_wr _) hR3336 _ (by omega)
def J119_123 (f : Nat) (x1 : Int) (x3 : Int) (x4 : Int) (m : yM) : Option yM := (bL (yloop (fun (l : Int) ml => B119_161 f x1 l ml) f 0 (yup (yup m 391 (wr ((wr (6 * x1)) + (m 383 x1.toNat))).toNat x3) 392 (wr ((wr (6 * x1)) + (m 383 x1.toNat))).toNat x4)) (fun l3338 m3344 => (bI (F118 f 123 (yup m3344 383 x1.toNat (wr ((m3344 383 x1.toNat) + 1)))) (fun r3365 m3367 => (if r3365 = 0 then (some m3367) else (some m3367))))) (fun _ mr => some mr))
set_option maxRecDepth 100000 in
theorem tJ119_123 {L : Nat} {xs : Nat → Int32} {Q : xO → yM → Nat → Prop} {k d n : Nat} {c : yS3} {f : Nat} {x1 : Int} {x3 : Int} {x4 : Int} {m : yM} {j2 j5 : Option Value} (hk : k ≤ f) (gx1 : rg x1) (gx3 : rg x3) (gx4 : rg x4) (hR : RM c m) (Hr : ∀ m', J119_123 f x1 x3 x4 m = some m' → RM c m' → ∀ n', Q (.inl none) m' n') : PW (gZ L xs) k 119 d 123 [some (.ref 376), some (yI x1), j2, some (yI x3), some (yI x4), j5] [] m n Q := by
  have hX : J119_123 f x1 x3 x4 m = J119_123 f x1 x3 x4 m := rfl
  refine p_aload 124 c119_123 rfl rfl ?_
  refine p_getR 127 c119_124 rfl kf376_28 ?_
  refine p_iconst 129 c119_127 rfl ?_
  refine p_iload 130 c119_129 rfl rfl ?_
  refine p_imul 131 c119_130 rfl ?_
  refine p_aload 132 c119_131 rfl rfl ?_
  refine p_getR 135 c119_132 rfl kf376_20 ?_
  refine p_iload 136 c119_135 rfl rfl ?_
  refine p_iaX 137 (m 383 x1.toNat) c119_136 rfl ka383 gx1 rfl (fun hx3323 => ?_)
  refine p_iadd 138 c119_137 rfl ?_
  refine p_iload 139 c119_138 rfl rfl ?_
  refine p_iaS 140 c119_139 rfl ka391 (rg_wr _) x3 (nar0 gx3) (fun hx3324 => ?_)
  have hR3325 := hR.up 391 (wr ((wr (6 * x1)) + (m 383 x1.toNat))).toNat (v := x3) (nselA (by decide)) gx3
  refine p_aload 141 c119_140 rfl rfl ?_
  refine p_getR 144 c119_141 rfl kf376_29 ?_
  refine p_iconst 146 c119_144 rfl ?_
  refine p_iload 147 c119_146 rfl rfl ?_
  refine p_imul 148 c119_147 rfl ?_
  refine p_aload 149 c119_148 rfl rfl ?_
  refine p_getR 152 c119_149 rfl kf376_20 ?_
  refine p_iload 153 c119_152 rfl rfl ?_
  refine p_iaX 154 (m 383 x1.toNat) c119_153 rfl ka383 gx1 (yup_na (by decide)) (fun hx3326 => ?_)
  refine p_iadd 155 c119_154 rfl ?_
  refine p_iload 157 c119_155 rfl rfl ?_
  refine p_iaS 158 c119_157 rfl ka392 (rg_wr _) x4 (nar0 gx4) (fun hx3327 => ?_)
  have hR3328 := hR3325.up 392 (wr ((wr (6 * x1)) + (m 383 x1.toNat))).toNat (v := x4) (nselA (by decide)) gx4
  refine p_iconst 159 c119_158 rfl ?_
  refine p_istore 161 c119_159 rfl rfl ?_
  refine PW.loop (K := k) (pce := 197) (fun (l : Int) ml => B119_161 f x1 l ml) (fun (l : Int) j => [some (.ref 376), some (yI x1), j 2, j 3, j 4, some (yI l)]) (fun (l : Int) => rg l) (RM c) (fun (r' : Unit) m' => RM c m' → ∀ n' : Nat, Q (.inl none) m' n') (fun k' hk' l j m' n' hl hI Hn' He' Hr' => tB119_161 (f := f) (by omega) gx1 hl hI (fun y0 y1 y2 y3 m2 n2 e h0 hR2 => Hn' y0 (fun q => ([none, none, y1, y2, y3, none] : List (Option Value)).getD q none) m2 n2 e h0 hR2) (fun y0 y1 y2 y3 m2 n2 e h0 hR2 => He' y0 (fun q => ([none, none, y1, y2, y3, none] : List (Option Value)).getD q none) m2 n2 e h0 hR2) (fun m2 e => Hr' () m2 e)) f k (by omega) (Nat.le_refl _) 0 (fun q => ([some (.ref 376), some (yI x1), j2, some (yI x3), some (yI x4), some (yI 0)] : xL).getD q none) _ _ (rgD rfl) hR3328 (fun l3338 j3341 m3344 n3343 e3340 hl3339 hR3345 k3342 hk3342 => ?_) (fun r' m' e' => ?_)
  · have hX3346 := hX.trans (bL_l e3340)
    refine p_aload 198 c119_197 rfl rfl ?_
    refine p_getR 201 c119_198 rfl kf376_20 ?_
    refine p_iload 202 c119_201 rfl rfl ?_
    refine p_dup2 203 c119_202 rfl ⟨rfl, rfl⟩ ?_
    refine p_iaX 204 (m3344 383 x1.toNat) c119_203 rfl ka383 gx1 rfl (fun hx3347 => ?_)
    refine p_iconst 205 c119_204 rfl ?_
    refine p_iadd 206 c119_205 rfl ?_
    refine p_iaS 207 c119_206 rfl ka383 gx1 (wr ((m3344 383 x1.toNat) + 1)) (nar0 (rg_wr _)) (fun hx3348 => ?_)
    have hR3349 := hR3345.up 383 x1.toNat (v := wr ((m3344 383 x1.toNat) + 1)) (nselA (by decide)) (rg_wr _)
    refine p_aload 208 c119_207 rfl rfl ?_
    refine p_iconst 210 c119_208 rfl ?_
    refine p_cS 213 [.ref 376, yI 123] [] c119_210 rfl rfl rfl (fun k' hk' d' => d118 (f := f) (by omega) (rgD rfl) hR3349) (fun r3365 m3367 hF3363 hg3364 hR3368 n3351 k3350 hk3350 => ?_)
    have hX3366 := hX3346.trans (bI_s hF3363)
    refine p_if 217 216 c119_213 rfl rfl (yz_ne hg3364) (fun hb3369 k3370 hk3370 => ?_) (fun hb3369 k3371 hk3371 => ?_)
    · have hX3372 := hX3366.trans (if_neg hb3369)
      exact p_return c119_217 (Hr _ hX3372 hR3368 _)
    · have hX3373 := hX3366.trans (if_pos (Classical.not_not.mp hb3369))
      exact p_return c119_216 (Hr _ hX3373 hR3368 _)
  · exact Hr m' (hX.trans (bL_r e'))
def J119_116 (f : Nat) (x1 : Int) (x3 : Int) (x4 : Int) (xs1 : Int) (m : yM) : Option yM := (bI (F105 f xs1 m) (fun r3398 m3400 => (if r3398 = 0 then (some m3400) else (J119_123 f x1 x3 x4 m3400))))
set_option maxRecDepth 100000 in
theorem tJ119_116 {L : Nat} {xs : Nat → Int32} {Q : xO → yM → Nat → Prop} {k d n : Nat} {c : yS3} {f : Nat} {x1 : Int} {x3 : Int} {x4 : Int} {xs1 : Int} {m : yM} {j2 j5 : Option Value} (hk : k ≤ f) (gx1 : rg x1) (gx3 : rg x3) (gx4 : rg x4) (gxs1 : rg xs1) (hR : RM c m) (Hr : ∀ m', J119_116 f x1 x3 x4 xs1 m = some m' → RM c m' → ∀ n', Q (.inl none) m' n') : PW (gZ L xs) k 119 d 116 [some (.ref 376), some (yI x1), j2, some (yI x3), some (yI x4), j5] [yI xs1, .ref 376] m n Q := by
  have hX : J119_116 f x1 x3 x4 xs1 m = J119_116 f x1 x3 x4 xs1 m := rfl
  refine p_cS 119 [.ref 376, yI xs1] [] c119_116 rfl rfl rfl (fun k' hk' d' => d105 (f := f) (by omega) gxs1 hR) (fun r3398 m3400 hF3396 hg3397 hR3401 n3395 k3394 hk3394 => ?_)
  have hX3399 := hX.trans (bI_s hF3396)
  refine p_if 123 122 c119_119 rfl rfl (yz_ne hg3397) (fun hb3402 k3403 hk3403 => ?_) (fun hb3402 k3404 hk3404 => ?_)
  · have hX3405 := hX3399.trans (if_neg hb3402)
    exact tJ119_123 (f := f) (by omega) gx1 gx3 gx4 hR3401 (fun m' e' => Hr m' (hX3405.trans e'))
  · have hX3406 := hX3399.trans (if_pos (Classical.not_not.mp hb3402))
    exact p_return c119_122 (Hr _ hX3406 hR3401 _)
def J119_103 (f : Nat) (x1 : Int) (x3 : Int) (xs0 : Int) (m : yM) : Option yM := (if xs0 < 0 then (J119_116 f x1 x3 xs0 0 m) else (J119_116 f x1 x3 xs0 1 m))
set_option maxRecDepth 100000 in
theorem tJ119_103 {L : Nat} {xs : Nat → Int32} {Q : xO → yM → Nat → Prop} {k d n : Nat} {c : yS3} {f : Nat} {x1 : Int} {x3 : Int} {xs0 : Int} {m : yM} {j2 j4 j5 : Option Value} (hk : k ≤ f) (gx1 : rg x1) (gx3 : rg x3) (gxs0 : rg xs0) (hR : RM c m) (Hr : ∀ m', J119_103 f x1 x3 xs0 m = some m' → RM c m' → ∀ n', Q (.inl none) m' n') : PW (gZ L xs) k 119 d 103 [some (.ref 376), some (yI x1), j2, some (yI x3), j4, j5] [yI xs0] m n Q := by
  have hX : J119_103 f x1 x3 xs0 m = J119_103 f x1 x3 xs0 m := rfl
  refine p_istore 105 c119_103 rfl rfl ?_
  refine p_aload 106 c119_105 rfl rfl ?_
  refine p_iload 108 c119_106 rfl rfl ?_
  refine p_if 115 111 c119_108 rfl rfl (yz_lt gxs0) (fun hb3390 k3391 hk3391 => ?_) (fun hb3390 k3392 hk3392 => ?_)
  · have hX3393 := hX.trans (if_pos hb3390)
    refine p_iconst 116 c119_115 rfl ?_
    exact tJ119_116 (f := f) (by omega) gx1 gx3 gxs0 (rgD rfl) hR (fun m' e' => Hr m' (hX3393.trans e'))
  · have hX3407 := hX.trans (if_neg hb3390)
    refine p_iconst 112 c119_111 rfl ?_
    refine p_goto 116 c119_112 rfl ?_
    exact tJ119_116 (f := f) (by omega) gx1 gx3 gxs0 (rgD rfl) hR (fun m' e' => Hr m' (hX3407.trans e'))
def J119_52 (f : Nat) (x1 : Int) (xs0 : Int) (m : yM) : Option yM := (bI (F105 f xs0 m) (fun r3298 m3300 => (if r3298 = 0 then (some m3300) else (if F117 58 m3300 = 0 then (J119_123 f x1 (m 376 4) ((-1)) m3300) else (bU (F99 f m3300) (fun m3381 => (if F115 m3381 = 0 then (J119_103 f x1 (m 376 4) ((-1)) m3381) else (bP (F116 f x1 (m3381 376 4) m3381) (fun r3433 => (J119_103 f x1 (m 376 4) r3433 m3381))))))))))
set_option maxRecDepth 100000 in
theorem tJ119_52 {L : Nat} {xs : Nat → Int32} {Q : xO → yM → Nat → Prop} {k d n : Nat} {c : yS3} {f : Nat} {x1 : Int} {xs0 : Int} {m : yM} {j2 j3 j4 j5 : Option Value} (hk : k ≤ f) (gx1 : rg x1) (gxs0 : rg xs0) (hR : RM c m) (Hr : ∀ m', J119_52 f x1 xs0 m = some m' → RM c m' → ∀ n', Q (.inl none) m' n') : PW (gZ L xs) k 119 d 52 [some (.ref 376), some (yI x1), j2, j3, j4, j5] [yI xs0] m n Q := by
  have hX : J119_52 f x1 xs0 m = J119_52 f x1 xs0 m := rfl
  refine p_istore 53 c119_52 rfl rfl ?_
  refine p_aload 54 c119_53 rfl rfl ?_
  refine p_getX 57 (m 376 4) c119_54 rfl kf376_4 rfl ?_
  refine p_istore 58 c119_57 rfl rfl ?_
  refine p_aload 59 c119_58 rfl rfl ?_
  refine p_iload 60 c119_59 rfl rfl ?_
  refine p_cS 63 [.ref 376, yI xs0] [] c119_60 rfl rfl rfl (fun k' hk' d' => d105 (f := f) (by omega) gxs0 hR) (fun r3298 m3300 hF3296 hg3297 hR3301 n3295 k3294 hk3294 => ?_)
  have hX3299 := hX.trans (bI_s hF3296)
  refine p_if 67 66 c119_63 rfl rfl (yz_ne hg3297) (fun hb3302 k3303 hk3303 => ?_) (fun hb3302 k3304 hk3304 => ?_)
  · have hX3305 := hX3299.trans (if_neg hb3302)
    refine p_iconst 68 c119_67 rfl ?_
    refine p_istore 70 c119_68 rfl rfl ?_
    refine p_aload 71 c119_70 rfl rfl ?_
    refine p_iconst 73 c119_71 rfl ?_
    refine p_cX 76 [.ref 376, yI 58] [] c119_73 rfl rfl rfl (fun k' hk' d' => d117 (rgD rfl) hR3301) (fun hg3318 n3307 k3306 hk3306 => ?_)
    refine p_if 123 79 c119_76 rfl rfl (yz_eq hg3318) (fun hb3319 k3320 hk3320 => ?_) (fun hb3319 k3321 hk3321 => ?_)
    · have hX3322 := hX3305.trans (if_pos hb3319)
      exact tJ119_123 (f := f) (by omega) gx1 (hR.rg _ _) (rgD rfl) hR3301 (fun m' e' => Hr m' (hX3322.trans e'))
    · have hX3374 := hX3305.trans (if_neg hb3319)
      refine p_aload 80 c119_79 rfl rfl ?_
      refine p_cV 83 [.ref 376] [] c119_80 rfl rfl rfl (fun k' hk' d' => d99 (f := f) (by omega) hR3301) (fun m3381 hF3377 hR3382 n3376 k3375 hk3375 => ?_)
      have hX3380 := hX3374.trans (bU_s hF3377)
      refine p_aload 84 c119_83 rfl rfl ?_
      refine p_cX 87 [.ref 376] [] c119_84 rfl rfl rfl (fun k' hk' d' => d115 hR3382) (fun hg3385 n3384 k3383 hk3383 => ?_)
      refine p_if 102 90 c119_87 rfl rfl (yz_eq hg3385) (fun hb3386 k3387 hk3387 => ?_) (fun hb3386 k3388 hk3388 => ?_)
      · have hX3389 := hX3380.trans (if_pos hb3386)
        refine p_iconst 103 c119_102 rfl ?_
        exact tJ119_103 (f := f) (by omega) gx1 (hR.rg _ _) (rgD rfl) hR3382 (fun m' e' => Hr m' (hX3389.trans e'))
      · have hX3408 := hX3380.trans (if_neg hb3386)
        refine p_aload 91 c119_90 rfl rfl ?_
        refine p_iload 92 c119_91 rfl rfl ?_
        refine p_aload 93 c119_92 rfl rfl ?_
        refine p_getX 96 (m3381 376 4) c119_93 rfl kf376_4 rfl ?_
        refine p_cO 99 [.ref 376, yI x1, yI (m3381 376 4)] [] c119_96 rfl rfl rfl (fun k' hk' d' => d116 (f := f) (by omega) gx1 (hR3382.rg _ _) hR3382) (fun r3433 hF3431 hg3432 n3410 k3409 hk3409 => ?_)
        have hX3434 := hX3408.trans (bP_s hF3431)
        refine p_goto 103 c119_99 rfl ?_
        exact tJ119_103 (f := f) (by omega) gx1 (hR.rg _ _) hg3432 hR3382 (fun m' e' => Hr m' (hX3434.trans e'))
  · have hX3435 := hX3299.trans (if_pos (Classical.not_not.mp hb3302))
    exact p_return c119_66 (Hr _ hX3435 hR3301 _)
def J119_51 (f : Nat) (x1 : Int) (m : yM) : Option yM := (J119_52 f x1 0 m)
set_option maxRecDepth 100000 in
theorem tJ119_51 {L : Nat} {xs : Nat → Int32} {Q : xO → yM → Nat → Prop} {k d n : Nat} {c : yS3} {f : Nat} {x1 : Int} {m : yM} {j2 j3 j4 j5 : Option Value} (hk : k ≤ f) (gx1 : rg x1) (hR : RM c m) (Hr : ∀ m', J119_51 f x1 m = some m' → RM c m' → ∀ n', Q (.inl none) m' n') : PW (gZ L xs) k 119 d 51 [some (.ref 376), some (yI x1), j2, j3, j4, j5] [] m n Q := by
  have hX : J119_51 f x1 m = J119_51 f x1 m := rfl
  refine p_iconst 52 c119_51 rfl ?_
  exact tJ119_52 (f := f) (by omega) gx1 (rgD rfl) hR (fun m' e' => Hr m' (hX.trans e'))
def F119 (f : Nat) (m : yM) : Option yM := (bI (F105 f (F103 m) m) (fun r3140 m3142 => (if r3140 = 0 then (some m3142) else (if F115 m3142 = 0 then (J119_51 f (F96 m) m3142) else (if m3142 383 (F96 m).toNat < 6 then (bP (F116 f (F96 m) (m3142 376 4) m3142) (fun r3447 => (if r3447 < 0 then (J119_52 f (F96 m) 1 m3142) else (J119_51 f (F96 m) m3142)))) else (J119_51 f (F96 m) m3142))))))
set_option maxRecDepth 100000 in
theorem d119 {L : Nat} {xs : Nat → Int32} {k d n : Nat} {c : yS3} {f : Nat} {m : yM} (hk : k ≤ f) (hR : RM c m) : PC (gZ L xs) k d 119 [.ref 376] m n (qV c (F119 f m)) := by
  have hX : F119 f m = F119 f m := rfl
  have Hr : ∀ m', F119 f m = some m' → RM c m' → ∀ n' : Nat, (qV c (F119 f m)) (.inl none) m' n' := fun m' e h n' => ⟨rfl, h, e⟩
  refine PC.mk [some (.ref 376), none, none, none, none, none] kn119 rfl ?_
  refine p_aload 1 c119_0 rfl rfl ?_
  refine p_cX 4 [.ref 376] [] c119_1 rfl rfl rfl (fun k' hk' d' => d96 hR) (fun hg3056 n3055 k3054 hk3054 => ?_)
  refine p_istore 5 c119_4 rfl rfl ?_
  refine p_aload 6 c119_5 rfl rfl ?_
  refine p_aload 7 c119_6 rfl rfl ?_
  refine p_cX 10 [.ref 376] [.ref 376] c119_7 rfl rfl rfl (fun k' hk' d' => d103 hR) (fun hg3098 n3058 k3057 hk3057 => ?_)
  refine p_cS 13 [.ref 376, yI (F103 m)] [] c119_10 rfl rfl rfl (fun k' hk' d' => d105 (f := f) (by omega) hg3098 hR) (fun r3140 m3142 hF3138 hg3139 hR3143 n3100 k3099 hk3099 => ?_)
  have hX3141 := hX.trans (bI_s hF3138)
  refine p_if 17 16 c119_13 rfl rfl (yz_ne hg3139) (fun hb3144 k3145 hk3145 => ?_) (fun hb3144 k3146 hk3146 => ?_)
  · have hX3147 := hX3141.trans (if_neg hb3144)
    refine p_aload 18 c119_17 rfl rfl ?_
    refine p_cX 21 [.ref 376] [] c119_18 rfl rfl rfl (fun k' hk' d' => d115 hR3143) (fun hg3289 n3149 k3148 hk3148 => ?_)
    refine p_if 51 24 c119_21 rfl rfl (yz_eq hg3289) (fun hb3290 k3291 hk3291 => ?_) (fun hb3290 k3292 hk3292 => ?_)
    · have hX3293 := hX3147.trans (if_pos hb3290)
      exact tJ119_51 (f := f) (by omega) hg3056 hR3143 (fun m' e' => Hr m' (hX3293.trans e'))
    · have hX3436 := hX3147.trans (if_neg hb3290)
      refine p_aload 25 c119_24 rfl rfl ?_
      refine p_getR 28 c119_25 rfl kf376_20 ?_
      refine p_iload 29 c119_28 rfl rfl ?_
      refine p_iaX 30 (m3142 383 (F96 m).toNat) c119_29 rfl ka383 hg3056 rfl (fun hx3437 => ?_)
      refine p_iconst 32 c119_30 rfl ?_
      refine p_icmp 51 35 c119_32 rfl rfl ((yc_ge (hR3143.rg _ _) (rgD rfl)).trans Int.not_lt.symm) (fun hb3438 k3439 hk3439 => ?_) (fun hb3438 k3440 hk3440 => ?_)
      · have hX3441 := hX3436.trans (if_neg hb3438)
        exact tJ119_51 (f := f) (by omega) hg3056 hR3143 (fun m' e' => Hr m' (hX3441.trans e'))
      · have hX3442 := hX3436.trans (if_pos (Classical.not_not.mp hb3438))
        refine p_aload 36 c119_35 rfl rfl ?_
        refine p_iload 37 c119_36 rfl rfl ?_
        refine p_aload 38 c119_37 rfl rfl ?_
        refine p_getX 41 (m3142 376 4) c119_38 rfl kf376_4 rfl ?_
        refine p_cO 44 [.ref 376, yI (F96 m), yI (m3142 376 4)] [] c119_41 rfl rfl rfl (fun k' hk' d' => d116 (f := f) (by omega) hg3056 (hR3143.rg _ _) hR3143) (fun r3447 hF3445 hg3446 n3444 k3443 hk3443 => ?_)
        have hX3448 := hX3442.trans (bP_s hF3445)
        refine p_if 51 47 c119_44 rfl rfl ((yz_ge hg3446).trans Int.not_lt.symm) (fun hb3449 k3450 hk3450 => ?_) (fun hb3449 k3451 hk3451 => ?_)
        · have hX3452 := hX3448.trans (if_neg hb3449)
          exact tJ119_51 (f := f) (by omega) hg3056 hR3143 (fun m' e' => Hr m' (hX3452.trans e'))
        · have hX3453 := hX3448.trans (if_pos (Classical.not_not.mp hb3449))
          refine p_iconst 48 c119_47 rfl ?_
          refine p_goto 52 c119_48 rfl ?_
          exact tJ119_52 (f := f) (by omega) hg3056 (rgD rfl) hR3143 (fun m' e' => Hr m' (hX3453.trans e'))
  · have hX3454 := hX3141.trans (if_pos (Classical.not_not.mp hb3144))
    exact p_return c119_16 (Hr _ hX3454 hR3143 _)
def F124 (f : Nat) (x1 : Int) (m : yM) : Option (Int × yM) := (some (wr ((wr ((m 389 (F96 m).toNat) + 1)) - 1), yup (yup m 380 (m 389 (F96 m).toNat).toNat x1) 389 (F96 m).toNat (wr ((m 389 (F96 m).toNat) + 1))))
set_option maxRecDepth 100000 in
theorem d124 {L : Nat} {xs : Nat → Int32} {k d n : Nat} {c : yS3} {f : Nat} {x1 : Int} {m : yM} (hk : k ≤ f) (gx1 : rg x1) (hR : RM c m) : PC (gZ L xs) k d 124 [.ref 376, yI x1] m n (qS c (F124 f x1 m)) := by
  have hX : F124 f x1 m = F124 f x1 m := rfl
  have Hr : ∀ r m', F124 f x1 m = some (r, m') → rg r → RM c m' → ∀ n' : Nat, (qS c (F124 f x1 m)) (.inl (some (yI r))) m' n' := fun r m' e h1 h2 n' => ⟨r, rfl, h1, h2, e⟩
  refine PC.mk [some (.ref 376), some (yI x1), none] kn124 rfl ?_
  refine p_aload 1 c124_0 rfl rfl ?_
  refine p_cX 4 [.ref 376] [] c124_1 rfl rfl rfl (fun k' hk' d' => d96 hR) (fun hg3545 n3544 k3543 hk3543 => ?_)
  refine p_istore 5 c124_4 rfl rfl ?_
  refine p_aload 6 c124_5 rfl rfl ?_
  refine p_getR 9 c124_6 rfl kf376_13 ?_
  refine p_aload 10 c124_9 rfl rfl ?_
  refine p_getR 13 c124_10 rfl kf376_26 ?_
  refine p_iload 14 c124_13 rfl rfl ?_
  refine p_iaX 15 (m 389 (F96 m).toNat) c124_14 rfl ka389 hg3545 rfl (fun hx3546 => ?_)
  refine p_iload 16 c124_15 rfl rfl ?_
  refine p_iaS 17 c124_16 rfl ka380 (hR.rg _ _) x1 (nar0 gx1) (fun hx3547 => ?_)
  have hR3548 := hR.up 380 (m 389 (F96 m).toNat).toNat (v := x1) (nselA (by decide)) gx1
  refine p_aload 18 c124_17 rfl rfl ?_
  refine p_getR 21 c124_18 rfl kf376_26 ?_
  refine p_iload 22 c124_21 rfl rfl ?_
  refine p_dup2 23 c124_22 rfl ⟨rfl, rfl⟩ ?_
  refine p_iaX 24 (m 389 (F96 m).toNat) c124_23 rfl ka389 hg3545 (yup_na (by decide)) (fun hx3549 => ?_)
  refine p_iconst 25 c124_24 rfl ?_
  refine p_iadd 26 c124_25 rfl ?_
  refine p_iaS 27 c124_26 rfl ka389 hg3545 (wr ((m 389 (F96 m).toNat) + 1)) (nar0 (rg_wr _)) (fun hx3550 => ?_)
  have hR3551 := hR3548.up 389 (F96 m).toNat (v := wr ((m 389 (F96 m).toNat) + 1)) (nselA (by decide)) (rg_wr _)
  refine p_aload 28 c124_27 rfl rfl ?_
  refine p_getR 31 c124_28 rfl kf376_26 ?_
  refine p_iload 32 c124_31 rfl rfl ?_
  refine p_iaX 33 (wr ((m 389 (F96 m).toNat) + 1)) c124_32 rfl ka389 hg3545 (yup_eq _ _ _ _) (fun hx3552 => ?_)
  refine p_iconst 34 c124_33 rfl ?_
  refine p_isub 35 c124_34 rfl ?_
  exact p_ireturn c124_35 (Hr _ _ hX (rg_wr _) hR3551 _)
def J125_130 (f : Nat) (x1 : Int) (x2 : Int) (x3 : Int) (m : yM) : Option ((Int × yM) ⊕ ((Int × yM) ⊕ (Unit × yM))) := (some (.inl (x3, m)))
set_option maxRecDepth 100000 in
theorem tJ125_130 {L : Nat} {xs : Nat → Int32} {Q : xO → yM → Nat → Prop} {k d n : Nat} {c : yS3} {f : Nat} {x1 : Int} {x2 : Int} {x3 : Int} {m : yM} {j4 j5 j6 : Option Value} (hk : k ≤ f) (gx1 : rg x1) (gx2 : rg x2) (gx3 : rg x3) (hR : RM c m) (Hn : ∀ (y0 : Int) (z0 z1 z2 : Option Value) (m' : yM) (n' : Nat), J125_130 f x1 x2 x3 m = some (.inl (y0, m')) → rg y0 → RM c m' → ∀ k', k' < k → PW (gZ L xs) k' 125 d 7 [some (.ref 376), some (yI x1), some (yI x2), some (yI y0), z0, z1, z2] [] m' n' Q) (He : ∀ (y0 : Int) (z0 z1 z2 : Option Value) (m' : yM) (n' : Nat), J125_130 f x1 x2 x3 m = some (.inr (.inl (y0, m'))) → rg y0 → RM c m' → ∀ k', k' ≤ k → PW (gZ L xs) k' 125 d 133 [some (.ref 376), some (yI x1), some (yI x2), some (yI y0), z0, z1, z2] [] m' n' Q) (Hr : ∀ m', J125_130 f x1 x2 x3 m = some (.inr (.inr ((), m'))) → RM c m' → ∀ n', Q (.inl none) m' n') : PW (gZ L xs) k 125 d 130 [some (.ref 376), some (yI x1), some (yI x2), some (yI x3), j4, j5, j6] [] m n Q := by
  have hX : J125_130 f x1 x2 x3 m = J125_130 f x1 x2 x3 m := rfl
  refine p_gotoD 7 c125_130 rfl (fun k3673 hk3673 => ?_)
  exact Hn _ _ _ _ _ _ hX gx3 hR _ (by omega)
def J125_121 (f : Nat) (x1 : Int) (x2 : Int) (xs0 : Int) (m : yM) : Option ((Int × yM) ⊕ ((Int × yM) ⊕ (Unit × yM))) := (if xs0 = 0 then (J125_130 f x1 x2 xs0 m) else (bU (F99 f m) (fun m3681 => (J125_130 f x1 x2 xs0 m3681))))
set_option maxRecDepth 100000 in
theorem tJ125_121 {L : Nat} {xs : Nat → Int32} {Q : xO → yM → Nat → Prop} {k d n : Nat} {c : yS3} {f : Nat} {x1 : Int} {x2 : Int} {xs0 : Int} {m : yM} {j3 j4 j5 j6 : Option Value} (hk : k ≤ f) (gx1 : rg x1) (gx2 : rg x2) (gxs0 : rg xs0) (hR : RM c m) (Hn : ∀ (y0 : Int) (z0 z1 z2 : Option Value) (m' : yM) (n' : Nat), J125_121 f x1 x2 xs0 m = some (.inl (y0, m')) → rg y0 → RM c m' → ∀ k', k' < k → PW (gZ L xs) k' 125 d 7 [some (.ref 376), some (yI x1), some (yI x2), some (yI y0), z0, z1, z2] [] m' n' Q) (He : ∀ (y0 : Int) (z0 z1 z2 : Option Value) (m' : yM) (n' : Nat), J125_121 f x1 x2 xs0 m = some (.inr (.inl (y0, m'))) → rg y0 → RM c m' → ∀ k', k' ≤ k → PW (gZ L xs) k' 125 d 133 [some (.ref 376), some (yI x1), some (yI x2), some (yI y0), z0, z1, z2] [] m' n' Q) (Hr : ∀ m', J125_121 f x1 x2 xs0 m = some (.inr (.inr ((), m'))) → RM c m' → ∀ n', Q (.inl none) m' n') : PW (gZ L xs) k 125 d 121 [some (.ref 376), some (yI x1), some (yI x2), j3, j4, j5, j6] [yI xs0] m n Q := by
  have hX : J125_121 f x1 x2 xs0 m = J125_121 f x1 x2 xs0 m := rfl
  refine p_istore 122 c125_121 rfl rfl ?_
  refine p_iload 123 c125_122 rfl rfl ?_
  refine p_if 130 126 c125_123 rfl rfl (yz_eq gxs0) (fun hb3669 k3670 hk3670 => ?_) (fun hb3669 k3671 hk3671 => ?_)
  · have hX3672 := hX.trans (if_pos hb3669)
    exact tJ125_130 (f := f) (by omega) gx1 gx2 gxs0 hR (fun y0 y1 y2 y3 m' n' e' h0 hR' k' hk' => Hn y0 y1 y2 y3 m' n' (hX3672.trans e') h0 hR' k' (by omega)) (fun y0 y1 y2 y3 m' n' e' h0 hR' k' hk' => He y0 y1 y2 y3 m' n' (hX3672.trans e') h0 hR' k' (by omega)) (fun m' e' => Hr m' (hX3672.trans e'))
  · have hX3674 := hX.trans (if_neg hb3669)
    refine p_aload 127 c125_126 rfl rfl ?_
    refine p_cV 130 [.ref 376] [] c125_127 rfl rfl rfl (fun k' hk' d' => d99 (f := f) (by omega) hR) (fun m3681 hF3677 hR3682 n3676 k3675 hk3675 => ?_)
    have hX3680 := hX3674.trans (bU_s hF3677)
    exact tJ125_130 (f := f) (by omega) gx1 gx2 gxs0 hR3682 (fun y0 y1 y2 y3 m' n' e' h0 hR' k' hk' => Hn y0 y1 y2 y3 m' n' (hX3680.trans e') h0 hR' k' (by omega)) (fun y0 y1 y2 y3 m' n' e' h0 hR' k' hk' => He y0 y1 y2 y3 m' n' (hX3680.trans e') h0 hR' k' (by omega)) (fun m' e' => Hr m' (hX3680.trans e'))
def J125_120 (f : Nat) (x1 : Int) (x2 : Int) (m : yM) : Option ((Int × yM) ⊕ ((Int × yM) ⊕ (Unit × yM))) := (J125_121 f x1 x2 0 m)
set_option maxRecDepth 100000 in
theorem tJ125_120 {L : Nat} {xs : Nat → Int32} {Q : xO → yM → Nat → Prop} {k d n : Nat} {c : yS3} {f : Nat} {x1 : Int} {x2 : Int} {m : yM} {j3 j4 j5 j6 : Option Value} (hk : k ≤ f) (gx1 : rg x1) (gx2 : rg x2) (hR : RM c m) (Hn : ∀ (y0 : Int) (z0 z1 z2 : Option Value) (m' : yM) (n' : Nat), J125_120 f x1 x2 m = some (.inl (y0, m')) → rg y0 → RM c m' → ∀ k', k' < k → PW (gZ L xs) k' 125 d 7 [some (.ref 376), some (yI x1), some (yI x2), some (yI y0), z0, z1, z2] [] m' n' Q) (He : ∀ (y0 : Int) (z0 z1 z2 : Option Value) (m' : yM) (n' : Nat), J125_120 f x1 x2 m = some (.inr (.inl (y0, m'))) → rg y0 → RM c m' → ∀ k', k' ≤ k → PW (gZ L xs) k' 125 d 133 [some (.ref 376), some (yI x1), some (yI x2), some (yI y0), z0, z1, z2] [] m' n' Q) (Hr : ∀ m', J125_120 f x1 x2 m = some (.inr (.inr ((), m'))) → RM c m' → ∀ n', Q (.inl none) m' n') : PW (gZ L xs) k 125 d 120 [some (.ref 376), some (yI x1), some (yI x2), j3, j4, j5, j6] [] m n Q := by
  have hX : J125_120 f x1 x2 m = J125_120 f x1 x2 m := rfl
  refine p_iconst 121 c125_120 rfl ?_
  exact tJ125_121 (f := f) (by omega) gx1 gx2 (rgD rfl) hR (fun y0 y1 y2 y3 m' n' e' h0 hR' k' hk' => Hn y0 y1 y2 y3 m' n' (hX.trans e') h0 hR' k' (by omega)) (fun y0 y1 y2 y3 m' n' e' h0 hR' k' hk' => He y0 y1 y2 y3 m' n' (hX.trans e') h0 hR' k' (by omega)) (fun m' e' => Hr m' (hX.trans e'))
def J125_61 (f : Nat) (x1 : Int) (x2 : Int) (xs0 : Int) (m : yM) : Option ((Int × yM) ⊕ ((Int × yM) ⊕ (Unit × yM))) := (bI (F105 f xs0 m) (fun r3645 m3647 => (if r3645 = 0 then (some (.inr (.inr ((), m3647)))) else (bI (F124 f (m 376 4) m3647) (fun r3657 m3659 => (if wr ((m3659 397 x1.toNat) + 1) = 1 then (if F117 44 (yup m3659 397 x1.toNat (wr ((m3659 397 x1.toNat) + 1))) = 0 then (J125_120 f x1 x2 (yup m3659 397 x1.toNat (wr ((m3659 397 x1.toNat) + 1)))) else (J125_121 f x1 x2 1 (yup m3659 397 x1.toNat (wr ((m3659 397 x1.toNat) + 1))))) else (J125_120 f x1 x2 (yup m3659 397 x1.toNat (wr ((m3659 397 x1.toNat) + 1))))))))))
set_option maxRecDepth 100000 in
theorem tJ125_61 {L : Nat} {xs : Nat → Int32} {Q : xO → yM → Nat → Prop} {k d n : Nat} {c : yS3} {f : Nat} {x1 : Int} {x2 : Int} {xs0 : Int} {m : yM} {j3 j4 j5 j6 : Option Value} (hk : k ≤ f) (gx1 : rg x1) (gx2 : rg x2) (gxs0 : rg xs0) (hR : RM c m) (Hn : ∀ (y0 : Int) (z0 z1 z2 : Option Value) (m' : yM) (n' : Nat), J125_61 f x1 x2 xs0 m = some (.inl (y0, m')) → rg y0 → RM c m' → ∀ k', k' < k → PW (gZ L xs) k' 125 d 7 [some (.ref 376), some (yI x1), some (yI x2), some (yI y0), z0, z1, z2] [] m' n' Q) (He : ∀ (y0 : Int) (z0 z1 z2 : Option Value) (m' : yM) (n' : Nat), J125_61 f x1 x2 xs0 m = some (.inr (.inl (y0, m'))) → rg y0 → RM c m' → ∀ k', k' ≤ k → PW (gZ L xs) k' 125 d 133 [some (.ref 376), some (yI x1), some (yI x2), some (yI y0), z0, z1, z2] [] m' n' Q) (Hr : ∀ m', J125_61 f x1 x2 xs0 m = some (.inr (.inr ((), m'))) → RM c m' → ∀ n', Q (.inl none) m' n') : PW (gZ L xs) k 125 d 61 [some (.ref 376), some (yI x1), some (yI x2), j3, j4, j5, j6] [yI xs0] m n Q := by
  have hX : J125_61 f x1 x2 xs0 m = J125_61 f x1 x2 xs0 m := rfl
  refine p_istore 63 c125_61 rfl rfl ?_
  refine p_aload 64 c125_63 rfl rfl ?_
  refine p_getX 67 (m 376 4) c125_64 rfl kf376_4 rfl ?_
  refine p_istore 69 c125_67 rfl rfl ?_
  refine p_aload 70 c125_69 rfl rfl ?_
  refine p_iload 72 c125_70 rfl rfl ?_
  refine p_cS 75 [.ref 376, yI xs0] [] c125_72 rfl rfl rfl (fun k' hk' d' => d105 (f := f) (by omega) gxs0 hR) (fun r3645 m3647 hF3643 hg3644 hR3648 n3642 k3641 hk3641 => ?_)
  have hX3646 := hX.trans (bI_s hF3643)
  refine p_if 79 78 c125_75 rfl rfl (yz_ne hg3644) (fun hb3649 k3650 hk3650 => ?_) (fun hb3649 k3651 hk3651 => ?_)
  · have hX3652 := hX3646.trans (if_neg hb3649)
    refine p_aload 80 c125_79 rfl rfl ?_
    refine p_iload 82 c125_80 rfl rfl ?_
    refine p_cS 85 [.ref 376, yI (m 376 4)] [] c125_82 rfl rfl rfl (fun k' hk' d' => d124 (f := f) (by omega) (hR.rg _ _) hR3648) (fun r3657 m3659 hF3655 hg3656 hR3660 n3654 k3653 hk3653 => ?_)
    have hX3658 := hX3652.trans (bI_s hF3655)
    refine p_istore 87 c125_85 rfl rfl ?_
    refine p_aload 88 c125_87 rfl rfl ?_
    refine p_getR 91 c125_88 rfl kf376_34 ?_
    refine p_iload 92 c125_91 rfl rfl ?_
    refine p_dup2 93 c125_92 rfl ⟨rfl, rfl⟩ ?_
    refine p_iaX 94 (m3659 397 x1.toNat) c125_93 rfl ka397 gx1 rfl (fun hx3661 => ?_)
    refine p_iconst 95 c125_94 rfl ?_
    refine p_iadd 96 c125_95 rfl ?_
    refine p_iaS 97 c125_96 rfl ka397 gx1 (wr ((m3659 397 x1.toNat) + 1)) (nar0 (rg_wr _)) (fun hx3662 => ?_)
    have hR3663 := hR3660.up 397 x1.toNat (v := wr ((m3659 397 x1.toNat) + 1)) (nselA (by decide)) (rg_wr _)
    refine p_aload 98 c125_97 rfl rfl ?_
    refine p_getR 101 c125_98 rfl kf376_34 ?_
    refine p_iload 102 c125_101 rfl rfl ?_
    refine p_iaX 103 (wr ((m3659 397 x1.toNat) + 1)) c125_102 rfl ka397 gx1 (yup_eq _ _ _ _) (fun hx3664 => ?_)
    refine p_iconst 104 c125_103 rfl ?_
    refine p_icmp 120 107 c125_104 rfl rfl (yc_ne (rg_wr _) (rgD rfl)) (fun hb3665 k3666 hk3666 => ?_) (fun hb3665 k3667 hk3667 => ?_)
    · have hX3668 := hX3658.trans (if_neg hb3665)
      exact tJ125_120 (f := f) (by omega) gx1 gx2 hR3663 (fun y0 y1 y2 y3 m' n' e' h0 hR' k' hk' => Hn y0 y1 y2 y3 m' n' (hX3668.trans e') h0 hR' k' (by omega)) (fun y0 y1 y2 y3 m' n' e' h0 hR' k' hk' => He y0 y1 y2 y3 m' n' (hX3668.trans e') h0 hR' k' (by omega)) (fun m' e' => Hr m' (hX3668.trans e'))
    · have hX3683 := hX3658.trans (if_pos (Classical.not_not.mp hb3665))
      refine p_aload 108 c125_107 rfl rfl ?_
      refine p_iconst 110 c125_108 rfl ?_
      refine p_cX 113 [.ref 376, yI 44] [] c125_110 rfl rfl rfl (fun k' hk' d' => d117 (rgD rfl) hR3663) (fun hg3686 n3685 k3684 hk3684 => ?_)
      refine p_if 120 116 c125_113 rfl rfl (yz_eq hg3686) (fun hb3687 k3688 hk3688 => ?_) (fun hb3687 k3689 hk3689 => ?_)
      · have hX3690 := hX3683.trans (if_pos hb3687)
        exact tJ125_120 (f := f) (by omega) gx1 gx2 hR3663 (fun y0 y1 y2 y3 m' n' e' h0 hR' k' hk' => Hn y0 y1 y2 y3 m' n' (hX3690.trans e') h0 hR' k' (by omega)) (fun y0 y1 y2 y3 m' n' e' h0 hR' k' hk' => He y0 y1 y2 y3 m' n' (hX3690.trans e') h0 hR' k' (by omega)) (fun m' e' => Hr m' (hX3690.trans e'))
      · have hX3691 := hX3683.trans (if_neg hb3687)
        refine p_iconst 117 c125_116 rfl ?_
        refine p_goto 121 c125_117 rfl ?_
        exact tJ125_121 (f := f) (by omega) gx1 gx2 (rgD rfl) hR3663 (fun y0 y1 y2 y3 m' n' e' h0 hR' k' hk' => Hn y0 y1 y2 y3 m' n' (hX3691.trans e') h0 hR' k' (by omega)) (fun y0 y1 y2 y3 m' n' e' h0 hR' k' hk' => He y0 y1 y2 y3 m' n' (hX3691.trans e') h0 hR' k' (by omega)) (fun m' e' => Hr m' (hX3691.trans e'))
  · have hX3692 := hX3646.trans (if_pos (Classical.not_not.mp hb3649))
    exact p_return c125_78 (Hr _ hX3692 hR3648 _)
def J125_60 (f : Nat) (x1 : Int) (x2 : Int) (m : yM) : Option ((Int × yM) ⊕ ((Int × yM) ⊕ (Unit × yM))) := (J125_61 f x1 x2 0 m)
set_option maxRecDepth 100000 in
theorem tJ125_60 {L : Nat} {xs : Nat → Int32} {Q : xO → yM → Nat → Prop} {k d n : Nat} {c : yS3} {f : Nat} {x1 : Int} {x2 : Int} {m : yM} {j3 j4 j5 j6 : Option Value} (hk : k ≤ f) (gx1 : rg x1) (gx2 : rg x2) (hR : RM c m) (Hn : ∀ (y0 : Int) (z0 z1 z2 : Option Value) (m' : yM) (n' : Nat), J125_60 f x1 x2 m = some (.inl (y0, m')) → rg y0 → RM c m' → ∀ k', k' < k → PW (gZ L xs) k' 125 d 7 [some (.ref 376), some (yI x1), some (yI x2), some (yI y0), z0, z1, z2] [] m' n' Q) (He : ∀ (y0 : Int) (z0 z1 z2 : Option Value) (m' : yM) (n' : Nat), J125_60 f x1 x2 m = some (.inr (.inl (y0, m'))) → rg y0 → RM c m' → ∀ k', k' ≤ k → PW (gZ L xs) k' 125 d 133 [some (.ref 376), some (yI x1), some (yI x2), some (yI y0), z0, z1, z2] [] m' n' Q) (Hr : ∀ m', J125_60 f x1 x2 m = some (.inr (.inr ((), m'))) → RM c m' → ∀ n', Q (.inl none) m' n') : PW (gZ L xs) k 125 d 60 [some (.ref 376), some (yI x1), some (yI x2), j3, j4, j5, j6] [] m n Q := by
  have hX : J125_60 f x1 x2 m = J125_60 f x1 x2 m := rfl
  refine p_iconst 61 c125_60 rfl ?_
  exact tJ125_61 (f := f) (by omega) gx1 gx2 (rgD rfl) hR (fun y0 y1 y2 y3 m' n' e' h0 hR' k' hk' => Hn y0 y1 y2 y3 m' n' (hX.trans e') h0 hR' k' (by omega)) (fun y0 y1 y2 y3 m' n' e' h0 hR' k' hk' => He y0 y1 y2 y3 m' n' (hX.trans e') h0 hR' k' (by omega)) (fun m' e' => Hr m' (hX.trans e'))
def J125_56 (f : Nat) (x1 : Int) (x2 : Int) (m : yM) : Option ((Int × yM) ⊕ ((Int × yM) ⊕ (Unit × yM))) := (J125_61 f x1 x2 1 m)
set_option maxRecDepth 100000 in
theorem tJ125_56 {L : Nat} {xs : Nat → Int32} {Q : xO → yM → Nat → Prop} {k d n : Nat} {c : yS3} {f : Nat} {x1 : Int} {x2 : Int} {m : yM} {j3 j4 j5 j6 : Option Value} (hk : k ≤ f) (gx1 : rg x1) (gx2 : rg x2) (hR : RM c m) (Hn : ∀ (y0 : Int) (z0 z1 z2 : Option Value) (m' : yM) (n' : Nat), J125_56 f x1 x2 m = some (.inl (y0, m')) → rg y0 → RM c m' → ∀ k', k' < k → PW (gZ L xs) k' 125 d 7 [some (.ref 376), some (yI x1), some (yI x2), some (yI y0), z0, z1, z2] [] m' n' Q) (He : ∀ (y0 : Int) (z0 z1 z2 : Option Value) (m' : yM) (n' : Nat), J125_56 f x1 x2 m = some (.inr (.inl (y0, m'))) → rg y0 → RM c m' → ∀ k', k' ≤ k → PW (gZ L xs) k' 125 d 133 [some (.ref 376), some (yI x1), some (yI x2), some (yI y0), z0, z1, z2] [] m' n' Q) (Hr : ∀ m', J125_56 f x1 x2 m = some (.inr (.inr ((), m'))) → RM c m' → ∀ n', Q (.inl none) m' n') : PW (gZ L xs) k 125 d 56 [some (.ref 376), some (yI x1), some (yI x2), j3, j4, j5, j6] [] m n Q := by
  have hX : J125_56 f x1 x2 m = J125_56 f x1 x2 m := rfl
  refine p_iconst 57 c125_56 rfl ?_
  refine p_goto 61 c125_57 rfl ?_
  exact tJ125_61 (f := f) (by omega) gx1 gx2 (rgD rfl) hR (fun y0 y1 y2 y3 m' n' e' h0 hR' k' hk' => Hn y0 y1 y2 y3 m' n' (hX.trans e') h0 hR' k' (by omega)) (fun y0 y1 y2 y3 m' n' e' h0 hR' k' hk' => He y0 y1 y2 y3 m' n' (hX.trans e') h0 hR' k' (by omega)) (fun m' e' => Hr m' (hX.trans e'))
def B125_7 (f : Nat) (x1 : Int) (x2 : Int) (x3 : Int) (m : yM) : Option ((Int × yM) ⊕ ((Int × yM) ⊕ (Unit × yM))) := (if x3 = 0 then (some (.inr (.inl (x3, m)))) else (if F115 m = 0 then (J125_60 f x1 x2 m) else (if m 389 x2.toNat < 48 then (if m 397 x1.toNat = 0 then (J125_56 f x1 x2 m) else (if m 380 (wr ((m 376 14) + 2)).toNat = m 376 4 then (J125_60 f x1 x2 m) else (J125_56 f x1 x2 m))) else (J125_60 f x1 x2 m))))
set_option maxRecDepth 100000 in
theorem tB125_7 {L : Nat} {xs : Nat → Int32} {Q : xO → yM → Nat → Prop} {k d n : Nat} {c : yS3} {f : Nat} {x1 : Int} {x2 : Int} {x3 : Int} {m : yM} {j4 j5 j6 : Option Value} (hk : k ≤ f) (gx1 : rg x1) (gx2 : rg x2) (gx3 : rg x3) (hR : RM c m) (Hn : ∀ (y0 : Int) (z0 z1 z2 : Option Value) (m' : yM) (n' : Nat), B125_7 f x1 x2 x3 m = some (.inl (y0, m')) → rg y0 → RM c m' → ∀ k', k' < k → PW (gZ L xs) k' 125 d 7 [some (.ref 376), some (yI x1), some (yI x2), some (yI y0), z0, z1, z2] [] m' n' Q) (He : ∀ (y0 : Int) (z0 z1 z2 : Option Value) (m' : yM) (n' : Nat), B125_7 f x1 x2 x3 m = some (.inr (.inl (y0, m'))) → rg y0 → RM c m' → ∀ k', k' ≤ k → PW (gZ L xs) k' 125 d 133 [some (.ref 376), some (yI x1), some (yI x2), some (yI y0), z0, z1, z2] [] m' n' Q) (Hr : ∀ m', B125_7 f x1 x2 x3 m = some (.inr (.inr ((), m'))) → RM c m' → ∀ n', Q (.inl none) m' n') : PW (gZ L xs) k 125 d 7 [some (.ref 376), some (yI x1), some (yI x2), some (yI x3), j4, j5, j6] [] m n Q := by
  have hX : B125_7 f x1 x2 x3 m = B125_7 f x1 x2 x3 m := rfl
  refine p_iload 8 c125_7 rfl rfl ?_
  refine p_if 133 11 c125_8 rfl rfl (yz_eq gx3) (fun hb3629 k3630 hk3630 => ?_) (fun hb3629 k3631 hk3631 => ?_)
  · have hX3632 := hX.trans (if_pos hb3629)
    exact He _ _ _ _ _ _ hX3632 gx3 hR _ (by omega)
  · have hX3633 := hX.trans (if_neg hb3629)
    refine p_aload 12 c125_11 rfl rfl ?_
    refine p_cX 15 [.ref 376] [] c125_12 rfl rfl rfl (fun k' hk' d' => d115 hR) (fun hg3636 n3635 k3634 hk3634 => ?_)
    refine p_if 60 18 c125_15 rfl rfl (yz_eq hg3636) (fun hb3637 k3638 hk3638 => ?_) (fun hb3637 k3639 hk3639 => ?_)
    · have hX3640 := hX3633.trans (if_pos hb3637)
      exact tJ125_60 (f := f) (by omega) gx1 gx2 hR (fun y0 y1 y2 y3 m' n' e' h0 hR' k' hk' => Hn y0 y1 y2 y3 m' n' (hX3640.trans e') h0 hR' k' (by omega)) (fun y0 y1 y2 y3 m' n' e' h0 hR' k' hk' => He y0 y1 y2 y3 m' n' (hX3640.trans e') h0 hR' k' (by omega)) (fun m' e' => Hr m' (hX3640.trans e'))
    · have hX3693 := hX3633.trans (if_neg hb3637)
      refine p_aload 19 c125_18 rfl rfl ?_
      refine p_getR 22 c125_19 rfl kf376_26 ?_
      refine p_iload 23 c125_22 rfl rfl ?_
      refine p_iaX 24 (m 389 x2.toNat) c125_23 rfl ka389 gx2 rfl (fun hx3694 => ?_)
      refine p_iconst 26 c125_24 rfl ?_
      refine p_icmp 60 29 c125_26 rfl rfl ((yc_ge (hR.rg _ _) (rgD rfl)).trans Int.not_lt.symm) (fun hb3695 k3696 hk3696 => ?_) (fun hb3695 k3697 hk3697 => ?_)
      · have hX3698 := hX3693.trans (if_neg hb3695)
        exact tJ125_60 (f := f) (by omega) gx1 gx2 hR (fun y0 y1 y2 y3 m' n' e' h0 hR' k' hk' => Hn y0 y1 y2 y3 m' n' (hX3698.trans e') h0 hR' k' (by omega)) (fun y0 y1 y2 y3 m' n' e' h0 hR' k' hk' => He y0 y1 y2 y3 m' n' (hX3698.trans e') h0 hR' k' (by omega)) (fun m' e' => Hr m' (hX3698.trans e'))
      · have hX3699 := hX3693.trans (if_pos (Classical.not_not.mp hb3695))
        refine p_aload 30 c125_29 rfl rfl ?_
        refine p_getR 33 c125_30 rfl kf376_34 ?_
        refine p_iload 34 c125_33 rfl rfl ?_
        refine p_iaX 35 (m 397 x1.toNat) c125_34 rfl ka397 gx1 rfl (fun hx3700 => ?_)
        refine p_if 56 38 c125_35 rfl rfl (yz_eq (hR.rg _ _)) (fun hb3701 k3702 hk3702 => ?_) (fun hb3701 k3703 hk3703 => ?_)
        · have hX3704 := hX3699.trans (if_pos hb3701)
          exact tJ125_56 (f := f) (by omega) gx1 gx2 hR (fun y0 y1 y2 y3 m' n' e' h0 hR' k' hk' => Hn y0 y1 y2 y3 m' n' (hX3704.trans e') h0 hR' k' (by omega)) (fun y0 y1 y2 y3 m' n' e' h0 hR' k' hk' => He y0 y1 y2 y3 m' n' (hX3704.trans e') h0 hR' k' (by omega)) (fun m' e' => Hr m' (hX3704.trans e'))
        · have hX3705 := hX3699.trans (if_neg hb3701)
          refine p_aload 39 c125_38 rfl rfl ?_
          refine p_getR 42 c125_39 rfl kf376_13 ?_
          refine p_aload 43 c125_42 rfl rfl ?_
          refine p_getX 46 (m 376 14) c125_43 rfl kf376_14 rfl ?_
          refine p_iconst 47 c125_46 rfl ?_
          refine p_iadd 48 c125_47 rfl ?_
          refine p_iaX 49 (m 380 (wr ((m 376 14) + 2)).toNat) c125_48 rfl ka380 (rg_wr _) rfl (fun hx3706 => ?_)
          refine p_aload 50 c125_49 rfl rfl ?_
          refine p_getX 53 (m 376 4) c125_50 rfl kf376_4 rfl ?_
          refine p_icmp 60 56 c125_53 rfl rfl (yc_eq (hR.rg _ _) (hR.rg _ _)) (fun hb3707 k3708 hk3708 => ?_) (fun hb3707 k3709 hk3709 => ?_)
          · have hX3710 := hX3705.trans (if_pos hb3707)
            exact tJ125_60 (f := f) (by omega) gx1 gx2 hR (fun y0 y1 y2 y3 m' n' e' h0 hR' k' hk' => Hn y0 y1 y2 y3 m' n' (hX3710.trans e') h0 hR' k' (by omega)) (fun y0 y1 y2 y3 m' n' e' h0 hR' k' hk' => He y0 y1 y2 y3 m' n' (hX3710.trans e') h0 hR' k' (by omega)) (fun m' e' => Hr m' (hX3710.trans e'))
          · have hX3711 := hX3705.trans (if_neg hb3707)
            exact tJ125_56 (f := f) (by omega) gx1 gx2 hR (fun y0 y1 y2 y3 m' n' e' h0 hR' k' hk' => Hn y0 y1 y2 y3 m' n' (hX3711.trans e') h0 hR' k' (by omega)) (fun y0 y1 y2 y3 m' n' e' h0 hR' k' hk' => He y0 y1 y2 y3 m' n' (hX3711.trans e') h0 hR' k' (by omega)) (fun m' e' => Hr m' (hX3711.trans e'))
def F125 (f : Nat) (x1 : Int) (m : yM) : Option yM := (bL (yloop (fun (l : Int) ml => B125_7 f x1 (F96 m) l ml) f 1 m) (fun l3712 m3718 => (some m3718)) (fun _ mr => some mr))
set_option maxRecDepth 100000 in
theorem d125 {L : Nat} {xs : Nat → Int32} {k d n : Nat} {c : yS3} {f : Nat} {x1 : Int} {m : yM} (hk : k ≤ f) (gx1 : rg x1) (hR : RM c m) : PC (gZ L xs) k d 125 [.ref 376, yI x1] m n (qV c (F125 f x1 m)) := by
  have hX : F125 f x1 m = F125 f x1 m := rfl
  have Hr : ∀ m', F125 f x1 m = some m' → RM c m' → ∀ n' : Nat, (qV c (F125 f x1 m)) (.inl none) m' n' := fun m' e h n' => ⟨rfl, h, e⟩
  refine PC.mk [some (.ref 376), some (yI x1), none, none, none, none, none] kn125 rfl ?_
  refine p_aload 1 c125_0 rfl rfl ?_
  refine p_cX 4 [.ref 376] [] c125_1 rfl rfl rfl (fun k' hk' d' => d96 hR) (fun hg3628 n3627 k3626 hk3626 => ?_)
  refine p_istore 5 c125_4 rfl rfl ?_
  refine p_iconst 6 c125_5 rfl ?_
  refine p_istore 7 c125_6 rfl rfl ?_
  refine PW.loop (K := k3626) (pce := 133) (fun (l : Int) ml => B125_7 f x1 (F96 m) l ml) (fun (l : Int) j => [some (.ref 376), some (yI x1), some (yI (F96 m)), some (yI l), j 4, j 5, j 6]) (fun (l : Int) => rg l) (RM c) (fun (r' : Unit) m' => RM c m' → ∀ n' : Nat, (qV c (F125 f x1 m)) (.inl none) m' n') (fun k' hk' l j m' n' hl hI Hn' He' Hr' => tB125_7 (f := f) (by omega) gx1 hg3628 hl hI (fun y0 y1 y2 y3 m2 n2 e h0 hR2 => Hn' y0 (fun q => ([none, none, none, none, y1, y2, y3] : List (Option Value)).getD q none) m2 n2 e h0 hR2) (fun y0 y1 y2 y3 m2 n2 e h0 hR2 => He' y0 (fun q => ([none, none, none, none, y1, y2, y3] : List (Option Value)).getD q none) m2 n2 e h0 hR2) (fun m2 e => Hr' () m2 e)) f k3626 (by omega) (Nat.le_refl _) 1 (fun q => ([some (.ref 376), some (yI x1), some (yI (F96 m)), some (yI 1), none, none, none] : xL).getD q none) _ _ (rgD rfl) hR (fun l3712 j3715 m3718 n3717 e3714 hl3713 hR3719 k3716 hk3716 => ?_) (fun r' m' e' => ?_)
  · have hX3720 := hX.trans (bL_l e3714)
    exact p_return c125_133 (Hr _ hX3720 hR3719 _)
  · exact Hr m' (hX.trans (bL_r e'))
def J123_58 (f : Nat) (x1 : Int) (x3 : Int) (x4 : Int) (x5 : Int) (x6 : Int) : Option (Int ⊕ (Int ⊕ Int)) := (some (.inl (wr (x6 + 1))))
set_option maxRecDepth 100000 in
theorem tJ123_58 {L : Nat} {xs : Nat → Int32} {Q : xO → yM → Nat → Prop} {k d n : Nat} {c : yS3} {f : Nat} {x1 : Int} {x3 : Int} {x4 : Int} {x5 : Int} {x6 : Int} {m : yM} {j2 : Option Value} (hk : k ≤ f) (gx1 : rg x1) (gx3 : rg x3) (gx4 : rg x4) (gx5 : rg x5) (gx6 : rg x6) (hR : RM c m) (Hn : ∀ (y0 : Int) (z0 : Option Value) (n' : Nat), J123_58 f x1 x3 x4 x5 x6 = some (.inl y0) → rg y0 → ∀ k', k' < k → PW (gZ L xs) k' 123 d 11 [some (.ref 376), some (yI x1), z0, some (yI x3), some (yI x4), some (yI x5), some (yI y0)] [] m n' Q) (He : ∀ (y0 : Int) (z0 : Option Value) (n' : Nat), J123_58 f x1 x3 x4 x5 x6 = some (.inr (.inl y0)) → rg y0 → ∀ k', k' ≤ k → PW (gZ L xs) k' 123 d 64 [some (.ref 376), some (yI x1), z0, some (yI x3), some (yI x4), some (yI x5), some (yI y0)] [] m n' Q) (Hr : ∀ r, J123_58 f x1 x3 x4 x5 x6 = some (.inr (.inr r)) → rg r → ∀ n', Q (.inl (some (yI r))) m n') : PW (gZ L xs) k 123 d 58 [some (.ref 376), some (yI x1), j2, some (yI x3), some (yI x4), some (yI x5), some (yI x6)] [] m n Q := by
  have hX : J123_58 f x1 x3 x4 x5 x6 = J123_58 f x1 x3 x4 x5 x6 := rfl
  refine p_iinc 61 c123_58 rfl rfl rfl ?_
  refine p_gotoD 11 c123_61 rfl (fun k3760 hk3760 => ?_)
  exact Hn _ _ _ hX (rg_wr _) _ (by omega)
def B123_11 (f : Nat) (x1 : Int) (x3 : Int) (x4 : Int) (x5 : Int) (x6 : Int) (m : yM) : Option (Int ⊕ (Int ⊕ Int)) := (if x6 < m 384 x1.toNat then (if m 396 (wr ((wr (10 * x1)) + x6)).toNat = x5 then (if m 395 (wr ((wr (10 * x1)) + x6)).toNat = x3 then (some (.inr (.inr x6))) else (J123_58 f x1 x3 x4 x5 x6)) else (J123_58 f x1 x3 x4 x5 x6)) else (some (.inr (.inl x6))))
set_option maxRecDepth 100000 in
theorem tB123_11 {L : Nat} {xs : Nat → Int32} {Q : xO → yM → Nat → Prop} {k d n : Nat} {c : yS3} {f : Nat} {x1 : Int} {x3 : Int} {x4 : Int} {x5 : Int} {x6 : Int} {m : yM} {j2 : Option Value} (hk : k ≤ f) (gx1 : rg x1) (gx3 : rg x3) (gx4 : rg x4) (gx5 : rg x5) (gx6 : rg x6) (hR : RM c m) (Hn : ∀ (y0 : Int) (z0 : Option Value) (n' : Nat), B123_11 f x1 x3 x4 x5 x6 m = some (.inl y0) → rg y0 → ∀ k', k' < k → PW (gZ L xs) k' 123 d 11 [some (.ref 376), some (yI x1), z0, some (yI x3), some (yI x4), some (yI x5), some (yI y0)] [] m n' Q) (He : ∀ (y0 : Int) (z0 : Option Value) (n' : Nat), B123_11 f x1 x3 x4 x5 x6 m = some (.inr (.inl y0)) → rg y0 → ∀ k', k' ≤ k → PW (gZ L xs) k' 123 d 64 [some (.ref 376), some (yI x1), z0, some (yI x3), some (yI x4), some (yI x5), some (yI y0)] [] m n' Q) (Hr : ∀ r, B123_11 f x1 x3 x4 x5 x6 m = some (.inr (.inr r)) → rg r → ∀ n', Q (.inl (some (yI r))) m n') : PW (gZ L xs) k 123 d 11 [some (.ref 376), some (yI x1), j2, some (yI x3), some (yI x4), some (yI x5), some (yI x6)] [] m n Q := by
  have hX : B123_11 f x1 x3 x4 x5 x6 m = B123_11 f x1 x3 x4 x5 x6 m := rfl
  refine p_iload 13 c123_11 rfl rfl ?_
  refine p_aload 14 c123_13 rfl rfl ?_
  refine p_getR 17 c123_14 rfl kf376_21 ?_
  refine p_iload 18 c123_17 rfl rfl ?_
  refine p_iaX 19 (m 384 x1.toNat) c123_18 rfl ka384 gx1 rfl (fun hx3749 => ?_)
  refine p_icmp 64 22 c123_19 rfl rfl ((yc_ge gx6 (hR.rg _ _)).trans Int.not_lt.symm) (fun hb3750 k3751 hk3751 => ?_) (fun hb3750 k3752 hk3752 => ?_)
  · have hX3753 := hX.trans (if_neg hb3750)
    exact He _ _ _ hX3753 gx6 _ (by omega)
  · have hX3754 := hX.trans (if_pos (Classical.not_not.mp hb3750))
    refine p_aload 23 c123_22 rfl rfl ?_
    refine p_getR 26 c123_23 rfl kf376_33 ?_
    refine p_iconst 28 c123_26 rfl ?_
    refine p_iload 29 c123_28 rfl rfl ?_
    refine p_imul 30 c123_29 rfl ?_
    refine p_iload 32 c123_30 rfl rfl ?_
    refine p_iadd 33 c123_32 rfl ?_
    refine p_iaX 34 (m 396 (wr ((wr (10 * x1)) + x6)).toNat) c123_33 rfl ka396 (rg_wr _) rfl (fun hx3755 => ?_)
    refine p_iload 36 c123_34 rfl rfl ?_
    refine p_icmp 58 39 c123_36 rfl rfl (yc_ne (hR.rg _ _) gx5) (fun hb3756 k3757 hk3757 => ?_) (fun hb3756 k3758 hk3758 => ?_)
    · have hX3759 := hX3754.trans (if_neg hb3756)
      exact tJ123_58 (f := f) (by omega) gx1 gx3 gx4 gx5 gx6 hR (fun y0 y1 n' e' h0 k' hk' => Hn y0 y1 n' (hX3759.trans e') h0 k' (by omega)) (fun y0 y1 n' e' h0 k' hk' => He y0 y1 n' (hX3759.trans e') h0 k' (by omega)) (fun r' e' => Hr r' (hX3759.trans e'))
    · have hX3761 := hX3754.trans (if_pos (Classical.not_not.mp hb3756))
      refine p_aload 40 c123_39 rfl rfl ?_
      refine p_getR 43 c123_40 rfl kf376_32 ?_
      refine p_iconst 45 c123_43 rfl ?_
      refine p_iload 46 c123_45 rfl rfl ?_
      refine p_imul 47 c123_46 rfl ?_
      refine p_iload 49 c123_47 rfl rfl ?_
      refine p_iadd 50 c123_49 rfl ?_
      refine p_iaX 51 (m 395 (wr ((wr (10 * x1)) + x6)).toNat) c123_50 rfl ka395 (rg_wr _) rfl (fun hx3762 => ?_)
      refine p_iload 52 c123_51 rfl rfl ?_
      refine p_icmp 58 55 c123_52 rfl rfl (yc_ne (hR.rg _ _) gx3) (fun hb3763 k3764 hk3764 => ?_) (fun hb3763 k3765 hk3765 => ?_)
      · have hX3766 := hX3761.trans (if_neg hb3763)
        exact tJ123_58 (f := f) (by omega) gx1 gx3 gx4 gx5 gx6 hR (fun y0 y1 n' e' h0 k' hk' => Hn y0 y1 n' (hX3766.trans e') h0 k' (by omega)) (fun y0 y1 n' e' h0 k' hk' => He y0 y1 n' (hX3766.trans e') h0 k' (by omega)) (fun r' e' => Hr r' (hX3766.trans e'))
      · have hX3767 := hX3761.trans (if_pos (Classical.not_not.mp hb3763))
        refine p_iload 57 c123_55 rfl rfl ?_
        exact p_ireturn c123_57 (Hr _ hX3767 gx6 _)
def J123_85 (f : Nat) (x1 : Int) (x3 : Int) (x4 : Int) (xs0 : Int) : Option (Int ⊕ (Int ⊕ Int)) := (some (.inl xs0))
set_option maxRecDepth 100000 in
theorem tJ123_85 {L : Nat} {xs : Nat → Int32} {Q : xO → yM → Nat → Prop} {k d n : Nat} {c : yS3} {f : Nat} {x1 : Int} {x3 : Int} {x4 : Int} {xs0 : Int} {m : yM} {j2 j5 j6 : Option Value} (hk : k ≤ f) (gx1 : rg x1) (gx3 : rg x3) (gx4 : rg x4) (gxs0 : rg xs0) (hR : RM c m) (Hn : ∀ (y0 : Int) (z0 z1 : Option Value) (n' : Nat), J123_85 f x1 x3 x4 xs0 = some (.inl y0) → rg y0 → ∀ k', k' < k → PW (gZ L xs) k' 123 d 3 [some (.ref 376), some (yI x1), z0, some (yI x3), some (yI x4), some (yI y0), z1] [] m n' Q) (He : ∀ (y0 : Int) (z0 z1 : Option Value) (n' : Nat), J123_85 f x1 x3 x4 xs0 = some (.inr (.inl y0)) → rg y0 → ∀ k', k' ≤ k → PW (gZ L xs) k' 123 d 90 [some (.ref 376), some (yI x1), z0, some (yI x3), some (yI x4), some (yI y0), z1] [] m n' Q) (Hr : ∀ r, J123_85 f x1 x3 x4 xs0 = some (.inr (.inr r)) → rg r → ∀ n', Q (.inl (some (yI r))) m n') : PW (gZ L xs) k 123 d 85 [some (.ref 376), some (yI x1), j2, some (yI x3), some (yI x4), j5, j6] [yI xs0] m n Q := by
  have hX : J123_85 f x1 x3 x4 xs0 = J123_85 f x1 x3 x4 xs0 := rfl
  refine p_istore 87 c123_85 rfl rfl ?_
  refine p_gotoD 3 c123_87 rfl (fun k3780 hk3780 => ?_)
  exact Hn _ _ _ _ hX gxs0 _ (by omega)
def B123_3 (f : Nat) (x1 : Int) (x3 : Int) (x4 : Int) (x5 : Int) (m : yM) : Option (Int ⊕ (Int ⊕ Int)) := (if x5 < 0 then (some (.inr (.inl x5))) else (bQ (ploop (fun (l : Int) => B123_11 f x1 x3 x4 x5 l m) f 0) (fun l3768 => (if x4 = 0 then (J123_85 f x1 x3 x4 (m 392 (wr ((wr (6 * x1)) + x5)).toNat)) else (J123_85 f x1 x3 x4 ((-1))))) (fun r => some (.inr (.inr r)))))
set_option maxRecDepth 100000 in
theorem tB123_3 {L : Nat} {xs : Nat → Int32} {Q : xO → yM → Nat → Prop} {k d n : Nat} {c : yS3} {f : Nat} {x1 : Int} {x3 : Int} {x4 : Int} {x5 : Int} {m : yM} {j2 j6 : Option Value} (hk : k ≤ f) (gx1 : rg x1) (gx3 : rg x3) (gx4 : rg x4) (gx5 : rg x5) (hR : RM c m) (Hn : ∀ (y0 : Int) (z0 z1 : Option Value) (n' : Nat), B123_3 f x1 x3 x4 x5 m = some (.inl y0) → rg y0 → ∀ k', k' < k → PW (gZ L xs) k' 123 d 3 [some (.ref 376), some (yI x1), z0, some (yI x3), some (yI x4), some (yI y0), z1] [] m n' Q) (He : ∀ (y0 : Int) (z0 z1 : Option Value) (n' : Nat), B123_3 f x1 x3 x4 x5 m = some (.inr (.inl y0)) → rg y0 → ∀ k', k' ≤ k → PW (gZ L xs) k' 123 d 90 [some (.ref 376), some (yI x1), z0, some (yI x3), some (yI x4), some (yI y0), z1] [] m n' Q) (Hr : ∀ r, B123_3 f x1 x3 x4 x5 m = some (.inr (.inr r)) → rg r → ∀ n', Q (.inl (some (yI r))) m n') : PW (gZ L xs) k 123 d 3 [some (.ref 376), some (yI x1), j2, some (yI x3), some (yI x4), some (yI x5), j6] [] m n Q := by
  have hX : B123_3 f x1 x3 x4 x5 m = B123_3 f x1 x3 x4 x5 m := rfl
  refine p_iload 5 c123_3 rfl rfl ?_
  refine p_if 90 8 c123_5 rfl rfl (yz_lt gx5) (fun hb3744 k3745 hk3745 => ?_) (fun hb3744 k3746 hk3746 => ?_)
  · have hX3747 := hX.trans (if_pos hb3744)
    exact He _ _ _ _ hX3747 gx5 _ (by omega)
  · have hX3748 := hX.trans (if_neg hb3744)
    refine p_iconst 9 c123_8 rfl ?_
    refine p_istore 11 c123_9 rfl rfl ?_
    refine PW.ploop (K := k3746) (pce := 64) (fun (l : Int) => B123_11 f x1 x3 x4 x5 l m) (fun (l : Int) j => [some (.ref 376), some (yI x1), j 2, some (yI x3), some (yI x4), some (yI x5), some (yI l)]) (fun (l : Int) => rg l) (fun r' => rg r' → ∀ n' : Nat, Q (.inl (some (yI r'))) m n') (fun k' hk' l j n' hl Hn' He' Hr' => tB123_11 (f := f) (by omega) gx1 gx3 gx4 gx5 hl hR (fun y0 y1 n2 e h0 => Hn' y0 (fun q => ([none, none, y1, none, none, none, none] : List (Option Value)).getD q none) n2 e h0) (fun y0 y1 n2 e h0 => He' y0 (fun q => ([none, none, y1, none, none, none, none] : List (Option Value)).getD q none) n2 e h0) Hr') f k3746 (by omega) (Nat.le_refl _) 0 (fun q => ([some (.ref 376), some (yI x1), j2, some (yI x3), some (yI x4), some (yI x5), some (yI 0)] : xL).getD q none) _ (rgD rfl) (fun l3768 j3771 n3773 e3770 hl3769 k3772 hk3772 => ?_) (fun r' e' => ?_)
    · have hX3774 := hX3748.trans (bQ_l e3770)
      refine p_iload 66 c123_64 rfl rfl ?_
      refine p_if 73 69 c123_66 rfl rfl (yz_eq gx4) (fun hb3775 k3776 hk3776 => ?_) (fun hb3775 k3777 hk3777 => ?_)
      · have hX3778 := hX3774.trans (if_pos hb3775)
        refine p_aload 74 c123_73 rfl rfl ?_
        refine p_getR 77 c123_74 rfl kf376_29 ?_
        refine p_iconst 79 c123_77 rfl ?_
        refine p_iload 80 c123_79 rfl rfl ?_
        refine p_imul 81 c123_80 rfl ?_
        refine p_iload 83 c123_81 rfl rfl ?_
        refine p_iadd 84 c123_83 rfl ?_
        refine p_iaX 85 (m 392 (wr ((wr (6 * x1)) + x5)).toNat) c123_84 rfl ka392 (rg_wr _) rfl (fun hx3779 => ?_)
        exact tJ123_85 (f := f) (by omega) gx1 gx3 gx4 (hR.rg _ _) hR (fun y0 y1 y2 n' e' h0 k' hk' => Hn y0 y1 y2 n' (hX3778.trans e') h0 k' (by omega)) (fun y0 y1 y2 n' e' h0 k' hk' => He y0 y1 y2 n' (hX3778.trans e') h0 k' (by omega)) (fun r' e' => Hr r' (hX3778.trans e'))
      · have hX3781 := hX3774.trans (if_neg hb3775)
        refine p_iconst 70 c123_69 rfl ?_
        refine p_goto 85 c123_70 rfl ?_
        exact tJ123_85 (f := f) (by omega) gx1 gx3 gx4 (rgD rfl) hR (fun y0 y1 y2 n' e' h0 k' hk' => Hn y0 y1 y2 n' (hX3781.trans e') h0 k' (by omega)) (fun y0 y1 y2 n' e' h0 k' hk' => He y0 y1 y2 n' (hX3781.trans e') h0 k' (by omega)) (fun r' e' => Hr r' (hX3781.trans e'))
    · exact Hr r' (hX3748.trans (bQ_r e'))
def F123 (f : Nat) (x1 : Int) (x2 : Int) (x3 : Int) (x4 : Int) (m : yM) : Option Int := (bQ (ploop (fun (l : Int) => B123_3 f x1 x3 x4 l m) f x2) (fun l3782 => (some ((-1)))) (fun r => some r))
set_option maxRecDepth 100000 in
theorem d123 {L : Nat} {xs : Nat → Int32} {k d n : Nat} {c : yS3} {f : Nat} {x1 : Int} {x2 : Int} {x3 : Int} {x4 : Int} {m : yM} (hk : k ≤ f) (gx1 : rg x1) (gx2 : rg x2) (gx3 : rg x3) (gx4 : rg x4) (hR : RM c m) : PC (gZ L xs) k d 123 [.ref 376, yI x1, yI x2, yI x3, yI x4] m n (qO m (F123 f x1 x2 x3 x4 m)) := by
  have hX : F123 f x1 x2 x3 x4 m = F123 f x1 x2 x3 x4 m := rfl
  have Hr : ∀ r, F123 f x1 x2 x3 x4 m = some r → rg r → ∀ n' : Nat, (qO m (F123 f x1 x2 x3 x4 m)) (.inl (some (yI r))) m n' := fun r e h n' => ⟨r, rfl, h, rfl, e⟩
  refine PC.mk [some (.ref 376), some (yI x1), some (yI x2), some (yI x3), some (yI x4), none, none] kn123 rfl ?_
  refine p_iload 1 c123_0 rfl rfl ?_
  refine p_istore 3 c123_1 rfl rfl ?_
  refine PW.ploop (K := k) (pce := 90) (fun (l : Int) => B123_3 f x1 x3 x4 l m) (fun (l : Int) j => [some (.ref 376), some (yI x1), j 2, some (yI x3), some (yI x4), some (yI l), j 6]) (fun (l : Int) => rg l) (fun r' => rg r' → ∀ n' : Nat, (qO m (F123 f x1 x2 x3 x4 m)) (.inl (some (yI r'))) m n') (fun k' hk' l j n' hl Hn' He' Hr' => tB123_3 (f := f) (by omega) gx1 gx3 gx4 hl hR (fun y0 y1 y2 n2 e h0 => Hn' y0 (fun q => ([none, none, y1, none, none, none, y2] : List (Option Value)).getD q none) n2 e h0) (fun y0 y1 y2 n2 e h0 => He' y0 (fun q => ([none, none, y1, none, none, none, y2] : List (Option Value)).getD q none) n2 e h0) Hr') f k (by omega) (Nat.le_refl _) x2 (fun q => ([some (.ref 376), some (yI x1), some (yI x2), some (yI x3), some (yI x4), some (yI x2), none] : xL).getD q none) _ gx2 (fun l3782 j3785 n3787 e3784 hl3783 k3786 hk3786 => ?_) (fun r' e' => ?_)
  · have hX3788 := hX.trans (bQ_l e3784)
    refine p_iconst 91 c123_90 rfl ?_
    exact p_ireturn c123_91 (Hr _ hX3788 (rgD rfl) _)
  · exact Hr r' (hX.trans (bQ_r e'))
def J126_193 (f : Nat) (m : yM) : Option yM := (if m 376 8 < 0 then (bI (F118 f 41 m) (fun r3601 m3603 => (if r3601 = 0 then (some m3603) else (bI (F118 f 123 m3603) (fun r3613 m3615 => (if r3613 = 0 then (some m3615) else (some m3615))))))) else (some m))
set_option maxRecDepth 100000 in
theorem tJ126_193 {L : Nat} {xs : Nat → Int32} {Q : xO → yM → Nat → Prop} {k d n : Nat} {c : yS3} {f : Nat} {m : yM} {j1 j2 j3 j4 j5 j6 : Option Value} (hk : k ≤ f) (hR : RM c m) (Hr : ∀ m', J126_193 f m = some m' → RM c m' → ∀ n', Q (.inl none) m' n') : PW (gZ L xs) k 126 d 193 [some (.ref 376), j1, j2, j3, j4, j5, j6] [] m n Q := by
  have hX : J126_193 f m = J126_193 f m := rfl
  refine p_aload 194 c126_193 rfl rfl ?_
  refine p_getX 197 (m 376 8) c126_194 rfl kf376_8 rfl ?_
  refine p_if 209 200 c126_197 rfl rfl ((yz_ge (hR.rg _ _)).trans Int.not_lt.symm) (fun hb3592 k3593 hk3593 => ?_) (fun hb3592 k3594 hk3594 => ?_)
  · have hX3595 := hX.trans (if_neg hb3592)
    exact p_return c126_209 (Hr _ hX3595 hR _)
  · have hX3596 := hX.trans (if_pos (Classical.not_not.mp hb3592))
    refine p_aload 201 c126_200 rfl rfl ?_
    refine p_iconst 203 c126_201 rfl ?_
    refine p_cS 206 [.ref 376, yI 41] [] c126_203 rfl rfl rfl (fun k' hk' d' => d118 (f := f) (by omega) (rgD rfl) hR) (fun r3601 m3603 hF3599 hg3600 hR3604 n3598 k3597 hk3597 => ?_)
    have hX3602 := hX3596.trans (bI_s hF3599)
    refine p_if 210 209 c126_206 rfl rfl (yz_ne hg3600) (fun hb3605 k3606 hk3606 => ?_) (fun hb3605 k3607 hk3607 => ?_)
    · have hX3608 := hX3602.trans (if_neg hb3605)
      refine p_aload 211 c126_210 rfl rfl ?_
      refine p_iconst 213 c126_211 rfl ?_
      refine p_cS 216 [.ref 376, yI 123] [] c126_213 rfl rfl rfl (fun k' hk' d' => d118 (f := f) (by omega) (rgD rfl) hR3604) (fun r3613 m3615 hF3611 hg3612 hR3616 n3610 k3609 hk3609 => ?_)
      have hX3614 := hX3608.trans (bI_s hF3611)
      refine p_if 220 219 c126_216 rfl rfl (yz_ne hg3612) (fun hb3617 k3618 hk3618 => ?_) (fun hb3617 k3619 hk3619 => ?_)
      · have hX3620 := hX3614.trans (if_neg hb3617)
        exact p_return c126_220 (Hr _ hX3620 hR3616 _)
      · have hX3621 := hX3614.trans (if_pos (Classical.not_not.mp hb3617))
        exact p_return c126_219 (Hr _ hX3621 hR3616 _)
    · have hX3622 := hX3602.trans (if_pos (Classical.not_not.mp hb3605))
      exact p_return c126_209 (Hr _ hX3622 hR3604 _)
def J126_66 (f : Nat) (x1 : Int) (x2 : Int) (xs0 : Int) (m : yM) : Option yM := (bI (F105 f xs0 m) (fun r3523 m3525 => (if r3523 = 0 then (some m3525) else (bI (F124 f ((-1)) (yup (yup (yup (yup m3525 395 (wr ((wr (10 * x1)) + (m3525 384 x1.toNat))).toNat (m 376 4)) 396 (wr ((wr (10 * x1)) + (m3525 384 x1.toNat))).toNat x2) 397 (wr ((wr (10 * x1)) + (m3525 384 x1.toNat))).toNat 0) 399 (wr ((wr (10 * x1)) + (m3525 384 x1.toNat))).toNat (m3525 390 x1.toNat))) (fun r3555 m3557 => (bI (F124 f ((-1)) (yup (yup m3557 376 14 r3555) 398 (wr ((wr (10 * x1)) + (m3525 384 x1.toNat))).toNat r3555)) (fun r3566 m3568 => (bI (F118 f 40 (yup m3568 384 x1.toNat (wr ((m3568 384 x1.toNat) + 1)))) (fun r3577 m3579 => (if r3577 = 0 then (some m3579) else (if F115 m3579 = 0 then (J126_193 f m3579) else (bU (F125 f (wr ((wr (10 * x1)) + (m3525 384 x1.toNat))) m3579) (fun m3725 => (J126_193 f m3725))))))))))))))
set_option maxRecDepth 100000 in
theorem tJ126_66 {L : Nat} {xs : Nat → Int32} {Q : xO → yM → Nat → Prop} {k d n : Nat} {c : yS3} {f : Nat} {x1 : Int} {x2 : Int} {xs0 : Int} {m : yM} {j3 j4 j5 j6 : Option Value} (hk : k ≤ f) (gx1 : rg x1) (gx2 : rg x2) (gxs0 : rg xs0) (hR : RM c m) (Hr : ∀ m', J126_66 f x1 x2 xs0 m = some m' → RM c m' → ∀ n', Q (.inl none) m' n') : PW (gZ L xs) k 126 d 66 [some (.ref 376), some (yI x1), some (yI x2), j3, j4, j5, j6] [yI xs0] m n Q := by
  have hX : J126_66 f x1 x2 xs0 m = J126_66 f x1 x2 xs0 m := rfl
  refine p_istore 67 c126_66 rfl rfl ?_
  refine p_aload 68 c126_67 rfl rfl ?_
  refine p_getX 71 (m 376 4) c126_68 rfl kf376_4 rfl ?_
  refine p_istore 73 c126_71 rfl rfl ?_
  refine p_aload 74 c126_73 rfl rfl ?_
  refine p_iload 75 c126_74 rfl rfl ?_
  refine p_cS 78 [.ref 376, yI xs0] [] c126_75 rfl rfl rfl (fun k' hk' d' => d105 (f := f) (by omega) gxs0 hR) (fun r3523 m3525 hF3521 hg3522 hR3526 n3520 k3519 hk3519 => ?_)
  have hX3524 := hX.trans (bI_s hF3521)
  refine p_if 82 81 c126_78 rfl rfl (yz_ne hg3522) (fun hb3527 k3528 hk3528 => ?_) (fun hb3527 k3529 hk3529 => ?_)
  · have hX3530 := hX3524.trans (if_neg hb3527)
    refine p_iconst 84 c126_82 rfl ?_
    refine p_iload 85 c126_84 rfl rfl ?_
    refine p_imul 86 c126_85 rfl ?_
    refine p_aload 87 c126_86 rfl rfl ?_
    refine p_getR 90 c126_87 rfl kf376_21 ?_
    refine p_iload 91 c126_90 rfl rfl ?_
    refine p_iaX 92 (m3525 384 x1.toNat) c126_91 rfl ka384 gx1 rfl (fun hx3531 => ?_)
    refine p_iadd 93 c126_92 rfl ?_
    refine p_istore 95 c126_93 rfl rfl ?_
    refine p_aload 96 c126_95 rfl rfl ?_
    refine p_getR 99 c126_96 rfl kf376_32 ?_
    refine p_iload 101 c126_99 rfl rfl ?_
    refine p_iload 103 c126_101 rfl rfl ?_
    refine p_iaS 104 c126_103 rfl ka395 (rg_wr _) (m 376 4) (nar0 (hR.rg _ _)) (fun hx3532 => ?_)
    have hR3533 := hR3526.up 395 (wr ((wr (10 * x1)) + (m3525 384 x1.toNat))).toNat (v := m 376 4) (nselA (by decide)) (hR.rg _ _)
    refine p_aload 105 c126_104 rfl rfl ?_
    refine p_getR 108 c126_105 rfl kf376_33 ?_
    refine p_iload 110 c126_108 rfl rfl ?_
    refine p_iload 111 c126_110 rfl rfl ?_
    refine p_iaS 112 c126_111 rfl ka396 (rg_wr _) x2 (nar0 gx2) (fun hx3534 => ?_)
    have hR3535 := hR3533.up 396 (wr ((wr (10 * x1)) + (m3525 384 x1.toNat))).toNat (v := x2) (nselA (by decide)) gx2
    refine p_aload 113 c126_112 rfl rfl ?_
    refine p_getR 116 c126_113 rfl kf376_34 ?_
    refine p_iload 118 c126_116 rfl rfl ?_
    refine p_iconst 119 c126_118 rfl ?_
    refine p_iaS 120 c126_119 rfl ka397 (rg_wr _) 0 (nar0 (rgD rfl)) (fun hx3536 => ?_)
    have hR3537 := hR3535.up 397 (wr ((wr (10 * x1)) + (m3525 384 x1.toNat))).toNat (v := 0) (nselA (by decide)) (rgD rfl)
    refine p_aload 121 c126_120 rfl rfl ?_
    refine p_getR 124 c126_121 rfl kf376_36 ?_
    refine p_iload 126 c126_124 rfl rfl ?_
    refine p_aload 127 c126_126 rfl rfl ?_
    refine p_getR 130 c126_127 rfl kf376_27 ?_
    refine p_iload 131 c126_130 rfl rfl ?_
    refine p_iaX 132 (m3525 390 x1.toNat) c126_131 rfl ka390 gx1 ((yup_na (by decide)).trans ((yup_na (by decide)).trans (yup_na (by decide)))) (fun hx3538 => ?_)
    refine p_iaS 133 c126_132 rfl ka399 (rg_wr _) (m3525 390 x1.toNat) (nar0 (hR3526.rg _ _)) (fun hx3539 => ?_)
    have hR3540 := hR3537.up 399 (wr ((wr (10 * x1)) + (m3525 384 x1.toNat))).toNat (v := m3525 390 x1.toNat) (nselA (by decide)) (hR3526.rg _ _)
    refine p_aload 134 c126_133 rfl rfl ?_
    refine p_aload 135 c126_134 rfl rfl ?_
    refine p_iconst 136 c126_135 rfl ?_
    refine p_cS 139 [.ref 376, yI ((-1))] [.ref 376] c126_136 rfl rfl rfl (fun k' hk' d' => d124 (f := f) (by omega) (rgD rfl) hR3540) (fun r3555 m3557 hF3553 hg3554 hR3558 n3542 k3541 hk3541 => ?_)
    have hX3556 := hX3530.trans (bI_s hF3553)
    refine p_putI 142 c126_139 rfl kf376_14 ?_
    have hR3559 := hR3558.up 376 14 (v := r3555) (nselD rfl) hg3554
    refine p_aload 143 c126_142 rfl rfl ?_
    refine p_getR 146 c126_143 rfl kf376_35 ?_
    refine p_iload 148 c126_146 rfl rfl ?_
    refine p_aload 149 c126_148 rfl rfl ?_
    refine p_getX 152 r3555 c126_149 rfl kf376_14 (yup_eq _ _ _ _) ?_
    refine p_iaS 153 c126_152 rfl ka398 (rg_wr _) r3555 (nar0 hg3554) (fun hx3560 => ?_)
    have hR3561 := hR3559.up 398 (wr ((wr (10 * x1)) + (m3525 384 x1.toNat))).toNat (v := r3555) (nselA (by decide)) hg3554
    refine p_aload 154 c126_153 rfl rfl ?_
    refine p_iconst 155 c126_154 rfl ?_
    refine p_cS 158 [.ref 376, yI ((-1))] [] c126_155 rfl rfl rfl (fun k' hk' d' => d124 (f := f) (by omega) (rgD rfl) hR3561) (fun r3566 m3568 hF3564 hg3565 hR3569 n3563 k3562 hk3562 => ?_)
    have hX3567 := hX3556.trans (bI_s hF3564)
    refine p_istore 160 c126_158 rfl rfl ?_
    refine p_aload 161 c126_160 rfl rfl ?_
    refine p_getR 164 c126_161 rfl kf376_21 ?_
    refine p_iload 165 c126_164 rfl rfl ?_
    refine p_dup2 166 c126_165 rfl ⟨rfl, rfl⟩ ?_
    refine p_iaX 167 (m3568 384 x1.toNat) c126_166 rfl ka384 gx1 rfl (fun hx3570 => ?_)
    refine p_iconst 168 c126_167 rfl ?_
    refine p_iadd 169 c126_168 rfl ?_
    refine p_iaS 170 c126_169 rfl ka384 gx1 (wr ((m3568 384 x1.toNat) + 1)) (nar0 (rg_wr _)) (fun hx3571 => ?_)
    have hR3572 := hR3569.up 384 x1.toNat (v := wr ((m3568 384 x1.toNat) + 1)) (nselA (by decide)) (rg_wr _)
    refine p_aload 171 c126_170 rfl rfl ?_
    refine p_iconst 173 c126_171 rfl ?_
    refine p_cS 176 [.ref 376, yI 40] [] c126_173 rfl rfl rfl (fun k' hk' d' => d118 (f := f) (by omega) (rgD rfl) hR3572) (fun r3577 m3579 hF3575 hg3576 hR3580 n3574 k3573 hk3573 => ?_)
    have hX3578 := hX3567.trans (bI_s hF3575)
    refine p_if 180 179 c126_176 rfl rfl (yz_ne hg3576) (fun hb3581 k3582 hk3582 => ?_) (fun hb3581 k3583 hk3583 => ?_)
    · have hX3584 := hX3578.trans (if_neg hb3581)
      refine p_aload 181 c126_180 rfl rfl ?_
      refine p_cX 184 [.ref 376] [] c126_181 rfl rfl rfl (fun k' hk' d' => d115 hR3580) (fun hg3587 n3586 k3585 hk3585 => ?_)
      refine p_if 193 187 c126_184 rfl rfl (yz_eq hg3587) (fun hb3588 k3589 hk3589 => ?_) (fun hb3588 k3590 hk3590 => ?_)
      · have hX3591 := hX3584.trans (if_pos hb3588)
        exact tJ126_193 (f := f) (by omega) hR3580 (fun m' e' => Hr m' (hX3591.trans e'))
      · have hX3623 := hX3584.trans (if_neg hb3588)
        refine p_aload 188 c126_187 rfl rfl ?_
        refine p_iload 190 c126_188 rfl rfl ?_
        refine p_cV 193 [.ref 376, yI (wr ((wr (10 * x1)) + (m3525 384 x1.toNat)))] [] c126_190 rfl rfl rfl (fun k' hk' d' => d125 (f := f) (by omega) (rg_wr _) hR3580) (fun m3725 hF3721 hR3726 n3625 k3624 hk3624 => ?_)
        have hX3724 := hX3623.trans (bU_s hF3721)
        exact tJ126_193 (f := f) (by omega) hR3726 (fun m' e' => Hr m' (hX3724.trans e'))
    · have hX3727 := hX3578.trans (if_pos (Classical.not_not.mp hb3581))
      exact p_return c126_179 (Hr _ hX3727 hR3580 _)
  · have hX3728 := hX3524.trans (if_pos (Classical.not_not.mp hb3527))
    exact p_return c126_81 (Hr _ hX3728 hR3526 _)
def J126_65 (f : Nat) (x1 : Int) (x2 : Int) (m : yM) : Option yM := (J126_66 f x1 x2 0 m)
set_option maxRecDepth 100000 in
theorem tJ126_65 {L : Nat} {xs : Nat → Int32} {Q : xO → yM → Nat → Prop} {k d n : Nat} {c : yS3} {f : Nat} {x1 : Int} {x2 : Int} {m : yM} {j3 j4 j5 j6 : Option Value} (hk : k ≤ f) (gx1 : rg x1) (gx2 : rg x2) (hR : RM c m) (Hr : ∀ m', J126_65 f x1 x2 m = some m' → RM c m' → ∀ n', Q (.inl none) m' n') : PW (gZ L xs) k 126 d 65 [some (.ref 376), some (yI x1), some (yI x2), j3, j4, j5, j6] [] m n Q := by
  have hX : J126_65 f x1 x2 m = J126_65 f x1 x2 m := rfl
  refine p_iconst 66 c126_65 rfl ?_
  exact tJ126_66 (f := f) (by omega) gx1 gx2 (rgD rfl) hR (fun m' e' => Hr m' (hX.trans e'))
def F126 (f : Nat) (m : yM) : Option yM := (bU (F99 f m) (fun m3510 => (if F115 m3510 = 0 then (J126_65 f (F96 m) (wr ((m 383 (F96 m).toNat) - 1)) m3510) else (if m3510 384 (F96 m).toNat < 10 then (if m3510 389 (F96 m).toNat < 47 then (bP (F123 f (F96 m) (wr ((m 383 (F96 m).toNat) - 1)) (m3510 376 4) 1 m3510) (fun r3791 => (if r3791 < 0 then (J126_66 f (F96 m) (wr ((m 383 (F96 m).toNat) - 1)) 1 m3510) else (J126_65 f (F96 m) (wr ((m 383 (F96 m).toNat) - 1)) m3510)))) else (J126_65 f (F96 m) (wr ((m 383 (F96 m).toNat) - 1)) m3510)) else (J126_65 f (F96 m) (wr ((m 383 (F96 m).toNat) - 1)) m3510)))))
set_option maxRecDepth 100000 in
theorem d126 {L : Nat} {xs : Nat → Int32} {k d n : Nat} {c : yS3} {f : Nat} {m : yM} (hk : k ≤ f) (hR : RM c m) : PC (gZ L xs) k d 126 [.ref 376] m n (qV c (F126 f m)) := by
  have hX : F126 f m = F126 f m := rfl
  have Hr : ∀ m', F126 f m = some m' → RM c m' → ∀ n' : Nat, (qV c (F126 f m)) (.inl none) m' n' := fun m' e h n' => ⟨rfl, h, e⟩
  refine PC.mk [some (.ref 376), none, none, none, none, none, none] kn126 rfl ?_
  refine p_aload 1 c126_0 rfl rfl ?_
  refine p_cX 4 [.ref 376] [] c126_1 rfl rfl rfl (fun k' hk' d' => d96 hR) (fun hg3502 n3501 k3500 hk3500 => ?_)
  refine p_istore 5 c126_4 rfl rfl ?_
  refine p_aload 6 c126_5 rfl rfl ?_
  refine p_getR 9 c126_6 rfl kf376_20 ?_
  refine p_iload 10 c126_9 rfl rfl ?_
  refine p_iaX 11 (m 383 (F96 m).toNat) c126_10 rfl ka383 hg3502 rfl (fun hx3503 => ?_)
  refine p_iconst 12 c126_11 rfl ?_
  refine p_isub 13 c126_12 rfl ?_
  refine p_istore 14 c126_13 rfl rfl ?_
  refine p_aload 15 c126_14 rfl rfl ?_
  refine p_cV 18 [.ref 376] [] c126_15 rfl rfl rfl (fun k' hk' d' => d99 (f := f) (by omega) hR) (fun m3510 hF3506 hR3511 n3505 k3504 hk3504 => ?_)
  have hX3509 := hX.trans (bU_s hF3506)
  refine p_aload 19 c126_18 rfl rfl ?_
  refine p_cX 22 [.ref 376] [] c126_19 rfl rfl rfl (fun k' hk' d' => d115 hR3511) (fun hg3514 n3513 k3512 hk3512 => ?_)
  refine p_if 65 25 c126_22 rfl rfl (yz_eq hg3514) (fun hb3515 k3516 hk3516 => ?_) (fun hb3515 k3517 hk3517 => ?_)
  · have hX3518 := hX3509.trans (if_pos hb3515)
    exact tJ126_65 (f := f) (by omega) hg3502 (rg_wr _) hR3511 (fun m' e' => Hr m' (hX3518.trans e'))
  · have hX3729 := hX3509.trans (if_neg hb3515)
    refine p_aload 26 c126_25 rfl rfl ?_
    refine p_getR 29 c126_26 rfl kf376_21 ?_
    refine p_iload 30 c126_29 rfl rfl ?_
    refine p_iaX 31 (m3510 384 (F96 m).toNat) c126_30 rfl ka384 hg3502 rfl (fun hx3730 => ?_)
    refine p_iconst 33 c126_31 rfl ?_
    refine p_icmp 65 36 c126_33 rfl rfl ((yc_ge (hR3511.rg _ _) (rgD rfl)).trans Int.not_lt.symm) (fun hb3731 k3732 hk3732 => ?_) (fun hb3731 k3733 hk3733 => ?_)
    · have hX3734 := hX3729.trans (if_neg hb3731)
      exact tJ126_65 (f := f) (by omega) hg3502 (rg_wr _) hR3511 (fun m' e' => Hr m' (hX3734.trans e'))
    · have hX3735 := hX3729.trans (if_pos (Classical.not_not.mp hb3731))
      refine p_aload 37 c126_36 rfl rfl ?_
      refine p_getR 40 c126_37 rfl kf376_26 ?_
      refine p_iload 41 c126_40 rfl rfl ?_
      refine p_iaX 42 (m3510 389 (F96 m).toNat) c126_41 rfl ka389 hg3502 rfl (fun hx3736 => ?_)
      refine p_iconst 44 c126_42 rfl ?_
      refine p_icmp 65 47 c126_44 rfl rfl ((yc_ge (hR3511.rg _ _) (rgD rfl)).trans Int.not_lt.symm) (fun hb3737 k3738 hk3738 => ?_) (fun hb3737 k3739 hk3739 => ?_)
      · have hX3740 := hX3735.trans (if_neg hb3737)
        exact tJ126_65 (f := f) (by omega) hg3502 (rg_wr _) hR3511 (fun m' e' => Hr m' (hX3740.trans e'))
      · have hX3741 := hX3735.trans (if_pos (Classical.not_not.mp hb3737))
        refine p_aload 48 c126_47 rfl rfl ?_
        refine p_iload 49 c126_48 rfl rfl ?_
        refine p_iload 50 c126_49 rfl rfl ?_
        refine p_aload 51 c126_50 rfl rfl ?_
        refine p_getX 54 (m3510 376 4) c126_51 rfl kf376_4 rfl ?_
        refine p_iconst 55 c126_54 rfl ?_
        refine p_cO 58 [.ref 376, yI (F96 m), yI (wr ((m 383 (F96 m).toNat) - 1)), yI (m3510 376 4), yI 1] [] c126_55 rfl rfl rfl (fun k' hk' d' => d123 (f := f) (by omega) hg3502 (rg_wr _) (hR3511.rg _ _) (rgD rfl) hR3511) (fun r3791 hF3789 hg3790 n3743 k3742 hk3742 => ?_)
        have hX3792 := hX3741.trans (bP_s hF3789)
        refine p_if 65 61 c126_58 rfl rfl ((yz_ge hg3790).trans Int.not_lt.symm) (fun hb3793 k3794 hk3794 => ?_) (fun hb3793 k3795 hk3795 => ?_)
        · have hX3796 := hX3792.trans (if_neg hb3793)
          exact tJ126_65 (f := f) (by omega) hg3502 (rg_wr _) hR3511 (fun m' e' => Hr m' (hX3796.trans e'))
        · have hX3797 := hX3792.trans (if_pos (Classical.not_not.mp hb3793))
          refine p_iconst 62 c126_61 rfl ?_
          refine p_goto 66 c126_62 rfl ?_
          exact tJ126_66 (f := f) (by omega) hg3502 (rg_wr _) (rgD rfl) hR3511 (fun m' e' => Hr m' (hX3797.trans e'))
def J130_64 (f : Nat) (x1 : Int) (x2 : Int) (x3 : Int) (m : yM) : Option (((Int × Int) × yM) ⊕ (((Int × Int) × yM) ⊕ (Int × yM))) := (some (.inl ((x2, wr (x3 + 1)), m)))
set_option maxRecDepth 100000 in
theorem tJ130_64 {L : Nat} {xs : Nat → Int32} {Q : xO → yM → Nat → Prop} {k d n : Nat} {c : yS3} {f : Nat} {x1 : Int} {x2 : Int} {x3 : Int} {m : yM} (hk : k ≤ f) (gx1 : rg x1) (gx2 : rg x2) (gx3 : rg x3) (hR : RM c m) (Hn : ∀ (y0 y1 : Int) (m' : yM) (n' : Nat), J130_64 f x1 x2 x3 m = some (.inl ((y0, y1), m')) → rg y0 → rg y1 → RM c m' → ∀ k', k' < k → PW (gZ L xs) k' 130 d 32 [some (.ref 376), some (yI x1), some (yI y0), some (yI y1)] [] m' n' Q) (He : ∀ (y0 y1 : Int) (m' : yM) (n' : Nat), J130_64 f x1 x2 x3 m = some (.inr (.inl ((y0, y1), m'))) → rg y0 → rg y1 → RM c m' → ∀ k', k' ≤ k → PW (gZ L xs) k' 130 d 70 [some (.ref 376), some (yI x1), some (yI y0), some (yI y1)] [] m' n' Q) (Hr : ∀ r m', J130_64 f x1 x2 x3 m = some (.inr (.inr (r, m'))) → rg r → RM c m' → ∀ n', Q (.inl (some (yI r))) m' n') : PW (gZ L xs) k 130 d 64 [some (.ref 376), some (yI x1), some (yI x2), some (yI x3)] [] m n Q := by
  have hX : J130_64 f x1 x2 x3 m = J130_64 f x1 x2 x3 m := rfl
  refine p_iinc 67 c130_64 rfl rfl rfl ?_
  refine p_gotoD 32 c130_67 rfl (fun k3897 hk3897 => ?_)
  exact Hn _ _ _ _ hX gx2 (rg_wr _) hR _ (by omega)
def B130_32 (f : Nat) (x1 : Int) (x2 : Int) (x3 : Int) (m : yM) : Option (((Int × Int) × yM) ⊕ (((Int × Int) × yM) ⊕ (Int × yM))) := (if x3 < m 389 x1.toNat then (if F115 m = 0 then (some (.inr (.inl ((x2, x3), m)))) else (if m 380 x3.toNat = m 376 4 then (J130_64 f x1 x3 x3 m) else (J130_64 f x1 x2 x3 m))) else (some (.inr (.inl ((x2, x3), m)))))
set_option maxRecDepth 100000 in
theorem tB130_32 {L : Nat} {xs : Nat → Int32} {Q : xO → yM → Nat → Prop} {k d n : Nat} {c : yS3} {f : Nat} {x1 : Int} {x2 : Int} {x3 : Int} {m : yM} (hk : k ≤ f) (gx1 : rg x1) (gx2 : rg x2) (gx3 : rg x3) (hR : RM c m) (Hn : ∀ (y0 y1 : Int) (m' : yM) (n' : Nat), B130_32 f x1 x2 x3 m = some (.inl ((y0, y1), m')) → rg y0 → rg y1 → RM c m' → ∀ k', k' < k → PW (gZ L xs) k' 130 d 32 [some (.ref 376), some (yI x1), some (yI y0), some (yI y1)] [] m' n' Q) (He : ∀ (y0 y1 : Int) (m' : yM) (n' : Nat), B130_32 f x1 x2 x3 m = some (.inr (.inl ((y0, y1), m'))) → rg y0 → rg y1 → RM c m' → ∀ k', k' ≤ k → PW (gZ L xs) k' 130 d 70 [some (.ref 376), some (yI x1), some (yI y0), some (yI y1)] [] m' n' Q) (Hr : ∀ r m', B130_32 f x1 x2 x3 m = some (.inr (.inr (r, m'))) → rg r → RM c m' → ∀ n', Q (.inl (some (yI r))) m' n') : PW (gZ L xs) k 130 d 32 [some (.ref 376), some (yI x1), some (yI x2), some (yI x3)] [] m n Q := by
  have hX : B130_32 f x1 x2 x3 m = B130_32 f x1 x2 x3 m := rfl
  refine p_iload 33 c130_32 rfl rfl ?_
  refine p_aload 34 c130_33 rfl rfl ?_
  refine p_getR 37 c130_34 rfl kf376_26 ?_
  refine p_iload 38 c130_37 rfl rfl ?_
  refine p_iaX 39 (m 389 x1.toNat) c130_38 rfl ka389 gx1 rfl (fun hx3878 => ?_)
  refine p_icmp 70 42 c130_39 rfl rfl ((yc_ge gx3 (hR.rg _ _)).trans Int.not_lt.symm) (fun hb3879 k3880 hk3880 => ?_) (fun hb3879 k3881 hk3881 => ?_)
  · have hX3882 := hX.trans (if_neg hb3879)
    exact He _ _ _ _ hX3882 gx2 gx3 hR _ (by omega)
  · have hX3883 := hX.trans (if_pos (Classical.not_not.mp hb3879))
    refine p_aload 43 c130_42 rfl rfl ?_
    refine p_cX 46 [.ref 376] [] c130_43 rfl rfl rfl (fun k' hk' d' => d115 hR) (fun hg3886 n3885 k3884 hk3884 => ?_)
    refine p_if 70 49 c130_46 rfl rfl (yz_eq hg3886) (fun hb3887 k3888 hk3888 => ?_) (fun hb3887 k3889 hk3889 => ?_)
    · have hX3890 := hX3883.trans (if_pos hb3887)
      exact He _ _ _ _ hX3890 gx2 gx3 hR _ (by omega)
    · have hX3891 := hX3883.trans (if_neg hb3887)
      refine p_aload 50 c130_49 rfl rfl ?_
      refine p_getR 53 c130_50 rfl kf376_13 ?_
      refine p_iload 54 c130_53 rfl rfl ?_
      refine p_iaX 55 (m 380 x3.toNat) c130_54 rfl ka380 gx3 rfl (fun hx3892 => ?_)
      refine p_aload 56 c130_55 rfl rfl ?_
      refine p_getX 59 (m 376 4) c130_56 rfl kf376_4 rfl ?_
      refine p_icmp 64 62 c130_59 rfl rfl (yc_ne (hR.rg _ _) (hR.rg _ _)) (fun hb3893 k3894 hk3894 => ?_) (fun hb3893 k3895 hk3895 => ?_)
      · have hX3896 := hX3891.trans (if_neg hb3893)
        exact tJ130_64 (f := f) (by omega) gx1 gx2 gx3 hR (fun y0 y1 m' n' e' h0 h1 hR' k' hk' => Hn y0 y1 m' n' (hX3896.trans e') h0 h1 hR' k' (by omega)) (fun y0 y1 m' n' e' h0 h1 hR' k' hk' => He y0 y1 m' n' (hX3896.trans e') h0 h1 hR' k' (by omega)) (fun r' m' e' => Hr r' m' (hX3896.trans e'))
      · have hX3898 := hX3891.trans (if_pos (Classical.not_not.mp hb3893))
        refine p_iload 63 c130_62 rfl rfl ?_
        refine p_istore 64 c130_63 rfl rfl ?_
        exact tJ130_64 (f := f) (by omega) gx1 gx3 gx3 hR (fun y0 y1 m' n' e' h0 h1 hR' k' hk' => Hn y0 y1 m' n' (hX3898.trans e') h0 h1 hR' k' (by omega)) (fun y0 y1 m' n' e' h0 h1 hR' k' hk' => He y0 y1 m' n' (hX3898.trans e') h0 h1 hR' k' (by omega)) (fun r' m' e' => Hr r' m' (hX3898.trans e'))
def J130_115 (f : Nat) (x2 : Int) (x3 : Int) (m : yM) : Option (Int × yM) := (bI (F105 f x3 m) (fun r3923 m3925 => (if r3923 = 0 then (some ((-1), m3925)) else (some (x2, m3925)))))
set_option maxRecDepth 100000 in
theorem tJ130_115 {L : Nat} {xs : Nat → Int32} {Q : xO → yM → Nat → Prop} {k d n : Nat} {c : yS3} {f : Nat} {x2 : Int} {x3 : Int} {m : yM} {j1 : Option Value} (hk : k ≤ f) (gx2 : rg x2) (gx3 : rg x3) (hR : RM c m) (Hr : ∀ r m', J130_115 f x2 x3 m = some (r, m') → rg r → RM c m' → ∀ n', Q (.inl (some (yI r))) m' n') : PW (gZ L xs) k 130 d 115 [some (.ref 376), j1, some (yI x2), some (yI x3)] [] m n Q := by
  have hX : J130_115 f x2 x3 m = J130_115 f x2 x3 m := rfl
  refine p_aload 116 c130_115 rfl rfl ?_
  refine p_iload 117 c130_116 rfl rfl ?_
  refine p_cS 120 [.ref 376, yI x3] [] c130_117 rfl rfl rfl (fun k' hk' d' => d105 (f := f) (by omega) gx3 hR) (fun r3923 m3925 hF3921 hg3922 hR3926 n3920 k3919 hk3919 => ?_)
  have hX3924 := hX.trans (bI_s hF3921)
  refine p_if 127 123 c130_120 rfl rfl (yz_eq hg3922) (fun hb3927 k3928 hk3928 => ?_) (fun hb3927 k3929 hk3929 => ?_)
  · have hX3930 := hX3924.trans (if_pos hb3927)
    refine p_iconst 128 c130_127 rfl ?_
    exact p_ireturn c130_128 (Hr _ _ hX3930 (rgD rfl) hR3926 _)
  · have hX3931 := hX3924.trans (if_neg hb3927)
    refine p_iload 124 c130_123 rfl rfl ?_
    refine p_goto 128 c130_124 rfl ?_
    exact p_ireturn c130_128 (Hr _ _ hX3931 gx2 hR3926 _)
def J130_97 (f : Nat) (x2 : Int) (xs0 : Int) (m : yM) : Option (Int × yM) := (if xs0 = 0 then (J130_115 f x2 xs0 m) else (if x2 < 0 then (bI (F124 f (m 376 4) m) (fun r3942 m3944 => (J130_115 f r3942 xs0 m3944))) else (J130_115 f x2 xs0 m)))
set_option maxRecDepth 100000 in
theorem tJ130_97 {L : Nat} {xs : Nat → Int32} {Q : xO → yM → Nat → Prop} {k d n : Nat} {c : yS3} {f : Nat} {x2 : Int} {xs0 : Int} {m : yM} {j1 j3 : Option Value} (hk : k ≤ f) (gx2 : rg x2) (gxs0 : rg xs0) (hR : RM c m) (Hr : ∀ r m', J130_97 f x2 xs0 m = some (r, m') → rg r → RM c m' → ∀ n', Q (.inl (some (yI r))) m' n') : PW (gZ L xs) k 130 d 97 [some (.ref 376), j1, some (yI x2), j3] [yI xs0] m n Q := by
  have hX : J130_97 f x2 xs0 m = J130_97 f x2 xs0 m := rfl
  refine p_istore 98 c130_97 rfl rfl ?_
  refine p_iload 99 c130_98 rfl rfl ?_
  refine p_if 115 102 c130_99 rfl rfl (yz_eq gxs0) (fun hb3915 k3916 hk3916 => ?_) (fun hb3915 k3917 hk3917 => ?_)
  · have hX3918 := hX.trans (if_pos hb3915)
    exact tJ130_115 (f := f) (by omega) gx2 gxs0 hR (fun r' m' e' => Hr r' m' (hX3918.trans e'))
  · have hX3932 := hX.trans (if_neg hb3915)
    refine p_iload 103 c130_102 rfl rfl ?_
    refine p_if 115 106 c130_103 rfl rfl ((yz_ge gx2).trans Int.not_lt.symm) (fun hb3933 k3934 hk3934 => ?_) (fun hb3933 k3935 hk3935 => ?_)
    · have hX3936 := hX3932.trans (if_neg hb3933)
      exact tJ130_115 (f := f) (by omega) gx2 gxs0 hR (fun r' m' e' => Hr r' m' (hX3936.trans e'))
    · have hX3937 := hX3932.trans (if_pos (Classical.not_not.mp hb3933))
      refine p_aload 107 c130_106 rfl rfl ?_
      refine p_aload 108 c130_107 rfl rfl ?_
      refine p_getX 111 (m 376 4) c130_108 rfl kf376_4 rfl ?_
      refine p_cS 114 [.ref 376, yI (m 376 4)] [] c130_111 rfl rfl rfl (fun k' hk' d' => d124 (f := f) (by omega) (hR.rg _ _) hR) (fun r3942 m3944 hF3940 hg3941 hR3945 n3939 k3938 hk3938 => ?_)
      have hX3943 := hX3937.trans (bI_s hF3940)
      refine p_istore 115 c130_114 rfl rfl ?_
      exact tJ130_115 (f := f) (by omega) hg3941 gxs0 hR3945 (fun r' m' e' => Hr r' m' (hX3943.trans e'))
def J130_96 (f : Nat) (x2 : Int) (m : yM) : Option (Int × yM) := (J130_97 f x2 0 m)
set_option maxRecDepth 100000 in
theorem tJ130_96 {L : Nat} {xs : Nat → Int32} {Q : xO → yM → Nat → Prop} {k d n : Nat} {c : yS3} {f : Nat} {x2 : Int} {m : yM} {j1 j3 : Option Value} (hk : k ≤ f) (gx2 : rg x2) (hR : RM c m) (Hr : ∀ r m', J130_96 f x2 m = some (r, m') → rg r → RM c m' → ∀ n', Q (.inl (some (yI r))) m' n') : PW (gZ L xs) k 130 d 96 [some (.ref 376), j1, some (yI x2), j3] [] m n Q := by
  have hX : J130_96 f x2 m = J130_96 f x2 m := rfl
  refine p_iconst 97 c130_96 rfl ?_
  exact tJ130_97 (f := f) (by omega) gx2 (rgD rfl) hR (fun r' m' e' => Hr r' m' (hX.trans e'))
def J130_92 (f : Nat) (x2 : Int) (m : yM) : Option (Int × yM) := (J130_97 f x2 1 m)
set_option maxRecDepth 100000 in
theorem tJ130_92 {L : Nat} {xs : Nat → Int32} {Q : xO → yM → Nat → Prop} {k d n : Nat} {c : yS3} {f : Nat} {x2 : Int} {m : yM} {j1 j3 : Option Value} (hk : k ≤ f) (gx2 : rg x2) (hR : RM c m) (Hr : ∀ r m', J130_92 f x2 m = some (r, m') → rg r → RM c m' → ∀ n', Q (.inl (some (yI r))) m' n') : PW (gZ L xs) k 130 d 92 [some (.ref 376), j1, some (yI x2), j3] [] m n Q := by
  have hX : J130_92 f x2 m = J130_92 f x2 m := rfl
  refine p_iconst 93 c130_92 rfl ?_
  refine p_goto 97 c130_93 rfl ?_
  exact tJ130_97 (f := f) (by omega) gx2 (rgD rfl) hR (fun r' m' e' => Hr r' m' (hX.trans e'))
def J130_70 (f : Nat) (x1 : Int) (x2 : Int) (m : yM) : Option (Int × yM) := (if F115 m = 0 then (J130_96 f x2 m) else (if x2 < 0 then (if m 389 x1.toNat < 48 then (J130_92 f x2 m) else (J130_96 f x2 m)) else (J130_92 f x2 m)))
set_option maxRecDepth 100000 in
theorem tJ130_70 {L : Nat} {xs : Nat → Int32} {Q : xO → yM → Nat → Prop} {k d n : Nat} {c : yS3} {f : Nat} {x1 : Int} {x2 : Int} {m : yM} {j3 : Option Value} (hk : k ≤ f) (gx1 : rg x1) (gx2 : rg x2) (hR : RM c m) (Hr : ∀ r m', J130_70 f x1 x2 m = some (r, m') → rg r → RM c m' → ∀ n', Q (.inl (some (yI r))) m' n') : PW (gZ L xs) k 130 d 70 [some (.ref 376), some (yI x1), some (yI x2), j3] [] m n Q := by
  have hX : J130_70 f x1 x2 m = J130_70 f x1 x2 m := rfl
  refine p_aload 71 c130_70 rfl rfl ?_
  refine p_cX 74 [.ref 376] [] c130_71 rfl rfl rfl (fun k' hk' d' => d115 hR) (fun hg3910 n3909 k3908 hk3908 => ?_)
  refine p_if 96 77 c130_74 rfl rfl (yz_eq hg3910) (fun hb3911 k3912 hk3912 => ?_) (fun hb3911 k3913 hk3913 => ?_)
  · have hX3914 := hX.trans (if_pos hb3911)
    exact tJ130_96 (f := f) (by omega) gx2 hR (fun r' m' e' => Hr r' m' (hX3914.trans e'))
  · have hX3946 := hX.trans (if_neg hb3911)
    refine p_iload 78 c130_77 rfl rfl ?_
    refine p_if 92 81 c130_78 rfl rfl ((yz_ge gx2).trans Int.not_lt.symm) (fun hb3947 k3948 hk3948 => ?_) (fun hb3947 k3949 hk3949 => ?_)
    · have hX3950 := hX3946.trans (if_neg hb3947)
      exact tJ130_92 (f := f) (by omega) gx2 hR (fun r' m' e' => Hr r' m' (hX3950.trans e'))
    · have hX3951 := hX3946.trans (if_pos (Classical.not_not.mp hb3947))
      refine p_aload 82 c130_81 rfl rfl ?_
      refine p_getR 85 c130_82 rfl kf376_26 ?_
      refine p_iload 86 c130_85 rfl rfl ?_
      refine p_iaX 87 (m 389 x1.toNat) c130_86 rfl ka389 gx1 rfl (fun hx3952 => ?_)
      refine p_iconst 89 c130_87 rfl ?_
      refine p_icmp 96 92 c130_89 rfl rfl ((yc_ge (hR.rg _ _) (rgD rfl)).trans Int.not_lt.symm) (fun hb3953 k3954 hk3954 => ?_) (fun hb3953 k3955 hk3955 => ?_)
      · have hX3956 := hX3951.trans (if_neg hb3953)
        exact tJ130_96 (f := f) (by omega) gx2 hR (fun r' m' e' => Hr r' m' (hX3956.trans e'))
      · have hX3957 := hX3951.trans (if_pos (Classical.not_not.mp hb3953))
        exact tJ130_92 (f := f) (by omega) gx2 hR (fun r' m' e' => Hr r' m' (hX3957.trans e'))
def F130 (f : Nat) (m : yM) : Option (Int × yM) := (if F114 m = 0 then (bL (yloop (fun (l : Int × Int) ml => B130_32 f (F96 m) l.1 l.2 ml) f ((-1), wr ((m 376 14) + 2)) m) (fun l3899 m3905 => (J130_70 f (F96 m) l3899.1 m3905)) (fun r mr => some (r, mr))) else (bU (F99 f m) (fun m3965 => (some (wr ((m3965 376 14) + 1), m3965)))))
set_option maxRecDepth 100000 in
theorem d130 {L : Nat} {xs : Nat → Int32} {k d n : Nat} {c : yS3} {f : Nat} {m : yM} (hk : k ≤ f) (hR : RM c m) : PC (gZ L xs) k d 130 [.ref 376] m n (qS c (F130 f m)) := by
  have hX : F130 f m = F130 f m := rfl
  have Hr : ∀ r m', F130 f m = some (r, m') → rg r → RM c m' → ∀ n' : Nat, (qS c (F130 f m)) (.inl (some (yI r))) m' n' := fun r m' e h1 h2 n' => ⟨r, rfl, h1, h2, e⟩
  refine PC.mk [some (.ref 376), none, none, none] kn130 rfl ?_
  refine p_aload 1 c130_0 rfl rfl ?_
  refine p_cX 4 [.ref 376] [] c130_1 rfl rfl rfl (fun k' hk' d' => d96 hR) (fun hg3870 n3869 k3868 hk3868 => ?_)
  refine p_istore 5 c130_4 rfl rfl ?_
  refine p_aload 6 c130_5 rfl rfl ?_
  refine p_cX 9 [.ref 376] [] c130_6 rfl rfl rfl (fun k' hk' d' => d114 hR) (fun hg3873 n3872 k3871 hk3871 => ?_)
  refine p_if 23 12 c130_9 rfl rfl (yz_eq hg3873) (fun hb3874 k3875 hk3875 => ?_) (fun hb3874 k3876 hk3876 => ?_)
  · have hX3877 := hX.trans (if_pos hb3874)
    refine p_iconst 24 c130_23 rfl ?_
    refine p_istore 25 c130_24 rfl rfl ?_
    refine p_aload 26 c130_25 rfl rfl ?_
    refine p_getX 29 (m 376 14) c130_26 rfl kf376_14 rfl ?_
    refine p_iconst 30 c130_29 rfl ?_
    refine p_iadd 31 c130_30 rfl ?_
    refine p_istore 32 c130_31 rfl rfl ?_
    refine PW.loop (K := k3875) (pce := 70) (fun (l : Int × Int) ml => B130_32 f (F96 m) l.1 l.2 ml) (fun (l : Int × Int) j => [some (.ref 376), some (yI (F96 m)), some (yI l.1), some (yI l.2)]) (fun (l : Int × Int) => rg l.1 ∧ rg l.2) (RM c) (fun r' m' => rg r' → RM c m' → ∀ n' : Nat, (qS c (F130 f m)) (.inl (some (yI r'))) m' n') (fun k' hk' l j m' n' hl hI Hn' He' Hr' => tB130_32 (f := f) (by omega) hg3870 hl.1 hl.2 hI (fun y0 y1 m2 n2 e h0 h1 hR2 => Hn' (y0, y1) (fun q => ([none, none, none, none] : List (Option Value)).getD q none) m2 n2 e ⟨h0, h1⟩ hR2) (fun y0 y1 m2 n2 e h0 h1 hR2 => He' (y0, y1) (fun q => ([none, none, none, none] : List (Option Value)).getD q none) m2 n2 e ⟨h0, h1⟩ hR2) Hr') f k3875 (by omega) (Nat.le_refl _) ((-1), wr ((m 376 14) + 2)) (fun q => ([some (.ref 376), some (yI (F96 m)), some (yI ((-1))), some (yI (wr ((m 376 14) + 2)))] : xL).getD q none) _ _ ⟨(rgD rfl), (rg_wr _)⟩ hR (fun l3899 j3902 m3905 n3904 e3901 hl3900 hR3906 k3903 hk3903 => ?_) (fun r' m' e' => ?_)
    · have hX3907 := hX3877.trans (bL_l e3901)
      exact tJ130_70 (f := f) (by omega) hg3870 hl3900.1 hR3906 (fun r' m' e' => Hr r' m' (hX3907.trans e'))
    · exact Hr r' m' (hX3877.trans (bL_r e'))
  · have hX3958 := hX.trans (if_neg hb3874)
    refine p_aload 13 c130_12 rfl rfl ?_
    refine p_cV 16 [.ref 376] [] c130_13 rfl rfl rfl (fun k' hk' d' => d99 (f := f) (by omega) hR) (fun m3965 hF3961 hR3966 n3960 k3959 hk3959 => ?_)
    have hX3964 := hX3958.trans (bU_s hF3961)
    refine p_aload 17 c130_16 rfl rfl ?_
    refine p_getX 20 (m3965 376 14) c130_17 rfl kf376_14 rfl ?_
    refine p_iconst 21 c130_20 rfl ?_
    refine p_iadd 22 c130_21 rfl ?_
    exact p_ireturn c130_22 (Hr _ _ hX3964 (rg_wr _) hR3966 _)
end
section
/-! FUNCTIONS OF THE METHODS: printed by wip/fn/dc.py -/
def F127 (f : Nat) (x1 : Int) (x2 : Int) (x3 : Int) (x4 : Int) (m : yM) : Option (Int × yM) := (some (wr ((wr ((m 390 (F96 m).toNat) + 1)) - 1), yup (yup (yup (yup (yup (yup m 403 (wr ((wr (1000 * (F96 m))) + (wr (8 * (m 390 (F96 m).toNat))))).toNat x1) 403 (wr ((wr ((wr (1000 * (F96 m))) + (wr (8 * (m 390 (F96 m).toNat))))) + 1)).toNat (wr ((m 384 (F96 m).toNat) - 1))) 403 (wr ((wr ((wr (1000 * (F96 m))) + (wr (8 * (m 390 (F96 m).toNat))))) + 2)).toNat x2) 403 (wr ((wr ((wr (1000 * (F96 m))) + (wr (8 * (m 390 (F96 m).toNat))))) + 3)).toNat x3) 403 (wr ((wr ((wr (1000 * (F96 m))) + (wr (8 * (m 390 (F96 m).toNat))))) + 4)).toNat x4) 390 (F96 m).toNat (wr ((m 390 (F96 m).toNat) + 1))))
set_option maxRecDepth 100000 in
theorem d127 {L : Nat} {xs : Nat → Int32} {k d n : Nat} {c : yS3} {f : Nat} {x1 : Int} {x2 : Int} {x3 : Int} {x4 : Int} {m : yM} (hk : k ≤ f) (gx1 : rg x1) (gx2 : rg x2) (gx3 : rg x3) (gx4 : rg x4) (hR : RM c m) : PC (gZ L xs) k d 127 [.ref 376, yI x1, yI x2, yI x3, yI x4] m n (qS c (F127 f x1 x2 x3 x4 m)) := by
  have hX : F127 f x1 x2 x3 x4 m = F127 f x1 x2 x3 x4 m := rfl
  have Hr : ∀ r m', F127 f x1 x2 x3 x4 m = some (r, m') → rg r → RM c m' → ∀ n' : Nat, (qS c (F127 f x1 x2 x3 x4 m)) (.inl (some (yI r))) m' n' := fun r m' e h1 h2 n' => ⟨r, rfl, h1, h2, e⟩
  refine PC.mk [some (.ref 376), some (yI x1), some (yI x2), some (yI x3), some (yI x4), none, none] kn127 rfl ?_
  refine p_aload 1 c127_0 rfl rfl ?_
  refine p_cX 4 [.ref 376] [] c127_1 rfl rfl rfl (fun k' hk' d' => d96 hR) (fun hg4011 n4010 k4009 hk4009 => ?_)
  refine p_istore 6 c127_4 rfl rfl ?_
  refine p_iconst 9 c127_6 rfl ?_
  refine p_iload 11 c127_9 rfl rfl ?_
  refine p_imul 12 c127_11 rfl ?_
  refine p_iconst 14 c127_12 rfl ?_
  refine p_aload 15 c127_14 rfl rfl ?_
  refine p_getR 18 c127_15 rfl kf376_27 ?_
  refine p_iload 20 c127_18 rfl rfl ?_
  refine p_iaX 21 (m 390 (F96 m).toNat) c127_20 rfl ka390 hg4011 rfl (fun hx4012 => ?_)
  refine p_imul 22 c127_21 rfl ?_
  refine p_iadd 23 c127_22 rfl ?_
  refine p_istore 25 c127_23 rfl rfl ?_
  refine p_aload 26 c127_25 rfl rfl ?_
  refine p_getR 29 c127_26 rfl kf376_40 ?_
  refine p_iload 31 c127_29 rfl rfl ?_
  refine p_iload 32 c127_31 rfl rfl ?_
  refine p_iaS 33 c127_32 rfl ka403 (rg_wr _) x1 (nar0 gx1) (fun hx4013 => ?_)
  have hR4014 := hR.up 403 (wr ((wr (1000 * (F96 m))) + (wr (8 * (m 390 (F96 m).toNat))))).toNat (v := x1) (nselA (by decide)) gx1
  refine p_aload 34 c127_33 rfl rfl ?_
  refine p_getR 37 c127_34 rfl kf376_40 ?_
  refine p_iload 39 c127_37 rfl rfl ?_
  refine p_iconst 40 c127_39 rfl ?_
  refine p_iadd 41 c127_40 rfl ?_
  refine p_aload 42 c127_41 rfl rfl ?_
  refine p_getR 45 c127_42 rfl kf376_21 ?_
  refine p_iload 47 c127_45 rfl rfl ?_
  refine p_iaX 48 (m 384 (F96 m).toNat) c127_47 rfl ka384 hg4011 (yup_na (by decide)) (fun hx4015 => ?_)
  refine p_iconst 49 c127_48 rfl ?_
  refine p_isub 50 c127_49 rfl ?_
  refine p_iaS 51 c127_50 rfl ka403 (rg_wr _) (wr ((m 384 (F96 m).toNat) - 1)) (nar0 (rg_wr _)) (fun hx4016 => ?_)
  have hR4017 := hR4014.up 403 (wr ((wr ((wr (1000 * (F96 m))) + (wr (8 * (m 390 (F96 m).toNat))))) + 1)).toNat (v := wr ((m 384 (F96 m).toNat) - 1)) (nselA (by decide)) (rg_wr _)
  refine p_aload 52 c127_51 rfl rfl ?_
  refine p_getR 55 c127_52 rfl kf376_40 ?_
  refine p_iload 57 c127_55 rfl rfl ?_
  refine p_iconst 58 c127_57 rfl ?_
  refine p_iadd 59 c127_58 rfl ?_
  refine p_iload 60 c127_59 rfl rfl ?_
  refine p_iaS 61 c127_60 rfl ka403 (rg_wr _) x2 (nar0 gx2) (fun hx4018 => ?_)
  have hR4019 := hR4017.up 403 (wr ((wr ((wr (1000 * (F96 m))) + (wr (8 * (m 390 (F96 m).toNat))))) + 2)).toNat (v := x2) (nselA (by decide)) gx2
  refine p_aload 62 c127_61 rfl rfl ?_
  refine p_getR 65 c127_62 rfl kf376_40 ?_
  refine p_iload 67 c127_65 rfl rfl ?_
  refine p_iconst 68 c127_67 rfl ?_
  refine p_iadd 69 c127_68 rfl ?_
  refine p_iload 70 c127_69 rfl rfl ?_
  refine p_iaS 71 c127_70 rfl ka403 (rg_wr _) x3 (nar0 gx3) (fun hx4020 => ?_)
  have hR4021 := hR4019.up 403 (wr ((wr ((wr (1000 * (F96 m))) + (wr (8 * (m 390 (F96 m).toNat))))) + 3)).toNat (v := x3) (nselA (by decide)) gx3
  refine p_aload 72 c127_71 rfl rfl ?_
  refine p_getR 75 c127_72 rfl kf376_40 ?_
  refine p_iload 77 c127_75 rfl rfl ?_
  refine p_iconst 78 c127_77 rfl ?_
  refine p_iadd 79 c127_78 rfl ?_
  refine p_iload 81 c127_79 rfl rfl ?_
  refine p_iaS 82 c127_81 rfl ka403 (rg_wr _) x4 (nar0 gx4) (fun hx4022 => ?_)
  have hR4023 := hR4021.up 403 (wr ((wr ((wr (1000 * (F96 m))) + (wr (8 * (m 390 (F96 m).toNat))))) + 4)).toNat (v := x4) (nselA (by decide)) gx4
  refine p_aload 83 c127_82 rfl rfl ?_
  refine p_getR 86 c127_83 rfl kf376_27 ?_
  refine p_iload 88 c127_86 rfl rfl ?_
  refine p_dup2 89 c127_88 rfl ⟨rfl, rfl⟩ ?_
  refine p_iaX 90 (m 390 (F96 m).toNat) c127_89 rfl ka390 hg4011 ((yup_na (by decide)).trans ((yup_na (by decide)).trans ((yup_na (by decide)).trans ((yup_na (by decide)).trans (yup_na (by decide)))))) (fun hx4024 => ?_)
  refine p_iconst 91 c127_90 rfl ?_
  refine p_iadd 92 c127_91 rfl ?_
  refine p_iaS 93 c127_92 rfl ka390 hg4011 (wr ((m 390 (F96 m).toNat) + 1)) (nar0 (rg_wr _)) (fun hx4025 => ?_)
  have hR4026 := hR4023.up 390 (F96 m).toNat (v := wr ((m 390 (F96 m).toNat) + 1)) (nselA (by decide)) (rg_wr _)
  refine p_aload 94 c127_93 rfl rfl ?_
  refine p_getR 97 c127_94 rfl kf376_27 ?_
  refine p_iload 99 c127_97 rfl rfl ?_
  refine p_iaX 100 (wr ((m 390 (F96 m).toNat) + 1)) c127_99 rfl ka390 hg4011 (yup_eq _ _ _ _) (fun hx4027 => ?_)
  refine p_iconst 101 c127_100 rfl ?_
  refine p_isub 102 c127_101 rfl ?_
  exact p_ireturn c127_102 (Hr _ _ hX (rg_wr _) hR4026 _)
def J131_89 (f : Nat) (x2 : Int) (xs1 : Int) (xs3 : Int) (m : yM) : Option yM := (bI (F127 f xs3 x2 0 0 m) (fun r4030 m4032 => (some (yup (yup m4032 379 xs1.toNat r4030) 376 10 (wr ((m4032 376 10) + 1))))))
set_option maxRecDepth 100000 in
theorem tJ131_89 {L : Nat} {xs : Nat → Int32} {Q : xO → yM → Nat → Prop} {k d n : Nat} {c : yS3} {f : Nat} {x2 : Int} {xs1 : Int} {xs3 : Int} {m : yM} {j1 : Option Value} (hk : k ≤ f) (gx2 : rg x2) (gxs1 : rg xs1) (gxs3 : rg xs3) (hR : RM c m) (Hr : ∀ m', J131_89 f x2 xs1 xs3 m = some m' → RM c m' → ∀ n', Q (.inl none) m' n') : PW (gZ L xs) k 131 d 89 [some (.ref 376), j1, some (yI x2)] [yI xs3, .ref 376, yI xs1, .ref 379] m n Q := by
  have hX : J131_89 f x2 xs1 xs3 m = J131_89 f x2 xs1 xs3 m := rfl
  refine p_iload 90 c131_89 rfl rfl ?_
  refine p_iconst 91 c131_90 rfl ?_
  refine p_iconst 92 c131_91 rfl ?_
  refine p_cS 95 [.ref 376, yI xs3, yI x2, yI 0, yI 0] [yI xs1, .ref 379] c131_92 rfl rfl rfl (fun k' hk' d' => d127 (f := f) (by omega) gxs3 gx2 (rgD rfl) (rgD rfl) hR) (fun r4030 m4032 hF4028 hg4029 hR4033 n4008 k4007 hk4007 => ?_)
  have hX4031 := hX.trans (bI_s hF4028)
  refine p_iaS 96 c131_95 rfl ka379 gxs1 r4030 (nar0 hg4029) (fun hx4034 => ?_)
  have hR4035 := hR4033.up 379 xs1.toNat (v := r4030) (nselA (by decide)) hg4029
  refine p_aload 97 c131_96 rfl rfl ?_
  refine p_dup 98 c131_97 rfl rfl ?_
  refine p_getX 101 (m4032 376 10) c131_98 rfl kf376_10 (yup_na (by decide)) ?_
  refine p_iconst 102 c131_101 rfl ?_
  refine p_iadd 103 c131_102 rfl ?_
  refine p_putI 106 c131_103 rfl kf376_10 ?_
  have hR4036 := hR4035.up 376 10 (v := wr ((m4032 376 10) + 1)) (nselD rfl) (rg_wr _)
  exact p_return c131_106 (Hr _ hX4031 hR4036 _)
def J131_68 (f : Nat) (x1 : Int) (x2 : Int) (xs1 : Int) (xs2 : Int) (m : yM) : Option yM := (if x1 = 0 then (J131_89 f x2 (m 376 10) 9 (yup m 378 xs1.toNat xs2)) else (J131_89 f x2 (m 376 10) 10 (yup m 378 xs1.toNat xs2)))
set_option maxRecDepth 100000 in
theorem tJ131_68 {L : Nat} {xs : Nat → Int32} {Q : xO → yM → Nat → Prop} {k d n : Nat} {c : yS3} {f : Nat} {x1 : Int} {x2 : Int} {xs1 : Int} {xs2 : Int} {m : yM} (hk : k ≤ f) (gx1 : rg x1) (gx2 : rg x2) (gxs1 : rg xs1) (gxs2 : rg xs2) (hR : RM c m) (Hr : ∀ m', J131_68 f x1 x2 xs1 xs2 m = some m' → RM c m' → ∀ n', Q (.inl none) m' n') : PW (gZ L xs) k 131 d 68 [some (.ref 376), some (yI x1), some (yI x2)] [yI xs2, yI xs1, .ref 378] m n Q := by
  have hX : J131_68 f x1 x2 xs1 xs2 m = J131_68 f x1 x2 xs1 xs2 m := rfl
  refine p_iaS 69 c131_68 rfl ka378 gxs1 xs2 (nar0 gxs2) (fun hx4001 => ?_)
  have hR4002 := hR.up 378 xs1.toNat (v := xs2) (nselA (by decide)) gxs2
  refine p_aload 70 c131_69 rfl rfl ?_
  refine p_getR 73 c131_70 rfl kf376_12 ?_
  refine p_aload 74 c131_73 rfl rfl ?_
  refine p_getX 77 (m 376 10) c131_74 rfl kf376_10 (yup_na (by decide)) ?_
  refine p_aload 78 c131_77 rfl rfl ?_
  refine p_iload 79 c131_78 rfl rfl ?_
  refine p_if 87 82 c131_79 rfl rfl (yz_eq gx1) (fun hb4003 k4004 hk4004 => ?_) (fun hb4003 k4005 hk4005 => ?_)
  · have hX4006 := hX.trans (if_pos hb4003)
    refine p_iconst 89 c131_87 rfl ?_
    exact tJ131_89 (f := f) (by omega) gx2 (hR.rg _ _) (rgD rfl) hR4002 (fun m' e' => Hr m' (hX4006.trans e'))
  · have hX4037 := hX.trans (if_neg hb4003)
    refine p_iconst 84 c131_82 rfl ?_
    refine p_goto 89 c131_84 rfl ?_
    exact tJ131_89 (f := f) (by omega) gx2 (hR.rg _ _) (rgD rfl) hR4002 (fun m' e' => Hr m' (hX4037.trans e'))
def J131_44 (f : Nat) (x1 : Int) (x2 : Int) (xs1 : Int) (m : yM) : Option yM := (bI (F105 f xs1 m) (fun r3989 m3991 => (if r3989 = 0 then (some m3991) else (if x1 = 0 then (J131_68 f x1 x2 (m3991 376 10) 1 m3991) else (J131_68 f x1 x2 (m3991 376 10) 3 m3991)))))
set_option maxRecDepth 100000 in
theorem tJ131_44 {L : Nat} {xs : Nat → Int32} {Q : xO → yM → Nat → Prop} {k d n : Nat} {c : yS3} {f : Nat} {x1 : Int} {x2 : Int} {xs1 : Int} {m : yM} (hk : k ≤ f) (gx1 : rg x1) (gx2 : rg x2) (gxs1 : rg xs1) (hR : RM c m) (Hr : ∀ m', J131_44 f x1 x2 xs1 m = some m' → RM c m' → ∀ n', Q (.inl none) m' n') : PW (gZ L xs) k 131 d 44 [some (.ref 376), some (yI x1), some (yI x2)] [yI xs1, .ref 376] m n Q := by
  have hX : J131_44 f x1 x2 xs1 m = J131_44 f x1 x2 xs1 m := rfl
  refine p_cS 47 [.ref 376, yI xs1] [] c131_44 rfl rfl rfl (fun k' hk' d' => d105 (f := f) (by omega) gxs1 hR) (fun r3989 m3991 hF3987 hg3988 hR3992 n3986 k3985 hk3985 => ?_)
  have hX3990 := hX.trans (bI_s hF3987)
  refine p_if 51 50 c131_47 rfl rfl (yz_ne hg3988) (fun hb3993 k3994 hk3994 => ?_) (fun hb3993 k3995 hk3995 => ?_)
  · have hX3996 := hX3990.trans (if_neg hb3993)
    refine p_aload 52 c131_51 rfl rfl ?_
    refine p_getR 55 c131_52 rfl kf376_11 ?_
    refine p_aload 56 c131_55 rfl rfl ?_
    refine p_getX 59 (m3991 376 10) c131_56 rfl kf376_10 rfl ?_
    refine p_iload 60 c131_59 rfl rfl ?_
    refine p_if 67 63 c131_60 rfl rfl (yz_eq gx1) (fun hb3997 k3998 hk3998 => ?_) (fun hb3997 k3999 hk3999 => ?_)
    · have hX4000 := hX3996.trans (if_pos hb3997)
      refine p_iconst 68 c131_67 rfl ?_
      exact tJ131_68 (f := f) (by omega) gx1 gx2 (hR3992.rg _ _) (rgD rfl) hR3992 (fun m' e' => Hr m' (hX4000.trans e'))
    · have hX4038 := hX3996.trans (if_neg hb3997)
      refine p_iconst 64 c131_63 rfl ?_
      refine p_goto 68 c131_64 rfl ?_
      exact tJ131_68 (f := f) (by omega) gx1 gx2 (hR3992.rg _ _) (rgD rfl) hR3992 (fun m' e' => Hr m' (hX4038.trans e'))
  · have hX4039 := hX3990.trans (if_pos (Classical.not_not.mp hb3993))
    exact p_return c131_50 (Hr _ hX4039 hR3992 _)
def J131_43 (f : Nat) (x1 : Int) (x2 : Int) (m : yM) : Option yM := (J131_44 f x1 x2 0 m)
set_option maxRecDepth 100000 in
theorem tJ131_43 {L : Nat} {xs : Nat → Int32} {Q : xO → yM → Nat → Prop} {k d n : Nat} {c : yS3} {f : Nat} {x1 : Int} {x2 : Int} {m : yM} (hk : k ≤ f) (gx1 : rg x1) (gx2 : rg x2) (hR : RM c m) (Hr : ∀ m', J131_43 f x1 x2 m = some m' → RM c m' → ∀ n', Q (.inl none) m' n') : PW (gZ L xs) k 131 d 43 [some (.ref 376), some (yI x1), some (yI x2)] [.ref 376] m n Q := by
  have hX : J131_43 f x1 x2 m = J131_43 f x1 x2 m := rfl
  refine p_iconst 44 c131_43 rfl ?_
  exact tJ131_44 (f := f) (by omega) gx1 gx2 (rgD rfl) hR (fun m' e' => Hr m' (hX.trans e'))
def F131 (f : Nat) (m : yM) : Option yM := (bU (F99 f m) (fun m3864 => (bI (F130 f m3864) (fun r3969 m3971 => (if m3971 376 8 < 0 then (if F117 123 m3971 = 0 then (J131_43 f (F112 m) r3969 m3971) else (if m3971 376 10 < 3 then (J131_44 f (F112 m) r3969 1 m3971) else (J131_43 f (F112 m) r3969 m3971))) else (some m3971))))))
set_option maxRecDepth 100000 in
theorem d131 {L : Nat} {xs : Nat → Int32} {k d n : Nat} {c : yS3} {f : Nat} {m : yM} (hk : k ≤ f) (hR : RM c m) : PC (gZ L xs) k d 131 [.ref 376] m n (qV c (F131 f m)) := by
  have hX : F131 f m = F131 f m := rfl
  have Hr : ∀ m', F131 f m = some m' → RM c m' → ∀ n' : Nat, (qV c (F131 f m)) (.inl none) m' n' := fun m' e h n' => ⟨rfl, h, e⟩
  refine PC.mk [some (.ref 376), none, none] kn131 rfl ?_
  refine p_aload 1 c131_0 rfl rfl ?_
  refine p_cX 4 [.ref 376] [] c131_1 rfl rfl rfl (fun k' hk' d' => d112 hR) (fun hg3857 n3856 k3855 hk3855 => ?_)
  refine p_istore 5 c131_4 rfl rfl ?_
  refine p_aload 6 c131_5 rfl rfl ?_
  refine p_cV 9 [.ref 376] [] c131_6 rfl rfl rfl (fun k' hk' d' => d99 (f := f) (by omega) hR) (fun m3864 hF3860 hR3865 n3859 k3858 hk3858 => ?_)
  have hX3863 := hX.trans (bU_s hF3860)
  refine p_aload 10 c131_9 rfl rfl ?_
  refine p_cS 13 [.ref 376] [] c131_10 rfl rfl rfl (fun k' hk' d' => d130 (f := f) (by omega) hR3865) (fun r3969 m3971 hF3967 hg3968 hR3972 n3867 k3866 hk3866 => ?_)
  have hX3970 := hX3863.trans (bI_s hF3967)
  refine p_istore 14 c131_13 rfl rfl ?_
  refine p_aload 15 c131_14 rfl rfl ?_
  refine p_getX 18 (m3971 376 8) c131_15 rfl kf376_8 rfl ?_
  refine p_if 50 21 c131_18 rfl rfl ((yz_ge (hR3972.rg _ _)).trans Int.not_lt.symm) (fun hb3973 k3974 hk3974 => ?_) (fun hb3973 k3975 hk3975 => ?_)
  · have hX3976 := hX3970.trans (if_neg hb3973)
    exact p_return c131_50 (Hr _ hX3976 hR3972 _)
  · have hX3977 := hX3970.trans (if_pos (Classical.not_not.mp hb3973))
    refine p_aload 22 c131_21 rfl rfl ?_
    refine p_aload 23 c131_22 rfl rfl ?_
    refine p_iconst 25 c131_23 rfl ?_
    refine p_cX 28 [.ref 376, yI 123] [.ref 376] c131_25 rfl rfl rfl (fun k' hk' d' => d117 (rgD rfl) hR3972) (fun hg3980 n3979 k3978 hk3978 => ?_)
    refine p_if 43 31 c131_28 rfl rfl (yz_eq hg3980) (fun hb3981 k3982 hk3982 => ?_) (fun hb3981 k3983 hk3983 => ?_)
    · have hX3984 := hX3977.trans (if_pos hb3981)
      exact tJ131_43 (f := f) (by omega) hg3857 hg3968 hR3972 (fun m' e' => Hr m' (hX3984.trans e'))
    · have hX4040 := hX3977.trans (if_neg hb3981)
      refine p_aload 32 c131_31 rfl rfl ?_
      refine p_getX 35 (m3971 376 10) c131_32 rfl kf376_10 rfl ?_
      refine p_iconst 36 c131_35 rfl ?_
      refine p_icmp 43 39 c131_36 rfl rfl ((yc_ge (hR3972.rg _ _) (rgD rfl)).trans Int.not_lt.symm) (fun hb4041 k4042 hk4042 => ?_) (fun hb4041 k4043 hk4043 => ?_)
      · have hX4044 := hX4040.trans (if_neg hb4041)
        exact tJ131_43 (f := f) (by omega) hg3857 hg3968 hR3972 (fun m' e' => Hr m' (hX4044.trans e'))
      · have hX4045 := hX4040.trans (if_pos (Classical.not_not.mp hb4041))
        refine p_iconst 40 c131_39 rfl ?_
        refine p_goto 44 c131_40 rfl ?_
        exact tJ131_44 (f := f) (by omega) hg3857 hg3968 (rgD rfl) hR3972 (fun m' e' => Hr m' (hX4045.trans e'))
def J132_105 (f : Nat) (x1 : Int) (x2 : Int) (x3 : Int) (x5 : Int) (x6 : Int) (x7 : Int) (x8 : Int) (x9 : Int) (m : yM) : Option yM := (if m 376 8 < 0 then (bI (F118 f 41 m) (fun r4246 m4248 => (if r4246 = 0 then (some m4248) else (bI (F127 f 7 x1 x2 x3 m4248) (fun r4258 m4260 => (some (yup (yup (yup m4260 403 (wr ((wr ((wr (1000 * x5)) + (wr (8 * r4258)))) + 5)).toNat (wr ((wr (16 * x6)) + x7))) 403 (wr ((wr ((wr (1000 * x5)) + (wr (8 * r4258)))) + 6)).toNat x8) 403 (wr ((wr ((wr (1000 * x5)) + (wr (8 * r4258)))) + 7)).toNat x9))))))) else (some m))
set_option maxRecDepth 100000 in
theorem tJ132_105 {L : Nat} {xs : Nat → Int32} {Q : xO → yM → Nat → Prop} {k d n : Nat} {c : yS3} {f : Nat} {x1 : Int} {x2 : Int} {x3 : Int} {x5 : Int} {x6 : Int} {x7 : Int} {x8 : Int} {x9 : Int} {m : yM} {j4 j10 : Option Value} (hk : k ≤ f) (gx1 : rg x1) (gx2 : rg x2) (gx3 : rg x3) (gx5 : rg x5) (gx6 : rg x6) (gx7 : rg x7) (gx8 : rg x8) (gx9 : rg x9) (hR : RM c m) (Hr : ∀ m', J132_105 f x1 x2 x3 x5 x6 x7 x8 x9 m = some m' → RM c m' → ∀ n', Q (.inl none) m' n') : PW (gZ L xs) k 132 d 105 [some (.ref 376), some (yI x1), some (yI x2), some (yI x3), j4, some (yI x5), some (yI x6), some (yI x7), some (yI x8), some (yI x9), j10] [] m n Q := by
  have hX : J132_105 f x1 x2 x3 x5 x6 x7 x8 x9 m = J132_105 f x1 x2 x3 x5 x6 x7 x8 x9 m := rfl
  refine p_aload 106 c132_105 rfl rfl ?_
  refine p_getX 109 (m 376 8) c132_106 rfl kf376_8 rfl ?_
  refine p_if 121 112 c132_109 rfl rfl ((yz_ge (hR.rg _ _)).trans Int.not_lt.symm) (fun hb4237 k4238 hk4238 => ?_) (fun hb4237 k4239 hk4239 => ?_)
  · have hX4240 := hX.trans (if_neg hb4237)
    exact p_return c132_121 (Hr _ hX4240 hR _)
  · have hX4241 := hX.trans (if_pos (Classical.not_not.mp hb4237))
    refine p_aload 113 c132_112 rfl rfl ?_
    refine p_iconst 115 c132_113 rfl ?_
    refine p_cS 118 [.ref 376, yI 41] [] c132_115 rfl rfl rfl (fun k' hk' d' => d118 (f := f) (by omega) (rgD rfl) hR) (fun r4246 m4248 hF4244 hg4245 hR4249 n4243 k4242 hk4242 => ?_)
    have hX4247 := hX4241.trans (bI_s hF4244)
    refine p_if 122 121 c132_118 rfl rfl (yz_ne hg4245) (fun hb4250 k4251 hk4251 => ?_) (fun hb4250 k4252 hk4252 => ?_)
    · have hX4253 := hX4247.trans (if_neg hb4250)
      refine p_iconst 125 c132_122 rfl ?_
      refine p_iload 127 c132_125 rfl rfl ?_
      refine p_imul 128 c132_127 rfl ?_
      refine p_iconst 130 c132_128 rfl ?_
      refine p_aload 131 c132_130 rfl rfl ?_
      refine p_iconst 133 c132_131 rfl ?_
      refine p_iload 134 c132_133 rfl rfl ?_
      refine p_iload 135 c132_134 rfl rfl ?_
      refine p_iload 136 c132_135 rfl rfl ?_
      refine p_cS 139 [.ref 376, yI 7, yI x1, yI x2, yI x3] [yI 8, yI (wr (1000 * x5))] c132_136 rfl rfl rfl (fun k' hk' d' => d127 (f := f) (by omega) (rgD rfl) gx1 gx2 gx3 hR4249) (fun r4258 m4260 hF4256 hg4257 hR4261 n4255 k4254 hk4254 => ?_)
      have hX4259 := hX4253.trans (bI_s hF4256)
      refine p_imul 140 c132_139 rfl ?_
      refine p_iadd 141 c132_140 rfl ?_
      refine p_istore 143 c132_141 rfl rfl ?_
      refine p_aload 144 c132_143 rfl rfl ?_
      refine p_getR 147 c132_144 rfl kf376_40 ?_
      refine p_iload 149 c132_147 rfl rfl ?_
      refine p_iconst 150 c132_149 rfl ?_
      refine p_iadd 151 c132_150 rfl ?_
      refine p_iconst 153 c132_151 rfl ?_
      refine p_iload 155 c132_153 rfl rfl ?_
      refine p_imul 156 c132_155 rfl ?_
      refine p_iload 158 c132_156 rfl rfl ?_
      refine p_iadd 159 c132_158 rfl ?_
      refine p_iaS 160 c132_159 rfl ka403 (rg_wr _) (wr ((wr (16 * x6)) + x7)) (nar0 (rg_wr _)) (fun hx4262 => ?_)
      have hR4263 := hR4261.up 403 (wr ((wr ((wr (1000 * x5)) + (wr (8 * r4258)))) + 5)).toNat (v := wr ((wr (16 * x6)) + x7)) (nselA (by decide)) (rg_wr _)
      refine p_aload 161 c132_160 rfl rfl ?_
      refine p_getR 164 c132_161 rfl kf376_40 ?_
      refine p_iload 166 c132_164 rfl rfl ?_
      refine p_iconst 168 c132_166 rfl ?_
      refine p_iadd 169 c132_168 rfl ?_
      refine p_iload 171 c132_169 rfl rfl ?_
      refine p_iaS 172 c132_171 rfl ka403 (rg_wr _) x8 (nar0 gx8) (fun hx4264 => ?_)
      have hR4265 := hR4263.up 403 (wr ((wr ((wr (1000 * x5)) + (wr (8 * r4258)))) + 6)).toNat (v := x8) (nselA (by decide)) gx8
      refine p_aload 173 c132_172 rfl rfl ?_
      refine p_getR 176 c132_173 rfl kf376_40 ?_
      refine p_iload 178 c132_176 rfl rfl ?_
      refine p_iconst 180 c132_178 rfl ?_
      refine p_iadd 181 c132_180 rfl ?_
      refine p_iload 183 c132_181 rfl rfl ?_
      refine p_iaS 184 c132_183 rfl ka403 (rg_wr _) x9 (nar0 gx9) (fun hx4266 => ?_)
      have hR4267 := hR4265.up 403 (wr ((wr ((wr (1000 * x5)) + (wr (8 * r4258)))) + 7)).toNat (v := x9) (nselA (by decide)) gx9
      exact p_return c132_184 (Hr _ hX4259 hR4267 _)
    · have hX4268 := hX4247.trans (if_pos (Classical.not_not.mp hb4250))
      exact p_return c132_121 (Hr _ hX4268 hR4249 _)
def F132 (f : Nat) (x1 : Int) (x2 : Int) (x3 : Int) (x4 : Int) (m : yM) : Option yM := (if m 386 (F96 m).toNat = 12 then (some (yup m 376 8 x4)) else (bU (F99 f (yup m 386 (F96 m).toNat (wr ((m 386 (F96 m).toNat) + 1)))) (fun m4228 => (if F117 41 m4228 = 0 then (bI (F130 f m4228) (fun r4274 m4276 => (if m4276 376 8 < 0 then (if F117 44 m4276 = 0 then (J132_105 f x1 x2 x3 (F96 m) (m 386 (F96 m).toNat) 1 r4274 ((-1)) m4276) else (bU (F99 f m4276) (fun m4297 => (bI (F130 f m4297) (fun r4303 m4305 => (J132_105 f x1 x2 x3 (F96 m) (m 386 (F96 m).toNat) 2 r4274 r4303 m4305)))))) else (J132_105 f x1 x2 x3 (F96 m) (m 386 (F96 m).toNat) 1 r4274 ((-1)) m4276)))) else (J132_105 f x1 x2 x3 (F96 m) (m 386 (F96 m).toNat) 0 ((-1)) ((-1)) m4228)))))
set_option maxRecDepth 100000 in
theorem d132 {L : Nat} {xs : Nat → Int32} {k d n : Nat} {c : yS3} {f : Nat} {x1 : Int} {x2 : Int} {x3 : Int} {x4 : Int} {m : yM} (hk : k ≤ f) (gx1 : rg x1) (gx2 : rg x2) (gx3 : rg x3) (gx4 : rg x4) (hR : RM c m) : PC (gZ L xs) k d 132 [.ref 376, yI x1, yI x2, yI x3, yI x4] m n (qV c (F132 f x1 x2 x3 x4 m)) := by
  have hX : F132 f x1 x2 x3 x4 m = F132 f x1 x2 x3 x4 m := rfl
  have Hr : ∀ m', F132 f x1 x2 x3 x4 m = some m' → RM c m' → ∀ n' : Nat, (qV c (F132 f x1 x2 x3 x4 m)) (.inl none) m' n' := fun m' e h n' => ⟨rfl, h, e⟩
  refine PC.mk [some (.ref 376), some (yI x1), some (yI x2), some (yI x3), some (yI x4), none, none, none, none, none, none] kn132 rfl ?_
  refine p_aload 1 c132_0 rfl rfl ?_
  refine p_cX 4 [.ref 376] [] c132_1 rfl rfl rfl (fun k' hk' d' => d96 hR) (fun hg4212 n4211 k4210 hk4210 => ?_)
  refine p_istore 6 c132_4 rfl rfl ?_
  refine p_aload 7 c132_6 rfl rfl ?_
  refine p_getR 10 c132_7 rfl kf376_23 ?_
  refine p_iload 12 c132_10 rfl rfl ?_
  refine p_iaX 13 (m 386 (F96 m).toNat) c132_12 rfl ka386 hg4212 rfl (fun hx4213 => ?_)
  refine p_iconst 15 c132_13 rfl ?_
  refine p_icmp 25 18 c132_15 rfl rfl (yc_ne (hR.rg _ _) (rgD rfl)) (fun hb4214 k4215 hk4215 => ?_) (fun hb4214 k4216 hk4216 => ?_)
  · have hX4217 := hX.trans (if_neg hb4214)
    refine p_aload 26 c132_25 rfl rfl ?_
    refine p_getR 29 c132_26 rfl kf376_23 ?_
    refine p_iload 31 c132_29 rfl rfl ?_
    refine p_iaX 32 (m 386 (F96 m).toNat) c132_31 rfl ka386 hg4212 rfl (fun hx4218 => ?_)
    refine p_istore 34 c132_32 rfl rfl ?_
    refine p_aload 35 c132_34 rfl rfl ?_
    refine p_getR 38 c132_35 rfl kf376_23 ?_
    refine p_iload 40 c132_38 rfl rfl ?_
    refine p_dup2 41 c132_40 rfl ⟨rfl, rfl⟩ ?_
    refine p_iaX 42 (m 386 (F96 m).toNat) c132_41 rfl ka386 hg4212 rfl (fun hx4219 => ?_)
    refine p_iconst 43 c132_42 rfl ?_
    refine p_iadd 44 c132_43 rfl ?_
    refine p_iaS 45 c132_44 rfl ka386 hg4212 (wr ((m 386 (F96 m).toNat) + 1)) (nar0 (rg_wr _)) (fun hx4220 => ?_)
    have hR4221 := hR.up 386 (F96 m).toNat (v := wr ((m 386 (F96 m).toNat) + 1)) (nselA (by decide)) (rg_wr _)
    refine p_aload 46 c132_45 rfl rfl ?_
    refine p_cV 49 [.ref 376] [] c132_46 rfl rfl rfl (fun k' hk' d' => d99 (f := f) (by omega) hR4221) (fun m4228 hF4224 hR4229 n4223 k4222 hk4222 => ?_)
    have hX4227 := hX4217.trans (bU_s hF4224)
    refine p_iconst 50 c132_49 rfl ?_
    refine p_istore 52 c132_50 rfl rfl ?_
    refine p_iconst 53 c132_52 rfl ?_
    refine p_istore 55 c132_53 rfl rfl ?_
    refine p_iconst 56 c132_55 rfl ?_
    refine p_istore 58 c132_56 rfl rfl ?_
    refine p_aload 59 c132_58 rfl rfl ?_
    refine p_iconst 61 c132_59 rfl ?_
    refine p_cX 64 [.ref 376, yI 41] [] c132_61 rfl rfl rfl (fun k' hk' d' => d117 (rgD rfl) hR4229) (fun hg4232 n4231 k4230 hk4230 => ?_)
    refine p_if 105 67 c132_64 rfl rfl (yz_ne hg4232) (fun hb4233 k4234 hk4234 => ?_) (fun hb4233 k4235 hk4235 => ?_)
    · have hX4236 := hX4227.trans (if_neg hb4233)
      exact tJ132_105 (f := f) (by omega) gx1 gx2 gx3 hg4212 (hR.rg _ _) (rgD rfl) (rgD rfl) (rgD rfl) hR4229 (fun m' e' => Hr m' (hX4236.trans e'))
    · have hX4269 := hX4227.trans (if_pos (Classical.not_not.mp hb4233))
      refine p_aload 68 c132_67 rfl rfl ?_
      refine p_cS 71 [.ref 376] [] c132_68 rfl rfl rfl (fun k' hk' d' => d130 (f := f) (by omega) hR4229) (fun r4274 m4276 hF4272 hg4273 hR4277 n4271 k4270 hk4270 => ?_)
      have hX4275 := hX4269.trans (bI_s hF4272)
      refine p_istore 73 c132_71 rfl rfl ?_
      refine p_iconst 74 c132_73 rfl ?_
      refine p_istore 76 c132_74 rfl rfl ?_
      refine p_aload 77 c132_76 rfl rfl ?_
      refine p_getX 80 (m4276 376 8) c132_77 rfl kf376_8 rfl ?_
      refine p_if 105 83 c132_80 rfl rfl ((yz_ge (hR4277.rg _ _)).trans Int.not_lt.symm) (fun hb4278 k4279 hk4279 => ?_) (fun hb4278 k4280 hk4280 => ?_)
      · have hX4281 := hX4275.trans (if_neg hb4278)
        exact tJ132_105 (f := f) (by omega) gx1 gx2 gx3 hg4212 (hR.rg _ _) (rgD rfl) hg4273 (rgD rfl) hR4277 (fun m' e' => Hr m' (hX4281.trans e'))
      · have hX4282 := hX4275.trans (if_pos (Classical.not_not.mp hb4278))
        refine p_aload 84 c132_83 rfl rfl ?_
        refine p_iconst 86 c132_84 rfl ?_
        refine p_cX 89 [.ref 376, yI 44] [] c132_86 rfl rfl rfl (fun k' hk' d' => d117 (rgD rfl) hR4277) (fun hg4285 n4284 k4283 hk4283 => ?_)
        refine p_if 105 92 c132_89 rfl rfl (yz_eq hg4285) (fun hb4286 k4287 hk4287 => ?_) (fun hb4286 k4288 hk4288 => ?_)
        · have hX4289 := hX4282.trans (if_pos hb4286)
          exact tJ132_105 (f := f) (by omega) gx1 gx2 gx3 hg4212 (hR.rg _ _) (rgD rfl) hg4273 (rgD rfl) hR4277 (fun m' e' => Hr m' (hX4289.trans e'))
        · have hX4290 := hX4282.trans (if_neg hb4286)
          refine p_aload 93 c132_92 rfl rfl ?_
          refine p_cV 96 [.ref 376] [] c132_93 rfl rfl rfl (fun k' hk' d' => d99 (f := f) (by omega) hR4277) (fun m4297 hF4293 hR4298 n4292 k4291 hk4291 => ?_)
          have hX4296 := hX4290.trans (bU_s hF4293)
          refine p_aload 97 c132_96 rfl rfl ?_
          refine p_cS 100 [.ref 376] [] c132_97 rfl rfl rfl (fun k' hk' d' => d130 (f := f) (by omega) hR4298) (fun r4303 m4305 hF4301 hg4302 hR4306 n4300 k4299 hk4299 => ?_)
          have hX4304 := hX4296.trans (bI_s hF4301)
          refine p_istore 102 c132_100 rfl rfl ?_
          refine p_iconst 103 c132_102 rfl ?_
          refine p_istore 105 c132_103 rfl rfl ?_
          exact tJ132_105 (f := f) (by omega) gx1 gx2 gx3 hg4212 (hR.rg _ _) (rgD rfl) hg4273 hg4302 hR4306 (fun m' e' => Hr m' (hX4304.trans e'))
  · have hX4307 := hX.trans (if_pos (Classical.not_not.mp hb4214))
    refine p_aload 19 c132_18 rfl rfl ?_
    refine p_iload 21 c132_19 rfl rfl ?_
    refine p_putI 24 c132_21 rfl kf376_8 ?_
    have hR4308 := hR.up 376 8 (v := x4) (nselD rfl) gx4
    exact p_return c132_24 (Hr _ hX4307 hR4308 _)
def F134 (f : Nat) (x1 : Int) (m : yM) : Option yM := (some (yup (yup (yup m 381 (m 376 17).toNat (m 376 4)) 382 (m 376 17).toNat (m 376 5)) 376 17 (wr ((m 376 17) + 1))))
set_option maxRecDepth 100000 in
theorem d134 {L : Nat} {xs : Nat → Int32} {k d n : Nat} {c : yS3} {f : Nat} {x1 : Int} {m : yM} (hk : k ≤ f) (gx1 : rg x1) (hR : RM c m) : PC (gZ L xs) k d 134 [.ref 376, yI x1] m n (qV c (F134 f x1 m)) := by
  have hX : F134 f x1 m = F134 f x1 m := rfl
  have Hr : ∀ m', F134 f x1 m = some m' → RM c m' → ∀ n' : Nat, (qV c (F134 f x1 m)) (.inl none) m' n' := fun m' e h n' => ⟨rfl, h, e⟩
  refine PC.mk [some (.ref 376), some (yI x1)] kn134 rfl ?_
  refine p_aload 1 c134_0 rfl rfl ?_
  refine p_getR 4 c134_1 rfl kf376_15 ?_
  refine p_aload 5 c134_4 rfl rfl ?_
  refine p_getX 8 (m 376 17) c134_5 rfl kf376_17 rfl ?_
  refine p_aload 9 c134_8 rfl rfl ?_
  refine p_getX 12 (m 376 4) c134_9 rfl kf376_4 rfl ?_
  refine p_iaS 13 c134_12 rfl ka381 (hR.rg _ _) (m 376 4) (nar0 (hR.rg _ _)) (fun hx4358 => ?_)
  have hR4359 := hR.up 381 (m 376 17).toNat (v := m 376 4) (nselA (by decide)) (hR.rg _ _)
  refine p_aload 14 c134_13 rfl rfl ?_
  refine p_getR 17 c134_14 rfl kf376_16 ?_
  refine p_aload 18 c134_17 rfl rfl ?_
  refine p_getX 21 (m 376 17) c134_18 rfl kf376_17 (yup_na (by decide)) ?_
  refine p_aload 22 c134_21 rfl rfl ?_
  refine p_getX 25 (m 376 5) c134_22 rfl kf376_5 (yup_na (by decide)) ?_
  refine p_iaS 26 c134_25 rfl ka382 (hR.rg _ _) (m 376 5) (nar0 (hR.rg _ _)) (fun hx4360 => ?_)
  have hR4361 := hR4359.up 382 (m 376 17).toNat (v := m 376 5) (nselA (by decide)) (hR.rg _ _)
  refine p_aload 27 c134_26 rfl rfl ?_
  refine p_dup 28 c134_27 rfl rfl ?_
  refine p_getX 31 (m 376 17) c134_28 rfl kf376_17 ((yup_na (by decide)).trans (yup_na (by decide))) ?_
  refine p_iconst 32 c134_31 rfl ?_
  refine p_iadd 33 c134_32 rfl ?_
  refine p_putI 36 c134_33 rfl kf376_17 ?_
  have hR4362 := hR4361.up 376 17 (v := wr ((m 376 17) + 1)) (nselD rfl) (rg_wr _)
  exact p_return c134_36 (Hr _ hX hR4362 _)
def J136_22 (f : Nat) (x1 : Int) (x2 : Int) (xs1 : Int) (m : yM) : Option yM := (bI (F105 f xs1 m) (fun r4341 m4343 => (if r4341 = 0 then (some m4343) else (if F115 m4343 = 0 then (bU (F104 f m4343) (fun m4426 => (some m4426))) else (bU (F134 f 1 m4343) (fun m4367 => (bU (F99 f (yup (yup m4367 402 (wr ((wr (8 * x2)) + (m4367 387 x2.toNat))).toNat (m4367 376 4)) 387 x2.toNat (wr ((m4367 387 x2.toNat) + 1)))) (fun m4381 => (bI (F118 f 41 m4381) (fun r4387 m4389 => (if r4387 = 0 then (some m4389) else (bI (F130 f m4389) (fun r4399 m4401 => (if m4401 376 8 < 0 then (bI (F127 f 3 x1 r4399 (m4367 387 x2.toNat) (yup m4401 401 (wr ((wr (8 * x2)) + (m4367 387 x2.toNat))).toNat r4399)) (fun r4414 m4416 => (some m4416))) else (some (yup m4401 401 (wr ((wr (8 * x2)) + (m4367 387 x2.toNat))).toNat r4399))))))))))))))))
set_option maxRecDepth 100000 in
theorem tJ136_22 {L : Nat} {xs : Nat → Int32} {Q : xO → yM → Nat → Prop} {k d n : Nat} {c : yS3} {f : Nat} {x1 : Int} {x2 : Int} {xs1 : Int} {m : yM} {j3 j4 : Option Value} (hk : k ≤ f) (gx1 : rg x1) (gx2 : rg x2) (gxs1 : rg xs1) (hR : RM c m) (Hr : ∀ m', J136_22 f x1 x2 xs1 m = some m' → RM c m' → ∀ n', Q (.inl none) m' n') : PW (gZ L xs) k 136 d 22 [some (.ref 376), some (yI x1), some (yI x2), j3, j4] [yI xs1, .ref 376] m n Q := by
  have hX : J136_22 f x1 x2 xs1 m = J136_22 f x1 x2 xs1 m := rfl
  refine p_cS 25 [.ref 376, yI xs1] [] c136_22 rfl rfl rfl (fun k' hk' d' => d105 (f := f) (by omega) gxs1 hR) (fun r4341 m4343 hF4339 hg4340 hR4344 n4338 k4337 hk4337 => ?_)
  have hX4342 := hX.trans (bI_s hF4339)
  refine p_if 29 28 c136_25 rfl rfl (yz_ne hg4340) (fun hb4345 k4346 hk4346 => ?_) (fun hb4345 k4347 hk4347 => ?_)
  · have hX4348 := hX4342.trans (if_neg hb4345)
    refine p_aload 30 c136_29 rfl rfl ?_
    refine p_cX 33 [.ref 376] [] c136_30 rfl rfl rfl (fun k' hk' d' => d115 hR4344) (fun hg4351 n4350 k4349 hk4349 => ?_)
    refine p_if 41 36 c136_33 rfl rfl (yz_ne hg4351) (fun hb4352 k4353 hk4353 => ?_) (fun hb4352 k4354 hk4354 => ?_)
    · have hX4355 := hX4348.trans (if_neg hb4352)
      refine p_aload 42 c136_41 rfl rfl ?_
      refine p_iconst 43 c136_42 rfl ?_
      refine p_cV 46 [.ref 376, yI 1] [] c136_43 rfl rfl rfl (fun k' hk' d' => d134 (f := f) (by omega) (rgD rfl) hR4344) (fun m4367 hF4363 hR4368 n4357 k4356 hk4356 => ?_)
      have hX4366 := hX4355.trans (bU_s hF4363)
      refine p_aload 47 c136_46 rfl rfl ?_
      refine p_getR 50 c136_47 rfl kf376_24 ?_
      refine p_iload 51 c136_50 rfl rfl ?_
      refine p_iaX 52 (m4367 387 x2.toNat) c136_51 rfl ka387 gx2 rfl (fun hx4369 => ?_)
      refine p_istore 53 c136_52 rfl rfl ?_
      refine p_aload 54 c136_53 rfl rfl ?_
      refine p_getR 57 c136_54 rfl kf376_39 ?_
      refine p_iconst 59 c136_57 rfl ?_
      refine p_iload 60 c136_59 rfl rfl ?_
      refine p_imul 61 c136_60 rfl ?_
      refine p_iload 62 c136_61 rfl rfl ?_
      refine p_iadd 63 c136_62 rfl ?_
      refine p_aload 64 c136_63 rfl rfl ?_
      refine p_getX 67 (m4367 376 4) c136_64 rfl kf376_4 rfl ?_
      refine p_iaS 68 c136_67 rfl ka402 (rg_wr _) (m4367 376 4) (nar0 (hR4368.rg _ _)) (fun hx4370 => ?_)
      have hR4371 := hR4368.up 402 (wr ((wr (8 * x2)) + (m4367 387 x2.toNat))).toNat (v := m4367 376 4) (nselA (by decide)) (hR4368.rg _ _)
      refine p_aload 69 c136_68 rfl rfl ?_
      refine p_getR 72 c136_69 rfl kf376_24 ?_
      refine p_iload 73 c136_72 rfl rfl ?_
      refine p_dup2 74 c136_73 rfl ⟨rfl, rfl⟩ ?_
      refine p_iaX 75 (m4367 387 x2.toNat) c136_74 rfl ka387 gx2 (yup_na (by decide)) (fun hx4372 => ?_)
      refine p_iconst 76 c136_75 rfl ?_
      refine p_iadd 77 c136_76 rfl ?_
      refine p_iaS 78 c136_77 rfl ka387 gx2 (wr ((m4367 387 x2.toNat) + 1)) (nar0 (rg_wr _)) (fun hx4373 => ?_)
      have hR4374 := hR4371.up 387 x2.toNat (v := wr ((m4367 387 x2.toNat) + 1)) (nselA (by decide)) (rg_wr _)
      refine p_aload 79 c136_78 rfl rfl ?_
      refine p_cV 82 [.ref 376] [] c136_79 rfl rfl rfl (fun k' hk' d' => d99 (f := f) (by omega) hR4374) (fun m4381 hF4377 hR4382 n4376 k4375 hk4375 => ?_)
      have hX4380 := hX4366.trans (bU_s hF4377)
      refine p_aload 83 c136_82 rfl rfl ?_
      refine p_iconst 85 c136_83 rfl ?_
      refine p_cS 88 [.ref 376, yI 41] [] c136_85 rfl rfl rfl (fun k' hk' d' => d118 (f := f) (by omega) (rgD rfl) hR4382) (fun r4387 m4389 hF4385 hg4386 hR4390 n4384 k4383 hk4383 => ?_)
      have hX4388 := hX4380.trans (bI_s hF4385)
      refine p_if 92 91 c136_88 rfl rfl (yz_ne hg4386) (fun hb4391 k4392 hk4392 => ?_) (fun hb4391 k4393 hk4393 => ?_)
      · have hX4394 := hX4388.trans (if_neg hb4391)
        refine p_aload 93 c136_92 rfl rfl ?_
        refine p_cS 96 [.ref 376] [] c136_93 rfl rfl rfl (fun k' hk' d' => d130 (f := f) (by omega) hR4390) (fun r4399 m4401 hF4397 hg4398 hR4402 n4396 k4395 hk4395 => ?_)
        have hX4400 := hX4394.trans (bI_s hF4397)
        refine p_istore 98 c136_96 rfl rfl ?_
        refine p_aload 99 c136_98 rfl rfl ?_
        refine p_getR 102 c136_99 rfl kf376_38 ?_
        refine p_iconst 104 c136_102 rfl ?_
        refine p_iload 105 c136_104 rfl rfl ?_
        refine p_imul 106 c136_105 rfl ?_
        refine p_iload 107 c136_106 rfl rfl ?_
        refine p_iadd 108 c136_107 rfl ?_
        refine p_iload 110 c136_108 rfl rfl ?_
        refine p_iaS 111 c136_110 rfl ka401 (rg_wr _) r4399 (nar0 hg4398) (fun hx4403 => ?_)
        have hR4404 := hR4402.up 401 (wr ((wr (8 * x2)) + (m4367 387 x2.toNat))).toNat (v := r4399) (nselA (by decide)) hg4398
        refine p_aload 112 c136_111 rfl rfl ?_
        refine p_getX 115 (m4401 376 8) c136_112 rfl kf376_8 (yup_na (by decide)) ?_
        refine p_if 129 118 c136_115 rfl rfl ((yz_ge (hR4402.rg _ _)).trans Int.not_lt.symm) (fun hb4405 k4406 hk4406 => ?_) (fun hb4405 k4407 hk4407 => ?_)
        · have hX4408 := hX4400.trans (if_neg hb4405)
          exact p_return c136_129 (Hr _ hX4408 hR4404 _)
        · have hX4409 := hX4400.trans (if_pos (Classical.not_not.mp hb4405))
          refine p_aload 119 c136_118 rfl rfl ?_
          refine p_iconst 120 c136_119 rfl ?_
          refine p_iload 121 c136_120 rfl rfl ?_
          refine p_iload 123 c136_121 rfl rfl ?_
          refine p_iload 124 c136_123 rfl rfl ?_
          refine p_cS 127 [.ref 376, yI 3, yI x1, yI r4399, yI (m4367 387 x2.toNat)] [] c136_124 rfl rfl rfl (fun k' hk' d' => d127 (f := f) (by omega) (rgD rfl) gx1 hg4398 (hR4368.rg _ _) hR4404) (fun r4414 m4416 hF4412 hg4413 hR4417 n4411 k4410 hk4410 => ?_)
          have hX4415 := hX4409.trans (bI_s hF4412)
          refine p_istore 129 c136_127 rfl rfl ?_
          exact p_return c136_129 (Hr _ hX4415 hR4417 _)
      · have hX4418 := hX4388.trans (if_pos (Classical.not_not.mp hb4391))
        exact p_return c136_91 (Hr _ hX4418 hR4390 _)
    · have hX4419 := hX4348.trans (if_pos (Classical.not_not.mp hb4352))
      refine p_aload 37 c136_36 rfl rfl ?_
      refine p_cV 40 [.ref 376] [] c136_37 rfl rfl rfl (fun k' hk' d' => d104 (f := f) (by omega) hR4344) (fun m4426 hF4422 hR4427 n4421 k4420 hk4420 => ?_)
      have hX4425 := hX4419.trans (bU_s hF4422)
      exact p_return c136_40 (Hr _ hX4425 hR4427 _)
  · have hX4428 := hX4342.trans (if_pos (Classical.not_not.mp hb4345))
    exact p_return c136_28 (Hr _ hX4428 hR4344 _)
def F136 (f : Nat) (x1 : Int) (m : yM) : Option yM := (if m 387 (F96 m).toNat < 8 then (J136_22 f x1 (F96 m) 1 m) else (J136_22 f x1 (F96 m) 0 m))
set_option maxRecDepth 100000 in
theorem d136 {L : Nat} {xs : Nat → Int32} {k d n : Nat} {c : yS3} {f : Nat} {x1 : Int} {m : yM} (hk : k ≤ f) (gx1 : rg x1) (hR : RM c m) : PC (gZ L xs) k d 136 [.ref 376, yI x1] m n (qV c (F136 f x1 m)) := by
  have hX : F136 f x1 m = F136 f x1 m := rfl
  have Hr : ∀ m', F136 f x1 m = some m' → RM c m' → ∀ n' : Nat, (qV c (F136 f x1 m)) (.inl none) m' n' := fun m' e h n' => ⟨rfl, h, e⟩
  refine PC.mk [some (.ref 376), some (yI x1), none, none, none] kn136 rfl ?_
  refine p_aload 1 c136_0 rfl rfl ?_
  refine p_cX 4 [.ref 376] [] c136_1 rfl rfl rfl (fun k' hk' d' => d96 hR) (fun hg4331 n4330 k4329 hk4329 => ?_)
  refine p_istore 5 c136_4 rfl rfl ?_
  refine p_aload 6 c136_5 rfl rfl ?_
  refine p_aload 7 c136_6 rfl rfl ?_
  refine p_getR 10 c136_7 rfl kf376_24 ?_
  refine p_iload 11 c136_10 rfl rfl ?_
  refine p_iaX 12 (m 387 (F96 m).toNat) c136_11 rfl ka387 hg4331 rfl (fun hx4332 => ?_)
  refine p_iconst 14 c136_12 rfl ?_
  refine p_icmp 21 17 c136_14 rfl rfl ((yc_ge (hR.rg _ _) (rgD rfl)).trans Int.not_lt.symm) (fun hb4333 k4334 hk4334 => ?_) (fun hb4333 k4335 hk4335 => ?_)
  · have hX4336 := hX.trans (if_neg hb4333)
    refine p_iconst 22 c136_21 rfl ?_
    exact tJ136_22 (f := f) (by omega) gx1 hg4331 (rgD rfl) hR (fun m' e' => Hr m' (hX4336.trans e'))
  · have hX4429 := hX.trans (if_pos (Classical.not_not.mp hb4333))
    refine p_iconst 18 c136_17 rfl ?_
    refine p_goto 22 c136_18 rfl ?_
    exact tJ136_22 (f := f) (by omega) gx1 hg4331 (rgD rfl) hR (fun m' e' => Hr m' (hX4429.trans e'))
def J135_22 (f : Nat) (x1 : Int) (x2 : Int) (xs1 : Int) (m : yM) : Option yM := (bI (F105 f xs1 m) (fun r4468 m4470 => (if r4468 = 0 then (some m4470) else (if F115 m4470 = 0 then (bU (F104 f m4470) (fun m4521 => (some m4521))) else (bU (F134 f 0 m4470) (fun m4489 => (bI (F127 f 1 x1 (m4489 388 x2.toNat) 0 (yup m4489 400 (wr ((wr (12 * x2)) + (m4489 388 x2.toNat))).toNat (m4489 376 4))) (fun r4499 m4501 => (bU (F99 f (yup m4501 388 x2.toNat (wr ((m4501 388 x2.toNat) + 1)))) (fun m4512 => (some m4512)))))))))))
set_option maxRecDepth 100000 in
theorem tJ135_22 {L : Nat} {xs : Nat → Int32} {Q : xO → yM → Nat → Prop} {k d n : Nat} {c : yS3} {f : Nat} {x1 : Int} {x2 : Int} {xs1 : Int} {m : yM} {j3 : Option Value} (hk : k ≤ f) (gx1 : rg x1) (gx2 : rg x2) (gxs1 : rg xs1) (hR : RM c m) (Hr : ∀ m', J135_22 f x1 x2 xs1 m = some m' → RM c m' → ∀ n', Q (.inl none) m' n') : PW (gZ L xs) k 135 d 22 [some (.ref 376), some (yI x1), some (yI x2), j3] [yI xs1, .ref 376] m n Q := by
  have hX : J135_22 f x1 x2 xs1 m = J135_22 f x1 x2 xs1 m := rfl
  refine p_cS 25 [.ref 376, yI xs1] [] c135_22 rfl rfl rfl (fun k' hk' d' => d105 (f := f) (by omega) gxs1 hR) (fun r4468 m4470 hF4466 hg4467 hR4471 n4465 k4464 hk4464 => ?_)
  have hX4469 := hX.trans (bI_s hF4466)
  refine p_if 29 28 c135_25 rfl rfl (yz_ne hg4467) (fun hb4472 k4473 hk4473 => ?_) (fun hb4472 k4474 hk4474 => ?_)
  · have hX4475 := hX4469.trans (if_neg hb4472)
    refine p_aload 30 c135_29 rfl rfl ?_
    refine p_cX 33 [.ref 376] [] c135_30 rfl rfl rfl (fun k' hk' d' => d115 hR4471) (fun hg4478 n4477 k4476 hk4476 => ?_)
    refine p_if 41 36 c135_33 rfl rfl (yz_ne hg4478) (fun hb4479 k4480 hk4480 => ?_) (fun hb4479 k4481 hk4481 => ?_)
    · have hX4482 := hX4475.trans (if_neg hb4479)
      refine p_aload 42 c135_41 rfl rfl ?_
      refine p_iconst 43 c135_42 rfl ?_
      refine p_cV 46 [.ref 376, yI 0] [] c135_43 rfl rfl rfl (fun k' hk' d' => d134 (f := f) (by omega) (rgD rfl) hR4471) (fun m4489 hF4485 hR4490 n4484 k4483 hk4483 => ?_)
      have hX4488 := hX4482.trans (bU_s hF4485)
      refine p_aload 47 c135_46 rfl rfl ?_
      refine p_getR 50 c135_47 rfl kf376_37 ?_
      refine p_iconst 52 c135_50 rfl ?_
      refine p_iload 53 c135_52 rfl rfl ?_
      refine p_imul 54 c135_53 rfl ?_
      refine p_aload 55 c135_54 rfl rfl ?_
      refine p_getR 58 c135_55 rfl kf376_25 ?_
      refine p_iload 59 c135_58 rfl rfl ?_
      refine p_iaX 60 (m4489 388 x2.toNat) c135_59 rfl ka388 gx2 rfl (fun hx4491 => ?_)
      refine p_iadd 61 c135_60 rfl ?_
      refine p_aload 62 c135_61 rfl rfl ?_
      refine p_getX 65 (m4489 376 4) c135_62 rfl kf376_4 rfl ?_
      refine p_iaS 66 c135_65 rfl ka400 (rg_wr _) (m4489 376 4) (nar0 (hR4490.rg _ _)) (fun hx4492 => ?_)
      have hR4493 := hR4490.up 400 (wr ((wr (12 * x2)) + (m4489 388 x2.toNat))).toNat (v := m4489 376 4) (nselA (by decide)) (hR4490.rg _ _)
      refine p_aload 67 c135_66 rfl rfl ?_
      refine p_iconst 68 c135_67 rfl ?_
      refine p_iload 69 c135_68 rfl rfl ?_
      refine p_aload 70 c135_69 rfl rfl ?_
      refine p_getR 73 c135_70 rfl kf376_25 ?_
      refine p_iload 74 c135_73 rfl rfl ?_
      refine p_iaX 75 (m4489 388 x2.toNat) c135_74 rfl ka388 gx2 (yup_na (by decide)) (fun hx4494 => ?_)
      refine p_iconst 76 c135_75 rfl ?_
      refine p_cS 79 [.ref 376, yI 1, yI x1, yI (m4489 388 x2.toNat), yI 0] [] c135_76 rfl rfl rfl (fun k' hk' d' => d127 (f := f) (by omega) (rgD rfl) gx1 (hR4490.rg _ _) (rgD rfl) hR4493) (fun r4499 m4501 hF4497 hg4498 hR4502 n4496 k4495 hk4495 => ?_)
      have hX4500 := hX4488.trans (bI_s hF4497)
      refine p_istore 80 c135_79 rfl rfl ?_
      refine p_aload 81 c135_80 rfl rfl ?_
      refine p_getR 84 c135_81 rfl kf376_25 ?_
      refine p_iload 85 c135_84 rfl rfl ?_
      refine p_dup2 86 c135_85 rfl ⟨rfl, rfl⟩ ?_
      refine p_iaX 87 (m4501 388 x2.toNat) c135_86 rfl ka388 gx2 rfl (fun hx4503 => ?_)
      refine p_iconst 88 c135_87 rfl ?_
      refine p_iadd 89 c135_88 rfl ?_
      refine p_iaS 90 c135_89 rfl ka388 gx2 (wr ((m4501 388 x2.toNat) + 1)) (nar0 (rg_wr _)) (fun hx4504 => ?_)
      have hR4505 := hR4502.up 388 x2.toNat (v := wr ((m4501 388 x2.toNat) + 1)) (nselA (by decide)) (rg_wr _)
      refine p_aload 91 c135_90 rfl rfl ?_
      refine p_cV 94 [.ref 376] [] c135_91 rfl rfl rfl (fun k' hk' d' => d99 (f := f) (by omega) hR4505) (fun m4512 hF4508 hR4513 n4507 k4506 hk4506 => ?_)
      have hX4511 := hX4500.trans (bU_s hF4508)
      exact p_return c135_94 (Hr _ hX4511 hR4513 _)
    · have hX4514 := hX4475.trans (if_pos (Classical.not_not.mp hb4479))
      refine p_aload 37 c135_36 rfl rfl ?_
      refine p_cV 40 [.ref 376] [] c135_37 rfl rfl rfl (fun k' hk' d' => d104 (f := f) (by omega) hR4471) (fun m4521 hF4517 hR4522 n4516 k4515 hk4515 => ?_)
      have hX4520 := hX4514.trans (bU_s hF4517)
      exact p_return c135_40 (Hr _ hX4520 hR4522 _)
  · have hX4523 := hX4469.trans (if_pos (Classical.not_not.mp hb4472))
    exact p_return c135_28 (Hr _ hX4523 hR4471 _)
def F135 (f : Nat) (x1 : Int) (m : yM) : Option yM := (if m 388 (F96 m).toNat < 12 then (J135_22 f x1 (F96 m) 1 m) else (J135_22 f x1 (F96 m) 0 m))
set_option maxRecDepth 100000 in
theorem d135 {L : Nat} {xs : Nat → Int32} {k d n : Nat} {c : yS3} {f : Nat} {x1 : Int} {m : yM} (hk : k ≤ f) (gx1 : rg x1) (hR : RM c m) : PC (gZ L xs) k d 135 [.ref 376, yI x1] m n (qV c (F135 f x1 m)) := by
  have hX : F135 f x1 m = F135 f x1 m := rfl
  have Hr : ∀ m', F135 f x1 m = some m' → RM c m' → ∀ n' : Nat, (qV c (F135 f x1 m)) (.inl none) m' n' := fun m' e h n' => ⟨rfl, h, e⟩
  refine PC.mk [some (.ref 376), some (yI x1), none, none] kn135 rfl ?_
  refine p_aload 1 c135_0 rfl rfl ?_
  refine p_cX 4 [.ref 376] [] c135_1 rfl rfl rfl (fun k' hk' d' => d96 hR) (fun hg4458 n4457 k4456 hk4456 => ?_)
  refine p_istore 5 c135_4 rfl rfl ?_
  refine p_aload 6 c135_5 rfl rfl ?_
  refine p_aload 7 c135_6 rfl rfl ?_
  refine p_getR 10 c135_7 rfl kf376_25 ?_
  refine p_iload 11 c135_10 rfl rfl ?_
  refine p_iaX 12 (m 388 (F96 m).toNat) c135_11 rfl ka388 hg4458 rfl (fun hx4459 => ?_)
  refine p_iconst 14 c135_12 rfl ?_
  refine p_icmp 21 17 c135_14 rfl rfl ((yc_ge (hR.rg _ _) (rgD rfl)).trans Int.not_lt.symm) (fun hb4460 k4461 hk4461 => ?_) (fun hb4460 k4462 hk4462 => ?_)
  · have hX4463 := hX.trans (if_neg hb4460)
    refine p_iconst 22 c135_21 rfl ?_
    exact tJ135_22 (f := f) (by omega) gx1 hg4458 (rgD rfl) hR (fun m' e' => Hr m' (hX4463.trans e'))
  · have hX4524 := hX.trans (if_pos (Classical.not_not.mp hb4460))
    refine p_iconst 18 c135_17 rfl ?_
    refine p_goto 22 c135_18 rfl ?_
    exact tJ135_22 (f := f) (by omega) gx1 hg4458 (rgD rfl) hR (fun m' e' => Hr m' (hX4524.trans e'))
def F137 (f : Nat) (x1 : Int) (m : yM) : Option yM := (if F108 m = 0 then (if F109 m = 0 then (if F117 40 m = 0 then (bI (F130 f m) (fun r4154 m4156 => (if m4156 376 8 < 0 then (if F117 46 m4156 = 0 then (bI (F127 f 2 x1 r4154 0 m4156) (fun r4321 m4323 => (some m4323))) else (bU (F99 f m4156) (fun m4175 => (bI (F105 f (F115 m4175) m4175) (fun r4184 m4186 => (if r4184 = 0 then (some m4186) else (if F117 40 m4186 = 0 then (bI (F127 f 4 x1 r4154 (m4175 376 4) m4186) (fun r4203 m4205 => (some m4205))) else (bU (F132 f x1 r4154 (m4175 376 4) (m4175 376 5) m4186) (fun m4313 => (some m4313)))))))))) else (some m4156)))) else (bU (F136 f x1 m) (fun m4434 => (some m4434)))) else (bU (F99 f m) (fun m4443 => (bI (F127 f 8 x1 0 0 m4443) (fun r4449 m4451 => (some m4451)))))) else (bU (F135 f x1 m) (fun m4529 => (some m4529))))
set_option maxRecDepth 100000 in
theorem d137 {L : Nat} {xs : Nat → Int32} {k d n : Nat} {c : yS3} {f : Nat} {x1 : Int} {m : yM} (hk : k ≤ f) (gx1 : rg x1) (hR : RM c m) : PC (gZ L xs) k d 137 [.ref 376, yI x1] m n (qV c (F137 f x1 m)) := by
  have hX : F137 f x1 m = F137 f x1 m := rfl
  have Hr : ∀ m', F137 f x1 m = some m' → RM c m' → ∀ n' : Nat, (qV c (F137 f x1 m)) (.inl none) m' n' := fun m' e h n' => ⟨rfl, h, e⟩
  refine PC.mk [some (.ref 376), some (yI x1), none, none, none] kn137 rfl ?_
  refine p_aload 1 c137_0 rfl rfl ?_
  refine p_cX 4 [.ref 376] [] c137_1 rfl rfl rfl (fun k' hk' d' => d108 hR) (fun hg4131 n4130 k4129 hk4129 => ?_)
  refine p_if 15 7 c137_4 rfl rfl (yz_eq hg4131) (fun hb4132 k4133 hk4133 => ?_) (fun hb4132 k4134 hk4134 => ?_)
  · have hX4135 := hX.trans (if_pos hb4132)
    refine p_aload 16 c137_15 rfl rfl ?_
    refine p_cX 19 [.ref 376] [] c137_16 rfl rfl rfl (fun k' hk' d' => d109 hR) (fun hg4138 n4137 k4136 hk4136 => ?_)
    refine p_if 39 22 c137_19 rfl rfl (yz_eq hg4138) (fun hb4139 k4140 hk4140 => ?_) (fun hb4139 k4141 hk4141 => ?_)
    · have hX4142 := hX4135.trans (if_pos hb4139)
      refine p_aload 40 c137_39 rfl rfl ?_
      refine p_iconst 42 c137_40 rfl ?_
      refine p_cX 45 [.ref 376, yI 40] [] c137_42 rfl rfl rfl (fun k' hk' d' => d117 (rgD rfl) hR) (fun hg4145 n4144 k4143 hk4143 => ?_)
      refine p_if 56 48 c137_45 rfl rfl (yz_eq hg4145) (fun hb4146 k4147 hk4147 => ?_) (fun hb4146 k4148 hk4148 => ?_)
      · have hX4149 := hX4142.trans (if_pos hb4146)
        refine p_aload 57 c137_56 rfl rfl ?_
        refine p_cS 60 [.ref 376] [] c137_57 rfl rfl rfl (fun k' hk' d' => d130 (f := f) (by omega) hR) (fun r4154 m4156 hF4152 hg4153 hR4157 n4151 k4150 hk4150 => ?_)
        have hX4155 := hX4149.trans (bI_s hF4152)
        refine p_istore 61 c137_60 rfl rfl ?_
        refine p_aload 62 c137_61 rfl rfl ?_
        refine p_getX 65 (m4156 376 8) c137_62 rfl kf376_8 rfl ?_
        refine p_if 69 68 c137_65 rfl rfl (yz_lt (hR4157.rg _ _)) (fun hb4158 k4159 hk4159 => ?_) (fun hb4158 k4160 hk4160 => ?_)
        · have hX4161 := hX4155.trans (if_pos hb4158)
          refine p_aload 70 c137_69 rfl rfl ?_
          refine p_iconst 72 c137_70 rfl ?_
          refine p_cX 75 [.ref 376, yI 46] [] c137_72 rfl rfl rfl (fun k' hk' d' => d117 (rgD rfl) hR4157) (fun hg4164 n4163 k4162 hk4162 => ?_)
          refine p_if 88 78 c137_75 rfl rfl (yz_ne hg4164) (fun hb4165 k4166 hk4166 => ?_) (fun hb4165 k4167 hk4167 => ?_)
          · have hX4168 := hX4161.trans (if_neg hb4165)
            refine p_aload 89 c137_88 rfl rfl ?_
            refine p_cV 92 [.ref 376] [] c137_89 rfl rfl rfl (fun k' hk' d' => d99 (f := f) (by omega) hR4157) (fun m4175 hF4171 hR4176 n4170 k4169 hk4169 => ?_)
            have hX4174 := hX4168.trans (bU_s hF4171)
            refine p_aload 93 c137_92 rfl rfl ?_
            refine p_getX 96 (m4175 376 4) c137_93 rfl kf376_4 rfl ?_
            refine p_istore 97 c137_96 rfl rfl ?_
            refine p_aload 98 c137_97 rfl rfl ?_
            refine p_getX 101 (m4175 376 5) c137_98 rfl kf376_5 rfl ?_
            refine p_istore 103 c137_101 rfl rfl ?_
            refine p_aload 104 c137_103 rfl rfl ?_
            refine p_aload 105 c137_104 rfl rfl ?_
            refine p_cX 108 [.ref 376] [.ref 376] c137_105 rfl rfl rfl (fun k' hk' d' => d115 hR4176) (fun hg4179 n4178 k4177 hk4177 => ?_)
            refine p_cS 111 [.ref 376, yI (F115 m4175)] [] c137_108 rfl rfl rfl (fun k' hk' d' => d105 (f := f) (by omega) hg4179 hR4176) (fun r4184 m4186 hF4182 hg4183 hR4187 n4181 k4180 hk4180 => ?_)
            have hX4185 := hX4174.trans (bI_s hF4182)
            refine p_if 115 114 c137_111 rfl rfl (yz_ne hg4183) (fun hb4188 k4189 hk4189 => ?_) (fun hb4188 k4190 hk4190 => ?_)
            · have hX4191 := hX4185.trans (if_neg hb4188)
              refine p_aload 116 c137_115 rfl rfl ?_
              refine p_iconst 118 c137_116 rfl ?_
              refine p_cX 121 [.ref 376, yI 40] [] c137_118 rfl rfl rfl (fun k' hk' d' => d117 (rgD rfl) hR4187) (fun hg4194 n4193 k4192 hk4192 => ?_)
              refine p_if 136 124 c137_121 rfl rfl (yz_eq hg4194) (fun hb4195 k4196 hk4196 => ?_) (fun hb4195 k4197 hk4197 => ?_)
              · have hX4198 := hX4191.trans (if_pos hb4195)
                refine p_aload 137 c137_136 rfl rfl ?_
                refine p_iconst 138 c137_137 rfl ?_
                refine p_iload 139 c137_138 rfl rfl ?_
                refine p_iload 140 c137_139 rfl rfl ?_
                refine p_iload 141 c137_140 rfl rfl ?_
                refine p_cS 144 [.ref 376, yI 4, yI x1, yI r4154, yI (m4175 376 4)] [] c137_141 rfl rfl rfl (fun k' hk' d' => d127 (f := f) (by omega) (rgD rfl) gx1 hg4153 (hR4176.rg _ _) hR4187) (fun r4203 m4205 hF4201 hg4202 hR4206 n4200 k4199 hk4199 => ?_)
                have hX4204 := hX4198.trans (bI_s hF4201)
                refine p_istore 145 c137_144 rfl rfl ?_
                exact p_return c137_145 (Hr _ hX4204 hR4206 _)
              · have hX4207 := hX4191.trans (if_neg hb4195)
                refine p_aload 125 c137_124 rfl rfl ?_
                refine p_iload 126 c137_125 rfl rfl ?_
                refine p_iload 127 c137_126 rfl rfl ?_
                refine p_iload 128 c137_127 rfl rfl ?_
                refine p_iload 130 c137_128 rfl rfl ?_
                refine p_cV 133 [.ref 376, yI x1, yI r4154, yI (m4175 376 4), yI (m4175 376 5)] [] c137_130 rfl rfl rfl (fun k' hk' d' => d132 (f := f) (by omega) gx1 hg4153 (hR4176.rg _ _) (hR4176.rg _ _) hR4187) (fun m4313 hF4309 hR4314 n4209 k4208 hk4208 => ?_)
                have hX4312 := hX4207.trans (bU_s hF4309)
                refine p_goto 145 c137_133 rfl ?_
                exact p_return c137_145 (Hr _ hX4312 hR4314 _)
            · have hX4315 := hX4185.trans (if_pos (Classical.not_not.mp hb4188))
              exact p_return c137_114 (Hr _ hX4315 hR4187 _)
          · have hX4316 := hX4161.trans (if_pos (Classical.not_not.mp hb4165))
            refine p_aload 79 c137_78 rfl rfl ?_
            refine p_iconst 80 c137_79 rfl ?_
            refine p_iload 81 c137_80 rfl rfl ?_
            refine p_iload 82 c137_81 rfl rfl ?_
            refine p_iconst 83 c137_82 rfl ?_
            refine p_cS 86 [.ref 376, yI 2, yI x1, yI r4154, yI 0] [] c137_83 rfl rfl rfl (fun k' hk' d' => d127 (f := f) (by omega) (rgD rfl) gx1 hg4153 (rgD rfl) hR4157) (fun r4321 m4323 hF4319 hg4320 hR4324 n4318 k4317 hk4317 => ?_)
            have hX4322 := hX4316.trans (bI_s hF4319)
            refine p_istore 87 c137_86 rfl rfl ?_
            exact p_return c137_87 (Hr _ hX4322 hR4324 _)
        · have hX4325 := hX4155.trans (if_neg hb4158)
          exact p_return c137_68 (Hr _ hX4325 hR4157 _)
      · have hX4326 := hX4142.trans (if_neg hb4146)
        refine p_aload 49 c137_48 rfl rfl ?_
        refine p_iload 50 c137_49 rfl rfl ?_
        refine p_cV 53 [.ref 376, yI x1] [] c137_50 rfl rfl rfl (fun k' hk' d' => d136 (f := f) (by omega) gx1 hR) (fun m4434 hF4430 hR4435 n4328 k4327 hk4327 => ?_)
        have hX4433 := hX4326.trans (bU_s hF4430)
        refine p_goto 145 c137_53 rfl ?_
        exact p_return c137_145 (Hr _ hX4433 hR4435 _)
    · have hX4436 := hX4135.trans (if_neg hb4139)
      refine p_aload 23 c137_22 rfl rfl ?_
      refine p_cV 26 [.ref 376] [] c137_23 rfl rfl rfl (fun k' hk' d' => d99 (f := f) (by omega) hR) (fun m4443 hF4439 hR4444 n4438 k4437 hk4437 => ?_)
      have hX4442 := hX4436.trans (bU_s hF4439)
      refine p_aload 27 c137_26 rfl rfl ?_
      refine p_iconst 29 c137_27 rfl ?_
      refine p_iload 30 c137_29 rfl rfl ?_
      refine p_iconst 31 c137_30 rfl ?_
      refine p_iconst 32 c137_31 rfl ?_
      refine p_cS 35 [.ref 376, yI 8, yI x1, yI 0, yI 0] [] c137_32 rfl rfl rfl (fun k' hk' d' => d127 (f := f) (by omega) (rgD rfl) gx1 (rgD rfl) (rgD rfl) hR4444) (fun r4449 m4451 hF4447 hg4448 hR4452 n4446 k4445 hk4445 => ?_)
      have hX4450 := hX4442.trans (bI_s hF4447)
      refine p_istore 36 c137_35 rfl rfl ?_
      refine p_goto 145 c137_36 rfl ?_
      exact p_return c137_145 (Hr _ hX4450 hR4452 _)
  · have hX4453 := hX.trans (if_neg hb4132)
    refine p_aload 8 c137_7 rfl rfl ?_
    refine p_iload 9 c137_8 rfl rfl ?_
    refine p_cV 12 [.ref 376, yI x1] [] c137_9 rfl rfl rfl (fun k' hk' d' => d135 (f := f) (by omega) gx1 hR) (fun m4529 hF4525 hR4530 n4455 k4454 hk4454 => ?_)
    have hX4528 := hX4453.trans (bU_s hF4525)
    refine p_goto 145 c137_12 rfl ?_
    exact p_return c137_145 (Hr _ hX4528 hR4530 _)
def F133 (f : Nat) (x1 : Int) (m : yM) : Option yM := (bU (F99 f m) (fun m4555 => (bI (F105 f (F115 m4555) m4555) (fun r4564 m4566 => (if r4564 = 0 then (some m4566) else (if F117 40 m4566 = 0 then (bI (F118 f 61 m4566) (fun r4583 m4585 => (if r4583 = 0 then (some m4585) else (bI (F130 f m4585) (fun r4595 m4597 => (if m4597 376 8 < 0 then (bI (F127 f 5 x1 r4595 (m4555 376 4) m4597) (fun r4608 m4610 => (some m4610))) else (some m4597))))))) else (bU (F132 f ((-1)) x1 (m4555 376 4) (m4555 376 5) m4566) (fun m4620 => (some m4620)))))))))
set_option maxRecDepth 100000 in
theorem d133 {L : Nat} {xs : Nat → Int32} {k d n : Nat} {c : yS3} {f : Nat} {x1 : Int} {m : yM} (hk : k ≤ f) (gx1 : rg x1) (hR : RM c m) : PC (gZ L xs) k d 133 [.ref 376, yI x1] m n (qV c (F133 f x1 m)) := by
  have hX : F133 f x1 m = F133 f x1 m := rfl
  have Hr : ∀ m', F133 f x1 m = some m' → RM c m' → ∀ n' : Nat, (qV c (F133 f x1 m)) (.inl none) m' n' := fun m' e h n' => ⟨rfl, h, e⟩
  refine PC.mk [some (.ref 376), some (yI x1), none, none, none] kn133 rfl ?_
  refine p_aload 1 c133_0 rfl rfl ?_
  refine p_cV 4 [.ref 376] [] c133_1 rfl rfl rfl (fun k' hk' d' => d99 (f := f) (by omega) hR) (fun m4555 hF4551 hR4556 n4550 k4549 hk4549 => ?_)
  have hX4554 := hX.trans (bU_s hF4551)
  refine p_aload 5 c133_4 rfl rfl ?_
  refine p_getX 8 (m4555 376 4) c133_5 rfl kf376_4 rfl ?_
  refine p_istore 9 c133_8 rfl rfl ?_
  refine p_aload 10 c133_9 rfl rfl ?_
  refine p_getX 13 (m4555 376 5) c133_10 rfl kf376_5 rfl ?_
  refine p_istore 14 c133_13 rfl rfl ?_
  refine p_aload 15 c133_14 rfl rfl ?_
  refine p_aload 16 c133_15 rfl rfl ?_
  refine p_cX 19 [.ref 376] [.ref 376] c133_16 rfl rfl rfl (fun k' hk' d' => d115 hR4556) (fun hg4559 n4558 k4557 hk4557 => ?_)
  refine p_cS 22 [.ref 376, yI (F115 m4555)] [] c133_19 rfl rfl rfl (fun k' hk' d' => d105 (f := f) (by omega) hg4559 hR4556) (fun r4564 m4566 hF4562 hg4563 hR4567 n4561 k4560 hk4560 => ?_)
  have hX4565 := hX4554.trans (bI_s hF4562)
  refine p_if 26 25 c133_22 rfl rfl (yz_ne hg4563) (fun hb4568 k4569 hk4569 => ?_) (fun hb4568 k4570 hk4570 => ?_)
  · have hX4571 := hX4565.trans (if_neg hb4568)
    refine p_aload 27 c133_26 rfl rfl ?_
    refine p_iconst 29 c133_27 rfl ?_
    refine p_cX 32 [.ref 376, yI 40] [] c133_29 rfl rfl rfl (fun k' hk' d' => d117 (rgD rfl) hR4567) (fun hg4574 n4573 k4572 hk4572 => ?_)
    refine p_if 44 35 c133_32 rfl rfl (yz_eq hg4574) (fun hb4575 k4576 hk4576 => ?_) (fun hb4575 k4577 hk4577 => ?_)
    · have hX4578 := hX4571.trans (if_pos hb4575)
      refine p_aload 45 c133_44 rfl rfl ?_
      refine p_iconst 47 c133_45 rfl ?_
      refine p_cS 50 [.ref 376, yI 61] [] c133_47 rfl rfl rfl (fun k' hk' d' => d118 (f := f) (by omega) (rgD rfl) hR4567) (fun r4583 m4585 hF4581 hg4582 hR4586 n4580 k4579 hk4579 => ?_)
      have hX4584 := hX4578.trans (bI_s hF4581)
      refine p_if 54 53 c133_50 rfl rfl (yz_ne hg4582) (fun hb4587 k4588 hk4588 => ?_) (fun hb4587 k4589 hk4589 => ?_)
      · have hX4590 := hX4584.trans (if_neg hb4587)
        refine p_aload 55 c133_54 rfl rfl ?_
        refine p_cS 58 [.ref 376] [] c133_55 rfl rfl rfl (fun k' hk' d' => d130 (f := f) (by omega) hR4586) (fun r4595 m4597 hF4593 hg4594 hR4598 n4592 k4591 hk4591 => ?_)
        have hX4596 := hX4590.trans (bI_s hF4593)
        refine p_istore 60 c133_58 rfl rfl ?_
        refine p_aload 61 c133_60 rfl rfl ?_
        refine p_getX 64 (m4597 376 8) c133_61 rfl kf376_8 rfl ?_
        refine p_if 78 67 c133_64 rfl rfl ((yz_ge (hR4598.rg _ _)).trans Int.not_lt.symm) (fun hb4599 k4600 hk4600 => ?_) (fun hb4599 k4601 hk4601 => ?_)
        · have hX4602 := hX4596.trans (if_neg hb4599)
          exact p_return c133_78 (Hr _ hX4602 hR4598 _)
        · have hX4603 := hX4596.trans (if_pos (Classical.not_not.mp hb4599))
          refine p_aload 68 c133_67 rfl rfl ?_
          refine p_iconst 69 c133_68 rfl ?_
          refine p_iload 70 c133_69 rfl rfl ?_
          refine p_iload 72 c133_70 rfl rfl ?_
          refine p_iload 73 c133_72 rfl rfl ?_
          refine p_cS 76 [.ref 376, yI 5, yI x1, yI r4595, yI (m4555 376 4)] [] c133_73 rfl rfl rfl (fun k' hk' d' => d127 (f := f) (by omega) (rgD rfl) gx1 hg4594 (hR4556.rg _ _) hR4598) (fun r4608 m4610 hF4606 hg4607 hR4611 n4605 k4604 hk4604 => ?_)
          have hX4609 := hX4603.trans (bI_s hF4606)
          refine p_istore 78 c133_76 rfl rfl ?_
          exact p_return c133_78 (Hr _ hX4609 hR4611 _)
      · have hX4612 := hX4584.trans (if_pos (Classical.not_not.mp hb4587))
        exact p_return c133_53 (Hr _ hX4612 hR4586 _)
    · have hX4613 := hX4571.trans (if_neg hb4575)
      refine p_aload 36 c133_35 rfl rfl ?_
      refine p_iconst 37 c133_36 rfl ?_
      refine p_iload 38 c133_37 rfl rfl ?_
      refine p_iload 39 c133_38 rfl rfl ?_
      refine p_iload 40 c133_39 rfl rfl ?_
      refine p_cV 43 [.ref 376, yI ((-1)), yI x1, yI (m4555 376 4), yI (m4555 376 5)] [] c133_40 rfl rfl rfl (fun k' hk' d' => d132 (f := f) (by omega) (rgD rfl) gx1 (hR4556.rg _ _) (hR4556.rg _ _) hR4567) (fun m4620 hF4616 hR4621 n4615 k4614 hk4614 => ?_)
      have hX4619 := hX4613.trans (bU_s hF4616)
      exact p_return c133_43 (Hr _ hX4619 hR4621 _)
  · have hX4622 := hX4565.trans (if_pos (Classical.not_not.mp hb4568))
    exact p_return c133_25 (Hr _ hX4622 hR4567 _)
def J138_101 (f : Nat) (m : yM) : Option yM := (if m 376 8 < 0 then (bI (F118 f 59 m) (fun r4117 m4119 => (if r4117 = 0 then (some m4119) else (some m4119)))) else (some m))
set_option maxRecDepth 100000 in
theorem tJ138_101 {L : Nat} {xs : Nat → Int32} {Q : xO → yM → Nat → Prop} {k d n : Nat} {c : yS3} {f : Nat} {m : yM} {j1 j2 : Option Value} (hk : k ≤ f) (hR : RM c m) (Hr : ∀ m', J138_101 f m = some m' → RM c m' → ∀ n', Q (.inl none) m' n') : PW (gZ L xs) k 138 d 101 [some (.ref 376), j1, j2] [] m n Q := by
  have hX : J138_101 f m = J138_101 f m := rfl
  refine p_aload 102 c138_101 rfl rfl ?_
  refine p_getX 105 (m 376 8) c138_102 rfl kf376_8 rfl ?_
  refine p_if 118 108 c138_105 rfl rfl ((yz_ge (hR.rg _ _)).trans Int.not_lt.symm) (fun hb4108 k4109 hk4109 => ?_) (fun hb4108 k4110 hk4110 => ?_)
  · have hX4111 := hX.trans (if_neg hb4108)
    exact p_return c138_118 (Hr _ hX4111 hR _)
  · have hX4112 := hX.trans (if_pos (Classical.not_not.mp hb4108))
    refine p_aload 109 c138_108 rfl rfl ?_
    refine p_iconst 111 c138_109 rfl ?_
    refine p_cS 114 [.ref 376, yI 59] [] c138_111 rfl rfl rfl (fun k' hk' d' => d118 (f := f) (by omega) (rgD rfl) hR) (fun r4117 m4119 hF4115 hg4116 hR4120 n4114 k4113 hk4113 => ?_)
    have hX4118 := hX4112.trans (bI_s hF4115)
    refine p_if 118 117 c138_114 rfl rfl (yz_ne hg4116) (fun hb4121 k4122 hk4122 => ?_) (fun hb4121 k4123 hk4123 => ?_)
    · have hX4124 := hX4118.trans (if_neg hb4121)
      exact p_return c138_118 (Hr _ hX4124 hR4120 _)
    · have hX4125 := hX4118.trans (if_pos (Classical.not_not.mp hb4121))
      exact p_return c138_117 (Hr _ hX4125 hR4120 _)
def J138_90 (f : Nat) (x2 : Int) (xs1 : Int) (m : yM) : Option yM := (bI (F105 f xs1 m) (fun r4100 m4102 => (if r4100 = 0 then (J138_101 f m4102) else (bU (F137 f x2 m4102) (fun m4535 => (J138_101 f m4535))))))
set_option maxRecDepth 100000 in
theorem tJ138_90 {L : Nat} {xs : Nat → Int32} {Q : xO → yM → Nat → Prop} {k d n : Nat} {c : yS3} {f : Nat} {x2 : Int} {xs1 : Int} {m : yM} {j1 : Option Value} (hk : k ≤ f) (gx2 : rg x2) (gxs1 : rg xs1) (hR : RM c m) (Hr : ∀ m', J138_90 f x2 xs1 m = some m' → RM c m' → ∀ n', Q (.inl none) m' n') : PW (gZ L xs) k 138 d 90 [some (.ref 376), j1, some (yI x2)] [yI xs1, .ref 376] m n Q := by
  have hX : J138_90 f x2 xs1 m = J138_90 f x2 xs1 m := rfl
  refine p_cS 93 [.ref 376, yI xs1] [] c138_90 rfl rfl rfl (fun k' hk' d' => d105 (f := f) (by omega) gxs1 hR) (fun r4100 m4102 hF4098 hg4099 hR4103 n4097 k4096 hk4096 => ?_)
  have hX4101 := hX.trans (bI_s hF4098)
  refine p_if 101 96 c138_93 rfl rfl (yz_eq hg4099) (fun hb4104 k4105 hk4105 => ?_) (fun hb4104 k4106 hk4106 => ?_)
  · have hX4107 := hX4101.trans (if_pos hb4104)
    exact tJ138_101 (f := f) (by omega) hR4103 (fun m' e' => Hr m' (hX4107.trans e'))
  · have hX4126 := hX4101.trans (if_neg hb4104)
    refine p_aload 97 c138_96 rfl rfl ?_
    refine p_iload 98 c138_97 rfl rfl ?_
    refine p_cV 101 [.ref 376, yI x2] [] c138_98 rfl rfl rfl (fun k' hk' d' => d137 (f := f) (by omega) gx2 hR4103) (fun m4535 hF4531 hR4536 n4128 k4127 hk4127 => ?_)
    have hX4534 := hX4126.trans (bU_s hF4531)
    exact tJ138_101 (f := f) (by omega) hR4536 (fun m' e' => Hr m' (hX4534.trans e'))
def J138_89 (f : Nat) (x2 : Int) (m : yM) : Option yM := (J138_90 f x2 0 m)
set_option maxRecDepth 100000 in
theorem tJ138_89 {L : Nat} {xs : Nat → Int32} {Q : xO → yM → Nat → Prop} {k d n : Nat} {c : yS3} {f : Nat} {x2 : Int} {m : yM} {j1 : Option Value} (hk : k ≤ f) (gx2 : rg x2) (hR : RM c m) (Hr : ∀ m', J138_89 f x2 m = some m' → RM c m' → ∀ n', Q (.inl none) m' n') : PW (gZ L xs) k 138 d 89 [some (.ref 376), j1, some (yI x2)] [.ref 376] m n Q := by
  have hX : J138_89 f x2 m = J138_89 f x2 m := rfl
  refine p_iconst 90 c138_89 rfl ?_
  exact tJ138_90 (f := f) (by omega) gx2 (rgD rfl) hR (fun m' e' => Hr m' (hX.trans e'))
def J138_38 (f : Nat) (m : yM) : Option yM := (J138_101 f m)
set_option maxRecDepth 100000 in
theorem tJ138_38 {L : Nat} {xs : Nat → Int32} {Q : xO → yM → Nat → Prop} {k d n : Nat} {c : yS3} {f : Nat} {m : yM} {j1 j2 : Option Value} (hk : k ≤ f) (hR : RM c m) (Hr : ∀ m', J138_38 f m = some m' → RM c m' → ∀ n', Q (.inl none) m' n') : PW (gZ L xs) k 138 d 38 [some (.ref 376), j1, j2] [] m n Q := by
  have hX : J138_38 f m = J138_38 f m := rfl
  refine p_goto 101 c138_38 rfl ?_
  exact tJ138_101 (f := f) (by omega) hR (fun m' e' => Hr m' (hX.trans e'))
def F138 (f : Nat) (m : yM) : Option yM := (if F113 m = 0 then (bI (F130 f m) (fun r4077 m4079 => (if m4079 376 8 < 0 then (if F117 46 m4079 = 0 then (if F115 m = 0 then (J138_89 f r4077 m4079) else (if F117 61 m4079 = 0 then (J138_89 f r4077 m4079) else (J138_90 f r4077 1 m4079))) else (bU (F133 f r4077 m4079) (fun m4627 => (J138_101 f m4627)))) else (some m4079)))) else (bU (F99 f m) (fun m4637 => (bI (F130 f m4637) (fun r4643 m4645 => (if m4645 376 8 < 0 then (bI (F127 f 6 r4643 0 0 m4645) (fun r4656 m4658 => (J138_38 f m4658))) else (J138_38 f m4645)))))))
set_option maxRecDepth 100000 in
theorem d138 {L : Nat} {xs : Nat → Int32} {k d n : Nat} {c : yS3} {f : Nat} {m : yM} (hk : k ≤ f) (hR : RM c m) : PC (gZ L xs) k d 138 [.ref 376] m n (qV c (F138 f m)) := by
  have hX : F138 f m = F138 f m := rfl
  have Hr : ∀ m', F138 f m = some m' → RM c m' → ∀ n' : Nat, (qV c (F138 f m)) (.inl none) m' n' := fun m' e h n' => ⟨rfl, h, e⟩
  refine PC.mk [some (.ref 376), none, none] kn138 rfl ?_
  refine p_aload 1 c138_0 rfl rfl ?_
  refine p_cX 4 [.ref 376] [] c138_1 rfl rfl rfl (fun k' hk' d' => d115 hR) (fun hg4065 n4064 k4063 hk4063 => ?_)
  refine p_istore 5 c138_4 rfl rfl ?_
  refine p_aload 6 c138_5 rfl rfl ?_
  refine p_cX 9 [.ref 376] [] c138_6 rfl rfl rfl (fun k' hk' d' => d113 hR) (fun hg4068 n4067 k4066 hk4066 => ?_)
  refine p_if 41 12 c138_9 rfl rfl (yz_eq hg4068) (fun hb4069 k4070 hk4070 => ?_) (fun hb4069 k4071 hk4071 => ?_)
  · have hX4072 := hX.trans (if_pos hb4069)
    refine p_aload 42 c138_41 rfl rfl ?_
    refine p_cS 45 [.ref 376] [] c138_42 rfl rfl rfl (fun k' hk' d' => d130 (f := f) (by omega) hR) (fun r4077 m4079 hF4075 hg4076 hR4080 n4074 k4073 hk4073 => ?_)
    have hX4078 := hX4072.trans (bI_s hF4075)
    refine p_istore 46 c138_45 rfl rfl ?_
    refine p_aload 47 c138_46 rfl rfl ?_
    refine p_getX 50 (m4079 376 8) c138_47 rfl kf376_8 rfl ?_
    refine p_if 54 53 c138_50 rfl rfl (yz_lt (hR4080.rg _ _)) (fun hb4081 k4082 hk4082 => ?_) (fun hb4081 k4083 hk4083 => ?_)
    · have hX4084 := hX4078.trans (if_pos hb4081)
      refine p_aload 55 c138_54 rfl rfl ?_
      refine p_iconst 57 c138_55 rfl ?_
      refine p_cX 60 [.ref 376, yI 46] [] c138_57 rfl rfl rfl (fun k' hk' d' => d117 (rgD rfl) hR4080) (fun hg4087 n4086 k4085 hk4085 => ?_)
      refine p_if 71 63 c138_60 rfl rfl (yz_eq hg4087) (fun hb4088 k4089 hk4089 => ?_) (fun hb4088 k4090 hk4090 => ?_)
      · have hX4091 := hX4084.trans (if_pos hb4088)
        refine p_aload 72 c138_71 rfl rfl ?_
        refine p_iload 73 c138_72 rfl rfl ?_
        refine p_if 89 76 c138_73 rfl rfl (yz_eq hg4065) (fun hb4092 k4093 hk4093 => ?_) (fun hb4092 k4094 hk4094 => ?_)
        · have hX4095 := hX4091.trans (if_pos hb4092)
          exact tJ138_89 (f := f) (by omega) hg4076 hR4080 (fun m' e' => Hr m' (hX4095.trans e'))
        · have hX4537 := hX4091.trans (if_neg hb4092)
          refine p_aload 77 c138_76 rfl rfl ?_
          refine p_iconst 79 c138_77 rfl ?_
          refine p_cX 82 [.ref 376, yI 61] [.ref 376] c138_79 rfl rfl rfl (fun k' hk' d' => d117 (rgD rfl) hR4080) (fun hg4540 n4539 k4538 hk4538 => ?_)
          refine p_if 89 85 c138_82 rfl rfl (yz_eq hg4540) (fun hb4541 k4542 hk4542 => ?_) (fun hb4541 k4543 hk4543 => ?_)
          · have hX4544 := hX4537.trans (if_pos hb4541)
            exact tJ138_89 (f := f) (by omega) hg4076 hR4080 (fun m' e' => Hr m' (hX4544.trans e'))
          · have hX4545 := hX4537.trans (if_neg hb4541)
            refine p_iconst 86 c138_85 rfl ?_
            refine p_goto 90 c138_86 rfl ?_
            exact tJ138_90 (f := f) (by omega) hg4076 (rgD rfl) hR4080 (fun m' e' => Hr m' (hX4545.trans e'))
      · have hX4546 := hX4084.trans (if_neg hb4088)
        refine p_aload 64 c138_63 rfl rfl ?_
        refine p_iload 65 c138_64 rfl rfl ?_
        refine p_cV 68 [.ref 376, yI r4077] [] c138_65 rfl rfl rfl (fun k' hk' d' => d133 (f := f) (by omega) hg4076 hR4080) (fun m4627 hF4623 hR4628 n4548 k4547 hk4547 => ?_)
        have hX4626 := hX4546.trans (bU_s hF4623)
        refine p_goto 101 c138_68 rfl ?_
        exact tJ138_101 (f := f) (by omega) hR4628 (fun m' e' => Hr m' (hX4626.trans e'))
    · have hX4629 := hX4078.trans (if_neg hb4081)
      exact p_return c138_53 (Hr _ hX4629 hR4080 _)
  · have hX4630 := hX.trans (if_neg hb4069)
    refine p_aload 13 c138_12 rfl rfl ?_
    refine p_cV 16 [.ref 376] [] c138_13 rfl rfl rfl (fun k' hk' d' => d99 (f := f) (by omega) hR) (fun m4637 hF4633 hR4638 n4632 k4631 hk4631 => ?_)
    have hX4636 := hX4630.trans (bU_s hF4633)
    refine p_aload 17 c138_16 rfl rfl ?_
    refine p_cS 20 [.ref 376] [] c138_17 rfl rfl rfl (fun k' hk' d' => d130 (f := f) (by omega) hR4638) (fun r4643 m4645 hF4641 hg4642 hR4646 n4640 k4639 hk4639 => ?_)
    have hX4644 := hX4636.trans (bI_s hF4641)
    refine p_istore 21 c138_20 rfl rfl ?_
    refine p_aload 22 c138_21 rfl rfl ?_
    refine p_getX 25 (m4645 376 8) c138_22 rfl kf376_8 rfl ?_
    refine p_if 38 28 c138_25 rfl rfl ((yz_ge (hR4646.rg _ _)).trans Int.not_lt.symm) (fun hb4647 k4648 hk4648 => ?_) (fun hb4647 k4649 hk4649 => ?_)
    · have hX4650 := hX4644.trans (if_neg hb4647)
      exact tJ138_38 (f := f) (by omega) hR4646 (fun m' e' => Hr m' (hX4650.trans e'))
    · have hX4651 := hX4644.trans (if_pos (Classical.not_not.mp hb4647))
      refine p_aload 29 c138_28 rfl rfl ?_
      refine p_iconst 31 c138_29 rfl ?_
      refine p_iload 32 c138_31 rfl rfl ?_
      refine p_iconst 33 c138_32 rfl ?_
      refine p_iconst 34 c138_33 rfl ?_
      refine p_cS 37 [.ref 376, yI 6, yI r4643, yI 0, yI 0] [] c138_34 rfl rfl rfl (fun k' hk' d' => d127 (f := f) (by omega) (rgD rfl) hg4642 (rgD rfl) (rgD rfl) hR4646) (fun r4656 m4658 hF4654 hg4655 hR4659 n4653 k4652 hk4652 => ?_)
      have hX4657 := hX4651.trans (bI_s hF4654)
      refine p_istore 38 c138_37 rfl rfl ?_
      exact tJ138_38 (f := f) (by omega) hR4659 (fun m' e' => Hr m' (hX4657.trans e'))
def F128 (f : Nat) (x1 : Int) (m : yM) : Option yM := (some (yup m 403 (wr ((wr ((wr (1000 * (F96 m))) + (wr (8 * x1)))) + 3)).toNat (m 390 (F96 m).toNat)))
set_option maxRecDepth 100000 in
theorem d128 {L : Nat} {xs : Nat → Int32} {k d n : Nat} {c : yS3} {f : Nat} {x1 : Int} {m : yM} (hk : k ≤ f) (gx1 : rg x1) (hR : RM c m) : PC (gZ L xs) k d 128 [.ref 376, yI x1] m n (qV c (F128 f x1 m)) := by
  have hX : F128 f x1 m = F128 f x1 m := rfl
  have Hr : ∀ m', F128 f x1 m = some m' → RM c m' → ∀ n' : Nat, (qV c (F128 f x1 m)) (.inl none) m' n' := fun m' e h n' => ⟨rfl, h, e⟩
  refine PC.mk [some (.ref 376), some (yI x1)] kn128 rfl ?_
  refine p_aload 1 c128_0 rfl rfl ?_
  refine p_getR 4 c128_1 rfl kf376_40 ?_
  refine p_iconst 7 c128_4 rfl ?_
  refine p_aload 8 c128_7 rfl rfl ?_
  refine p_cX 11 [.ref 376] [yI 1000, .ref 403] c128_8 rfl rfl rfl (fun k' hk' d' => d96 hR) (fun hg4731 n4730 k4729 hk4729 => ?_)
  refine p_imul 12 c128_11 rfl ?_
  refine p_iconst 14 c128_12 rfl ?_
  refine p_iload 15 c128_14 rfl rfl ?_
  refine p_imul 16 c128_15 rfl ?_
  refine p_iadd 17 c128_16 rfl ?_
  refine p_iconst 18 c128_17 rfl ?_
  refine p_iadd 19 c128_18 rfl ?_
  refine p_aload 20 c128_19 rfl rfl ?_
  refine p_getR 23 c128_20 rfl kf376_27 ?_
  refine p_aload 24 c128_23 rfl rfl ?_
  refine p_cX 27 [.ref 376] [.ref 390, yI (wr ((wr ((wr (1000 * (F96 m))) + (wr (8 * x1)))) + 3)), .ref 403] c128_24 rfl rfl rfl (fun k' hk' d' => d96 hR) (fun hg4734 n4733 k4732 hk4732 => ?_)
  refine p_iaX 28 (m 390 (F96 m).toNat) c128_27 rfl ka390 hg4734 rfl (fun hx4735 => ?_)
  refine p_iaS 29 c128_28 rfl ka403 (rg_wr _) (m 390 (F96 m).toNat) (nar0 (hR.rg _ _)) (fun hx4736 => ?_)
  have hR4737 := hR.up 403 (wr ((wr ((wr (1000 * (F96 m))) + (wr (8 * x1)))) + 3)).toNat (v := m 390 (F96 m).toNat) (nselA (by decide)) (hR.rg _ _)
  exact p_return c128_29 (Hr _ hX hR4737 _)
def J129_119 (f : Nat) (x1 : Int) (m : yM) : Option yM := (bU (F128 f x1 m) (fun m4742 => (some (yup m4742 376 10 (wr ((m4742 376 10) - 1))))))
set_option maxRecDepth 100000 in
theorem tJ129_119 {L : Nat} {xs : Nat → Int32} {Q : xO → yM → Nat → Prop} {k d n : Nat} {c : yS3} {f : Nat} {x1 : Int} {m : yM} {j2 : Option Value} (hk : k ≤ f) (gx1 : rg x1) (hR : RM c m) (Hr : ∀ m', J129_119 f x1 m = some m' → RM c m' → ∀ n', Q (.inl none) m' n') : PW (gZ L xs) k 129 d 119 [some (.ref 376), some (yI x1), j2] [] m n Q := by
  have hX : J129_119 f x1 m = J129_119 f x1 m := rfl
  refine p_aload 120 c129_119 rfl rfl ?_
  refine p_iload 121 c129_120 rfl rfl ?_
  refine p_cV 124 [.ref 376, yI x1] [] c129_121 rfl rfl rfl (fun k' hk' d' => d128 (f := f) (by omega) gx1 hR) (fun m4742 hF4738 hR4743 n4728 k4727 hk4727 => ?_)
  have hX4741 := hX.trans (bU_s hF4738)
  refine p_aload 125 c129_124 rfl rfl ?_
  refine p_dup 126 c129_125 rfl rfl ?_
  refine p_getX 129 (m4742 376 10) c129_126 rfl kf376_10 rfl ?_
  refine p_iconst 130 c129_129 rfl ?_
  refine p_isub 131 c129_130 rfl ?_
  refine p_putI 134 c129_131 rfl kf376_10 ?_
  have hR4744 := hR4743.up 376 10 (v := wr ((m4742 376 10) - 1)) (nselD rfl) (rg_wr _)
  exact p_return c129_134 (Hr _ hX4741 hR4744 _)
def J129_41 (f : Nat) (x1 : Int) (m : yM) : Option yM := (if m 378 (wr ((m 376 10) - 1)).toNat = 1 then (if F111 m = 0 then (J129_119 f x1 m) else (bU (F99 f m) (fun m4760 => (bI (F127 f 11 0 0 0 m4760) (fun r4766 m4768 => (bU (F128 f x1 m4768) (fun m4776 => (bI (F118 f 123 (yup (yup m4776 378 (wr ((m4776 376 10) - 1)).toNat 2) 379 (wr ((m4776 376 10) - 1)).toNat r4766)) (fun r4786 m4788 => (if r4786 = 0 then (some m4788) else (some m4788))))))))))) else (J129_119 f x1 m))
set_option maxRecDepth 100000 in
theorem tJ129_41 {L : Nat} {xs : Nat → Int32} {Q : xO → yM → Nat → Prop} {k d n : Nat} {c : yS3} {f : Nat} {x1 : Int} {m : yM} {j2 : Option Value} (hk : k ≤ f) (gx1 : rg x1) (hR : RM c m) (Hr : ∀ m', J129_41 f x1 m = some m' → RM c m' → ∀ n', Q (.inl none) m' n') : PW (gZ L xs) k 129 d 41 [some (.ref 376), some (yI x1), j2] [] m n Q := by
  have hX : J129_41 f x1 m = J129_41 f x1 m := rfl
  refine p_aload 42 c129_41 rfl rfl ?_
  refine p_getR 45 c129_42 rfl kf376_11 ?_
  refine p_aload 46 c129_45 rfl rfl ?_
  refine p_getX 49 (m 376 10) c129_46 rfl kf376_10 rfl ?_
  refine p_iconst 50 c129_49 rfl ?_
  refine p_isub 51 c129_50 rfl ?_
  refine p_iaX 52 (m 378 (wr ((m 376 10) - 1)).toNat) c129_51 rfl ka378 (rg_wr _) rfl (fun hx4722 => ?_)
  refine p_iconst 53 c129_52 rfl ?_
  refine p_icmp 119 56 c129_53 rfl rfl (yc_ne (hR.rg _ _) (rgD rfl)) (fun hb4723 k4724 hk4724 => ?_) (fun hb4723 k4725 hk4725 => ?_)
  · have hX4726 := hX.trans (if_neg hb4723)
    exact tJ129_119 (f := f) (by omega) gx1 hR (fun m' e' => Hr m' (hX4726.trans e'))
  · have hX4745 := hX.trans (if_pos (Classical.not_not.mp hb4723))
    refine p_aload 57 c129_56 rfl rfl ?_
    refine p_cX 60 [.ref 376] [] c129_57 rfl rfl rfl (fun k' hk' d' => d111 hR) (fun hg4748 n4747 k4746 hk4746 => ?_)
    refine p_if 119 63 c129_60 rfl rfl (yz_eq hg4748) (fun hb4749 k4750 hk4750 => ?_) (fun hb4749 k4751 hk4751 => ?_)
    · have hX4752 := hX4745.trans (if_pos hb4749)
      exact tJ129_119 (f := f) (by omega) gx1 hR (fun m' e' => Hr m' (hX4752.trans e'))
    · have hX4753 := hX4745.trans (if_neg hb4749)
      refine p_aload 64 c129_63 rfl rfl ?_
      refine p_cV 67 [.ref 376] [] c129_64 rfl rfl rfl (fun k' hk' d' => d99 (f := f) (by omega) hR) (fun m4760 hF4756 hR4761 n4755 k4754 hk4754 => ?_)
      have hX4759 := hX4753.trans (bU_s hF4756)
      refine p_aload 68 c129_67 rfl rfl ?_
      refine p_iconst 70 c129_68 rfl ?_
      refine p_iconst 71 c129_70 rfl ?_
      refine p_iconst 72 c129_71 rfl ?_
      refine p_iconst 73 c129_72 rfl ?_
      refine p_cS 76 [.ref 376, yI 11, yI 0, yI 0, yI 0] [] c129_73 rfl rfl rfl (fun k' hk' d' => d127 (f := f) (by omega) (rgD rfl) (rgD rfl) (rgD rfl) (rgD rfl) hR4761) (fun r4766 m4768 hF4764 hg4765 hR4769 n4763 k4762 hk4762 => ?_)
      have hX4767 := hX4759.trans (bI_s hF4764)
      refine p_istore 77 c129_76 rfl rfl ?_
      refine p_aload 78 c129_77 rfl rfl ?_
      refine p_iload 79 c129_78 rfl rfl ?_
      refine p_cV 82 [.ref 376, yI x1] [] c129_79 rfl rfl rfl (fun k' hk' d' => d128 (f := f) (by omega) gx1 hR4769) (fun m4776 hF4772 hR4777 n4771 k4770 hk4770 => ?_)
      have hX4775 := hX4767.trans (bU_s hF4772)
      refine p_aload 83 c129_82 rfl rfl ?_
      refine p_getR 86 c129_83 rfl kf376_11 ?_
      refine p_aload 87 c129_86 rfl rfl ?_
      refine p_getX 90 (m4776 376 10) c129_87 rfl kf376_10 rfl ?_
      refine p_iconst 91 c129_90 rfl ?_
      refine p_isub 92 c129_91 rfl ?_
      refine p_iconst 93 c129_92 rfl ?_
      refine p_iaS 94 c129_93 rfl ka378 (rg_wr _) 2 (nar0 (rgD rfl)) (fun hx4778 => ?_)
      have hR4779 := hR4777.up 378 (wr ((m4776 376 10) - 1)).toNat (v := 2) (nselA (by decide)) (rgD rfl)
      refine p_aload 95 c129_94 rfl rfl ?_
      refine p_getR 98 c129_95 rfl kf376_12 ?_
      refine p_aload 99 c129_98 rfl rfl ?_
      refine p_getX 102 (m4776 376 10) c129_99 rfl kf376_10 (yup_na (by decide)) ?_
      refine p_iconst 103 c129_102 rfl ?_
      refine p_isub 104 c129_103 rfl ?_
      refine p_iload 105 c129_104 rfl rfl ?_
      refine p_iaS 106 c129_105 rfl ka379 (rg_wr _) r4766 (nar0 hg4765) (fun hx4780 => ?_)
      have hR4781 := hR4779.up 379 (wr ((m4776 376 10) - 1)).toNat (v := r4766) (nselA (by decide)) hg4765
      refine p_aload 107 c129_106 rfl rfl ?_
      refine p_iconst 109 c129_107 rfl ?_
      refine p_cS 112 [.ref 376, yI 123] [] c129_109 rfl rfl rfl (fun k' hk' d' => d118 (f := f) (by omega) (rgD rfl) hR4781) (fun r4786 m4788 hF4784 hg4785 hR4789 n4783 k4782 hk4782 => ?_)
      have hX4787 := hX4775.trans (bI_s hF4784)
      refine p_if 116 115 c129_112 rfl rfl (yz_ne hg4785) (fun hb4790 k4791 hk4791 => ?_) (fun hb4790 k4792 hk4792 => ?_)
      · have hX4793 := hX4787.trans (if_neg hb4790)
        refine p_goto 134 c129_116 rfl ?_
        exact p_return c129_134 (Hr _ hX4793 hR4789 _)
      · have hX4794 := hX4787.trans (if_pos (Classical.not_not.mp hb4790))
        exact p_return c129_115 (Hr _ hX4794 hR4789 _)
def F129 (f : Nat) (m : yM) : Option yM := (bU (F99 f m) (fun m4714 => (if m4714 378 (wr ((m4714 376 10) - 1)).toNat = 3 then (bI (F127 f 11 0 (m4714 379 (wr ((m4714 376 10) - 1)).toNat) 0 m4714) (fun r4800 m4802 => (J129_41 f (m4714 379 (wr ((m4714 376 10) - 1)).toNat) m4802))) else (J129_41 f (m4714 379 (wr ((m4714 376 10) - 1)).toNat) m4714))))
set_option maxRecDepth 100000 in
theorem d129 {L : Nat} {xs : Nat → Int32} {k d n : Nat} {c : yS3} {f : Nat} {m : yM} (hk : k ≤ f) (hR : RM c m) : PC (gZ L xs) k d 129 [.ref 376] m n (qV c (F129 f m)) := by
  have hX : F129 f m = F129 f m := rfl
  have Hr : ∀ m', F129 f m = some m' → RM c m' → ∀ n' : Nat, (qV c (F129 f m)) (.inl none) m' n' := fun m' e h n' => ⟨rfl, h, e⟩
  refine PC.mk [some (.ref 376), none, none] kn129 rfl ?_
  refine p_aload 1 c129_0 rfl rfl ?_
  refine p_cV 4 [.ref 376] [] c129_1 rfl rfl rfl (fun k' hk' d' => d99 (f := f) (by omega) hR) (fun m4714 hF4710 hR4715 n4709 k4708 hk4708 => ?_)
  have hX4713 := hX.trans (bU_s hF4710)
  refine p_aload 5 c129_4 rfl rfl ?_
  refine p_getR 8 c129_5 rfl kf376_12 ?_
  refine p_aload 9 c129_8 rfl rfl ?_
  refine p_getX 12 (m4714 376 10) c129_9 rfl kf376_10 rfl ?_
  refine p_iconst 13 c129_12 rfl ?_
  refine p_isub 14 c129_13 rfl ?_
  refine p_iaX 15 (m4714 379 (wr ((m4714 376 10) - 1)).toNat) c129_14 rfl ka379 (rg_wr _) rfl (fun hx4716 => ?_)
  refine p_istore 16 c129_15 rfl rfl ?_
  refine p_aload 17 c129_16 rfl rfl ?_
  refine p_getR 20 c129_17 rfl kf376_11 ?_
  refine p_aload 21 c129_20 rfl rfl ?_
  refine p_getX 24 (m4714 376 10) c129_21 rfl kf376_10 rfl ?_
  refine p_iconst 25 c129_24 rfl ?_
  refine p_isub 26 c129_25 rfl ?_
  refine p_iaX 27 (m4714 378 (wr ((m4714 376 10) - 1)).toNat) c129_26 rfl ka378 (rg_wr _) rfl (fun hx4717 => ?_)
  refine p_iconst 28 c129_27 rfl ?_
  refine p_icmp 41 31 c129_28 rfl rfl (yc_ne (hR4715.rg _ _) (rgD rfl)) (fun hb4718 k4719 hk4719 => ?_) (fun hb4718 k4720 hk4720 => ?_)
  · have hX4721 := hX4713.trans (if_neg hb4718)
    exact tJ129_41 (f := f) (by omega) (hR4715.rg _ _) hR4715 (fun m' e' => Hr m' (hX4721.trans e'))
  · have hX4795 := hX4713.trans (if_pos (Classical.not_not.mp hb4718))
    refine p_aload 32 c129_31 rfl rfl ?_
    refine p_iconst 34 c129_32 rfl ?_
    refine p_iconst 35 c129_34 rfl ?_
    refine p_iload 36 c129_35 rfl rfl ?_
    refine p_iconst 37 c129_36 rfl ?_
    refine p_cS 40 [.ref 376, yI 11, yI 0, yI (m4714 379 (wr ((m4714 376 10) - 1)).toNat), yI 0] [] c129_37 rfl rfl rfl (fun k' hk' d' => d127 (f := f) (by omega) (rgD rfl) (rgD rfl) (hR4715.rg _ _) (rgD rfl) hR4715) (fun r4800 m4802 hF4798 hg4799 hR4803 n4797 k4796 hk4796 => ?_)
    have hX4801 := hX4795.trans (bI_s hF4798)
    refine p_istore 41 c129_40 rfl rfl ?_
    exact tJ129_41 (f := f) (by omega) (hR4715.rg _ _) hR4803 (fun m' e' => Hr m' (hX4801.trans e'))
def J139_94 (f : Nat) (m : yM) : Option ((Unit × yM) ⊕ ((Unit × yM) ⊕ (Unit × yM))) := (bU (F104 f m) (fun m3834 => (some (.inl ((), m3834)))))
set_option maxRecDepth 100000 in
theorem tJ139_94 {L : Nat} {xs : Nat → Int32} {Q : xO → yM → Nat → Prop} {k d n : Nat} {c : yS3} {f : Nat} {m : yM} {j1 : Option Value} (hk : k ≤ f) (hR : RM c m) (Hn : ∀ (z0 : Option Value) (m' : yM) (n' : Nat), J139_94 f m = some (.inl ((), m')) → RM c m' → ∀ k', k' < k → PW (gZ L xs) k' 139 d 5 [some (.ref 376), z0] [] m' n' Q) (He : ∀ (z0 : Option Value) (m' : yM) (n' : Nat), J139_94 f m = some (.inr (.inl ((), m'))) → RM c m' → ∀ k', k' ≤ k → PW (gZ L xs) k' 139 d 139 [some (.ref 376), z0] [] m' n' Q) (Hr : ∀ m', J139_94 f m = some (.inr (.inr ((), m'))) → RM c m' → ∀ n', Q (.inl none) m' n') : PW (gZ L xs) k 139 d 94 [some (.ref 376), j1] [] m n Q := by
  have hX : J139_94 f m = J139_94 f m := rfl
  refine p_aload 95 c139_94 rfl rfl ?_
  refine p_cV 98 [.ref 376] [] c139_95 rfl rfl rfl (fun k' hk' d' => d104 (f := f) (by omega) hR) (fun m3834 hF3830 hR3835 n3829 k3828 hk3828 => ?_)
  have hX3833 := hX.trans (bU_s hF3830)
  refine p_gotoD 5 c139_98 rfl (fun k3836 hk3836 => ?_)
  exact Hn _ _ _ hX3833 hR3835 _ (by omega)
def J139_125 (f : Nat) (m : yM) : Option ((Unit × yM) ⊕ ((Unit × yM) ⊕ (Unit × yM))) := (bU (F131 f m) (fun m4050 => (some (.inl ((), m4050)))))
set_option maxRecDepth 100000 in
theorem tJ139_125 {L : Nat} {xs : Nat → Int32} {Q : xO → yM → Nat → Prop} {k d n : Nat} {c : yS3} {f : Nat} {m : yM} {j1 : Option Value} (hk : k ≤ f) (hR : RM c m) (Hn : ∀ (z0 : Option Value) (m' : yM) (n' : Nat), J139_125 f m = some (.inl ((), m')) → RM c m' → ∀ k', k' < k → PW (gZ L xs) k' 139 d 5 [some (.ref 376), z0] [] m' n' Q) (He : ∀ (z0 : Option Value) (m' : yM) (n' : Nat), J139_125 f m = some (.inr (.inl ((), m'))) → RM c m' → ∀ k', k' ≤ k → PW (gZ L xs) k' 139 d 139 [some (.ref 376), z0] [] m' n' Q) (Hr : ∀ m', J139_125 f m = some (.inr (.inr ((), m'))) → RM c m' → ∀ n', Q (.inl none) m' n') : PW (gZ L xs) k 139 d 125 [some (.ref 376), j1] [] m n Q := by
  have hX : J139_125 f m = J139_125 f m := rfl
  refine p_aload 126 c139_125 rfl rfl ?_
  refine p_cV 129 [.ref 376] [] c139_126 rfl rfl rfl (fun k' hk' d' => d131 (f := f) (by omega) hR) (fun m4050 hF4046 hR4051 n3854 k3853 hk3853 => ?_)
  have hX4049 := hX.trans (bU_s hF4046)
  refine p_gotoD 5 c139_129 rfl (fun k4052 hk4052 => ?_)
  exact Hn _ _ _ hX4049 hR4051 _ (by omega)
def J139_101 (f : Nat) (m : yM) : Option ((Unit × yM) ⊕ ((Unit × yM) ⊕ (Unit × yM))) := (if F110 (yup m 376 9 (wr ((m 376 9) + 1))) = 0 then (if F112 (yup m 376 9 (wr ((m 376 9) + 1))) = 0 then (bU (F138 f (yup m 376 9 (wr ((m 376 9) + 1)))) (fun m4664 => (some (.inl ((), m4664))))) else (J139_125 f (yup m 376 9 (wr ((m 376 9) + 1))))) else (J139_125 f (yup m 376 9 (wr ((m 376 9) + 1)))))
set_option maxRecDepth 100000 in
theorem tJ139_101 {L : Nat} {xs : Nat → Int32} {Q : xO → yM → Nat → Prop} {k d n : Nat} {c : yS3} {f : Nat} {m : yM} {j1 : Option Value} (hk : k ≤ f) (hR : RM c m) (Hn : ∀ (z0 : Option Value) (m' : yM) (n' : Nat), J139_101 f m = some (.inl ((), m')) → RM c m' → ∀ k', k' < k → PW (gZ L xs) k' 139 d 5 [some (.ref 376), z0] [] m' n' Q) (He : ∀ (z0 : Option Value) (m' : yM) (n' : Nat), J139_101 f m = some (.inr (.inl ((), m'))) → RM c m' → ∀ k', k' ≤ k → PW (gZ L xs) k' 139 d 139 [some (.ref 376), z0] [] m' n' Q) (Hr : ∀ m', J139_101 f m = some (.inr (.inr ((), m'))) → RM c m' → ∀ n', Q (.inl none) m' n') : PW (gZ L xs) k 139 d 101 [some (.ref 376), j1] [] m n Q := by
  have hX : J139_101 f m = J139_101 f m := rfl
  refine p_aload 102 c139_101 rfl rfl ?_
  refine p_dup 103 c139_102 rfl rfl ?_
  refine p_getX 106 (m 376 9) c139_103 rfl kf376_9 rfl ?_
  refine p_iconst 107 c139_106 rfl ?_
  refine p_iadd 108 c139_107 rfl ?_
  refine p_putI 111 c139_108 rfl kf376_9 ?_
  have hR3845 := hR.up 376 9 (v := wr ((m 376 9) + 1)) (nselD rfl) (rg_wr _)
  refine p_aload 112 c139_111 rfl rfl ?_
  refine p_cX 115 [.ref 376] [] c139_112 rfl rfl rfl (fun k' hk' d' => d110 hR3845) (fun hg3848 n3847 k3846 hk3846 => ?_)
  refine p_if 125 118 c139_115 rfl rfl (yz_ne hg3848) (fun hb3849 k3850 hk3850 => ?_) (fun hb3849 k3851 hk3851 => ?_)
  · have hX3852 := hX.trans (if_neg hb3849)
    exact tJ139_125 (f := f) (by omega) hR3845 (fun y0 m' n' e'  hR' k' hk' => Hn y0 m' n' (hX3852.trans e')  hR' k' (by omega)) (fun y0 m' n' e'  hR' k' hk' => He y0 m' n' (hX3852.trans e')  hR' k' (by omega)) (fun m' e' => Hr m' (hX3852.trans e'))
  · have hX4053 := hX.trans (if_pos (Classical.not_not.mp hb3849))
    refine p_aload 119 c139_118 rfl rfl ?_
    refine p_cX 122 [.ref 376] [] c139_119 rfl rfl rfl (fun k' hk' d' => d112 hR3845) (fun hg4056 n4055 k4054 hk4054 => ?_)
    refine p_if 132 125 c139_122 rfl rfl (yz_eq hg4056) (fun hb4057 k4058 hk4058 => ?_) (fun hb4057 k4059 hk4059 => ?_)
    · have hX4060 := hX4053.trans (if_pos hb4057)
      refine p_aload 133 c139_132 rfl rfl ?_
      refine p_cV 136 [.ref 376] [] c139_133 rfl rfl rfl (fun k' hk' d' => d138 (f := f) (by omega) hR3845) (fun m4664 hF4660 hR4665 n4062 k4061 hk4061 => ?_)
      have hX4663 := hX4060.trans (bU_s hF4660)
      refine p_gotoD 5 c139_136 rfl (fun k4666 hk4666 => ?_)
      exact Hn _ _ _ hX4663 hR4665 _ (by omega)
    · have hX4667 := hX4053.trans (if_neg hb4057)
      exact tJ139_125 (f := f) (by omega) hR3845 (fun y0 m' n' e'  hR' k' hk' => Hn y0 m' n' (hX4667.trans e')  hR' k' (by omega)) (fun y0 m' n' e'  hR' k' hk' => He y0 m' n' (hX4667.trans e')  hR' k' (by omega)) (fun m' e' => Hr m' (hX4667.trans e'))
def B139_5 (f : Nat) (m : yM) : Option ((Unit × yM) ⊕ ((Unit × yM) ⊕ (Unit × yM))) := (if m 376 8 < 0 then (if F117 125 m = 0 then (if m 376 9 = 40 then (J139_94 f m) else (if F115 m = 0 then (if F114 m = 0 then (if F110 m = 0 then (if F112 m = 0 then (if F113 m = 0 then (J139_94 f m) else (J139_101 f m)) else (J139_101 f m)) else (J139_101 f m)) else (J139_101 f m)) else (J139_101 f m))) else (if m 376 10 = 0 then (bU (F99 f m) (fun m4818 => (bI (F127 f 12 0 0 0 m4818) (fun r4824 m4826 => (some (.inr (.inr ((), m4826)))))))) else (bU (F129 f m) (fun m4808 => (some (.inl ((), m4808))))))) else (some (.inr (.inl ((), m)))))
set_option maxRecDepth 100000 in
theorem tB139_5 {L : Nat} {xs : Nat → Int32} {Q : xO → yM → Nat → Prop} {k d n : Nat} {c : yS3} {f : Nat} {m : yM} {j1 : Option Value} (hk : k ≤ f) (hR : RM c m) (Hn : ∀ (z0 : Option Value) (m' : yM) (n' : Nat), B139_5 f m = some (.inl ((), m')) → RM c m' → ∀ k', k' < k → PW (gZ L xs) k' 139 d 5 [some (.ref 376), z0] [] m' n' Q) (He : ∀ (z0 : Option Value) (m' : yM) (n' : Nat), B139_5 f m = some (.inr (.inl ((), m'))) → RM c m' → ∀ k', k' ≤ k → PW (gZ L xs) k' 139 d 139 [some (.ref 376), z0] [] m' n' Q) (Hr : ∀ m', B139_5 f m = some (.inr (.inr ((), m'))) → RM c m' → ∀ n', Q (.inl none) m' n') : PW (gZ L xs) k 139 d 5 [some (.ref 376), j1] [] m n Q := by
  have hX : B139_5 f m = B139_5 f m := rfl
  refine p_aload 6 c139_5 rfl rfl ?_
  refine p_getX 9 (m 376 8) c139_6 rfl kf376_8 rfl ?_
  refine p_if 139 12 c139_9 rfl rfl ((yz_ge (hR.rg _ _)).trans Int.not_lt.symm) (fun hb3812 k3813 hk3813 => ?_) (fun hb3812 k3814 hk3814 => ?_)
  · have hX3815 := hX.trans (if_neg hb3812)
    exact He _ _ _ hX3815 hR _ (by omega)
  · have hX3816 := hX.trans (if_pos (Classical.not_not.mp hb3812))
    refine p_aload 13 c139_12 rfl rfl ?_
    refine p_iconst 15 c139_13 rfl ?_
    refine p_cX 18 [.ref 376, yI 125] [] c139_15 rfl rfl rfl (fun k' hk' d' => d117 (rgD rfl) hR) (fun hg3819 n3818 k3817 hk3817 => ?_)
    refine p_if 50 21 c139_18 rfl rfl (yz_eq hg3819) (fun hb3820 k3821 hk3821 => ?_) (fun hb3820 k3822 hk3822 => ?_)
    · have hX3823 := hX3816.trans (if_pos hb3820)
      refine p_aload 51 c139_50 rfl rfl ?_
      refine p_getX 54 (m 376 9) c139_51 rfl kf376_9 rfl ?_
      refine p_iconst 56 c139_54 rfl ?_
      refine p_icmp 94 59 c139_56 rfl rfl (yc_eq (hR.rg _ _) (rgD rfl)) (fun hb3824 k3825 hk3825 => ?_) (fun hb3824 k3826 hk3826 => ?_)
      · have hX3827 := hX3823.trans (if_pos hb3824)
        exact tJ139_94 (f := f) (by omega) hR (fun y0 m' n' e'  hR' k' hk' => Hn y0 m' n' (hX3827.trans e')  hR' k' (by omega)) (fun y0 m' n' e'  hR' k' hk' => He y0 m' n' (hX3827.trans e')  hR' k' (by omega)) (fun m' e' => Hr m' (hX3827.trans e'))
      · have hX3837 := hX3823.trans (if_neg hb3824)
        refine p_aload 60 c139_59 rfl rfl ?_
        refine p_cX 63 [.ref 376] [] c139_60 rfl rfl rfl (fun k' hk' d' => d115 hR) (fun hg3840 n3839 k3838 hk3838 => ?_)
        refine p_if 101 66 c139_63 rfl rfl (yz_ne hg3840) (fun hb3841 k3842 hk3842 => ?_) (fun hb3841 k3843 hk3843 => ?_)
        · have hX3844 := hX3837.trans (if_neg hb3841)
          exact tJ139_101 (f := f) (by omega) hR (fun y0 m' n' e'  hR' k' hk' => Hn y0 m' n' (hX3844.trans e')  hR' k' (by omega)) (fun y0 m' n' e'  hR' k' hk' => He y0 m' n' (hX3844.trans e')  hR' k' (by omega)) (fun m' e' => Hr m' (hX3844.trans e'))
        · have hX4668 := hX3837.trans (if_pos (Classical.not_not.mp hb3841))
          refine p_aload 67 c139_66 rfl rfl ?_
          refine p_cX 70 [.ref 376] [] c139_67 rfl rfl rfl (fun k' hk' d' => d114 hR) (fun hg4671 n4670 k4669 hk4669 => ?_)
          refine p_if 101 73 c139_70 rfl rfl (yz_ne hg4671) (fun hb4672 k4673 hk4673 => ?_) (fun hb4672 k4674 hk4674 => ?_)
          · have hX4675 := hX4668.trans (if_neg hb4672)
            exact tJ139_101 (f := f) (by omega) hR (fun y0 m' n' e'  hR' k' hk' => Hn y0 m' n' (hX4675.trans e')  hR' k' (by omega)) (fun y0 m' n' e'  hR' k' hk' => He y0 m' n' (hX4675.trans e')  hR' k' (by omega)) (fun m' e' => Hr m' (hX4675.trans e'))
          · have hX4676 := hX4668.trans (if_pos (Classical.not_not.mp hb4672))
            refine p_aload 74 c139_73 rfl rfl ?_
            refine p_cX 77 [.ref 376] [] c139_74 rfl rfl rfl (fun k' hk' d' => d110 hR) (fun hg4679 n4678 k4677 hk4677 => ?_)
            refine p_if 101 80 c139_77 rfl rfl (yz_ne hg4679) (fun hb4680 k4681 hk4681 => ?_) (fun hb4680 k4682 hk4682 => ?_)
            · have hX4683 := hX4676.trans (if_neg hb4680)
              exact tJ139_101 (f := f) (by omega) hR (fun y0 m' n' e'  hR' k' hk' => Hn y0 m' n' (hX4683.trans e')  hR' k' (by omega)) (fun y0 m' n' e'  hR' k' hk' => He y0 m' n' (hX4683.trans e')  hR' k' (by omega)) (fun m' e' => Hr m' (hX4683.trans e'))
            · have hX4684 := hX4676.trans (if_pos (Classical.not_not.mp hb4680))
              refine p_aload 81 c139_80 rfl rfl ?_
              refine p_cX 84 [.ref 376] [] c139_81 rfl rfl rfl (fun k' hk' d' => d112 hR) (fun hg4687 n4686 k4685 hk4685 => ?_)
              refine p_if 101 87 c139_84 rfl rfl (yz_ne hg4687) (fun hb4688 k4689 hk4689 => ?_) (fun hb4688 k4690 hk4690 => ?_)
              · have hX4691 := hX4684.trans (if_neg hb4688)
                exact tJ139_101 (f := f) (by omega) hR (fun y0 m' n' e'  hR' k' hk' => Hn y0 m' n' (hX4691.trans e')  hR' k' (by omega)) (fun y0 m' n' e'  hR' k' hk' => He y0 m' n' (hX4691.trans e')  hR' k' (by omega)) (fun m' e' => Hr m' (hX4691.trans e'))
              · have hX4692 := hX4684.trans (if_pos (Classical.not_not.mp hb4688))
                refine p_aload 88 c139_87 rfl rfl ?_
                refine p_cX 91 [.ref 376] [] c139_88 rfl rfl rfl (fun k' hk' d' => d113 hR) (fun hg4695 n4694 k4693 hk4693 => ?_)
                refine p_if 101 94 c139_91 rfl rfl (yz_ne hg4695) (fun hb4696 k4697 hk4697 => ?_) (fun hb4696 k4698 hk4698 => ?_)
                · have hX4699 := hX4692.trans (if_neg hb4696)
                  exact tJ139_101 (f := f) (by omega) hR (fun y0 m' n' e'  hR' k' hk' => Hn y0 m' n' (hX4699.trans e')  hR' k' (by omega)) (fun y0 m' n' e'  hR' k' hk' => He y0 m' n' (hX4699.trans e')  hR' k' (by omega)) (fun m' e' => Hr m' (hX4699.trans e'))
                · have hX4700 := hX4692.trans (if_pos (Classical.not_not.mp hb4696))
                  exact tJ139_94 (f := f) (by omega) hR (fun y0 m' n' e'  hR' k' hk' => Hn y0 m' n' (hX4700.trans e')  hR' k' (by omega)) (fun y0 m' n' e'  hR' k' hk' => He y0 m' n' (hX4700.trans e')  hR' k' (by omega)) (fun m' e' => Hr m' (hX4700.trans e'))
    · have hX4701 := hX3816.trans (if_neg hb3820)
      refine p_aload 22 c139_21 rfl rfl ?_
      refine p_getX 25 (m 376 10) c139_22 rfl kf376_10 rfl ?_
      refine p_if 43 28 c139_25 rfl rfl (yz_ne (hR.rg _ _)) (fun hb4702 k4703 hk4703 => ?_) (fun hb4702 k4704 hk4704 => ?_)
      · have hX4705 := hX4701.trans (if_neg hb4702)
        refine p_aload 44 c139_43 rfl rfl ?_
        refine p_cV 47 [.ref 376] [] c139_44 rfl rfl rfl (fun k' hk' d' => d129 (f := f) (by omega) hR) (fun m4808 hF4804 hR4809 n4707 k4706 hk4706 => ?_)
        have hX4807 := hX4705.trans (bU_s hF4804)
        refine p_gotoD 5 c139_47 rfl (fun k4810 hk4810 => ?_)
        exact Hn _ _ _ hX4807 hR4809 _ (by omega)
      · have hX4811 := hX4701.trans (if_pos (Classical.not_not.mp hb4702))
        refine p_aload 29 c139_28 rfl rfl ?_
        refine p_cV 32 [.ref 376] [] c139_29 rfl rfl rfl (fun k' hk' d' => d99 (f := f) (by omega) hR) (fun m4818 hF4814 hR4819 n4813 k4812 hk4812 => ?_)
        have hX4817 := hX4811.trans (bU_s hF4814)
        refine p_aload 33 c139_32 rfl rfl ?_
        refine p_iconst 35 c139_33 rfl ?_
        refine p_iconst 36 c139_35 rfl ?_
        refine p_iconst 37 c139_36 rfl ?_
        refine p_iconst 38 c139_37 rfl ?_
        refine p_cS 41 [.ref 376, yI 12, yI 0, yI 0, yI 0] [] c139_38 rfl rfl rfl (fun k' hk' d' => d127 (f := f) (by omega) (rgD rfl) (rgD rfl) (rgD rfl) (rgD rfl) hR4819) (fun r4824 m4826 hF4822 hg4823 hR4827 n4821 k4820 hk4820 => ?_)
        have hX4825 := hX4817.trans (bI_s hF4822)
        refine p_istore 42 c139_41 rfl rfl ?_
        exact p_return c139_42 (Hr _ hX4825 hR4827 _)
def F139 (f : Nat) (m : yM) : Option yM := (bL (yloop (fun (l : Unit) ml => B139_5 f ml) f () (yup m 376 10 0)) (fun _ m4834 => (some m4834)) (fun _ mr => some mr))
set_option maxRecDepth 100000 in
theorem d139 {L : Nat} {xs : Nat → Int32} {k d n : Nat} {c : yS3} {f : Nat} {m : yM} (hk : k ≤ f) (hR : RM c m) : PC (gZ L xs) k d 139 [.ref 376] m n (qV c (F139 f m)) := by
  have hX : F139 f m = F139 f m := rfl
  have Hr : ∀ m', F139 f m = some m' → RM c m' → ∀ n' : Nat, (qV c (F139 f m)) (.inl none) m' n' := fun m' e h n' => ⟨rfl, h, e⟩
  refine PC.mk [some (.ref 376), none] kn139 rfl ?_
  refine p_aload 1 c139_0 rfl rfl ?_
  refine p_iconst 2 c139_1 rfl ?_
  refine p_putI 5 c139_2 rfl kf376_10 ?_
  have hR3811 := hR.up 376 10 (v := 0) (nselD rfl) (rgD rfl)
  refine PW.loop (K := k) (pce := 139) (fun (l : Unit) ml => B139_5 f ml) (fun (l : Unit) j => [some (.ref 376), j 1]) (fun (l : Unit) => True) (RM c) (fun (r' : Unit) m' => RM c m' → ∀ n' : Nat, (qV c (F139 f m)) (.inl none) m' n') (fun k' hk' l j m' n' hl hI Hn' He' Hr' => tB139_5 (f := f) (by omega) hI (fun y0 m2 n2 e  hR2 => Hn' () (fun q => ([none, y0] : List (Option Value)).getD q none) m2 n2 e trivial hR2) (fun y0 m2 n2 e  hR2 => He' () (fun q => ([none, y0] : List (Option Value)).getD q none) m2 n2 e trivial hR2) (fun m2 e => Hr' () m2 e)) f k (by omega) (Nat.le_refl _) () (fun q => ([some (.ref 376), none] : xL).getD q none) _ _ trivial hR3811 (fun l4828 j4831 m4834 n4833 e4830 hl4829 hR4835 k4832 hk4832 => ?_) (fun r' m' e' => ?_)
  · have hX4836 := hX.trans (bL_l e4830)
    exact p_return c139_139 (Hr _ hX4836 hR4835 _)
  · exact Hr m' (hX.trans (bL_r e'))
end
