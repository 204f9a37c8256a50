section
/-! CONTRACTS: the model, heads. Printed by wip/whole/gen9a.py -/
set_option maxRecDepth 100000 in
theorem t125a_0 {L : Nat} {xs : Nat → Int32} {d nn : Nat} {m : yM} {k : Int} (hT : Ty gT m) (hl : m 376 6 ≤ m 376 1) (hn : m 376 18 = 1) (hk : 0 ≤ k ∧ k < 10) (h8 : m 376 8 < 0) : ∀ (km : Nat) (g : Int) (y4 : Option Value) (y5 : Option Value) (y6 : Option Value) (mi : yM), 3 - mi 397 k.toNat = km → (g = 0 ∨ g = 1) ∧ (g = 1 → mi 397 k.toNat ≤ 1) → Ty gT mi → Fr wPz0 m mi → mi 376 6 ≤ mi 376 1 → mi 376 8 < 0 → mu mi ≤ mu m → m 398 k.toNat + 2 + mi 397 k.toNat = mi 389 0 ∧ m 376 14 = m 398 k.toNat → (∀ q, q ≠ k.toNat → mi 397 q = m 397 q) → YW (gZ L xs) 125 (d + 5) 7 [some (.ref 376), some (yI k), some (yI 0), some (yI g), y4, y5, y6] [] mi nn (qU (fun m' n' => n' = nn ∧ Ty gT m' ∧ Fr wPz0 m m' ∧ m' 376 6 ≤ m' 376 1 ∧ (m 398 k.toNat + 2 + m' 397 k.toNat ≤ 48 ∧ (0 ≤ m' 376 8 ∨ (m' 376 8 < 0 ∧ mu m' ≤ mu m))) ∧ ∀ q, q ≠ k.toNat → m' 397 q = m 397 q)) := by
  intro km
  induction km using Nat.strongRecOn with
  | ind km ih =>
    intro g y4 y5 y6 mi hk hg hTi hFi hli h8i hmu hI hz
    have tc := hTi.atp 389 0 0 48 rfl
    have t97 := hTi.atp 397 k.toNat 0 2 rfl
    have t14 := hTi.atp 376 14 0 46 rfl
    have e14 : mi 376 14 = m 376 14 := hFi 376 14 rfl
    have e18 : mi 376 18 = m 376 18 := hFi 376 18 rfl
    have em1 : mi 376 1 = m 376 1 := hFi 376 1 rfl
    refine y_iload 8 c125_7 rfl rfl ?_
    refine y_if 133 11 c125_8 rfl rfl (yz_eq (by omega)) (fun hb10860 => ?_) (fun hb10860 => ?_)
    · have es10861 : mi 376 1 = m 376 1 := (hFi 376 1 rfl)
      have tb10862 := hT.atp 376 1 0 320 rfl
      have tb10863 := hTi.atp 376 3 0 3 rfl
      have tb10864 := hTi.atp 376 6 0 320 rfl
      have tb10865 := hTi.atp 376 8 ((-1)) 320 rfl
      exact y_retU c125_133 ⟨rfl, hTi, hFi, by omega, by omega, fun q hq => (hz q hq)⟩
    · refine y_aload 12 c125_11 rfl rfl rfl ?_
      have tb10866 := hTi.atp 376 3 0 3 rfl
      refine y_callP 15 [.ref 376] [] c125_12 rfl rfl rfl rfl rfl (ycanO km115 ko376) (t115 hTi) (fun r10867 hr10867 => ?_)
      refine y_if 60 18 c125_15 rfl rfl (yz_eq (by omega)) (fun hb10868 => ?_) (fun hb10868 => ?_)
      · refine y_iconst 61 c125_60 rfl ?_
        refine y_istore 63 c125_61 rfl rfl ?_
        refine y_aload 64 c125_63 rfl rfl rfl ?_
        refine y_getX 67 (mi 376 4) c125_64 rfl kf376_4 rfl ?_
        have tb10869 := hTi.atp 376 4 ((-2147483648)) 2147483647 rfl
        refine y_istore 69 c125_67 rfl rfl ?_
        refine y_aload 70 c125_69 rfl rfl rfl ?_
        refine y_iload 72 c125_70 rfl rfl ?_
        have es10871 : mi 376 1 = m 376 1 := (hFi 376 1 rfl)
        have tb10872 := hT.atp 376 1 0 320 rfl
        have tb10873 := hTi.atp 376 6 0 320 rfl
        have tb10874 := hTi.atp 376 8 ((-1)) 320 rfl
        refine y_callIB 75 [.ref 376, yI 0] [] c125_72 rfl rfl rfl rfl rfl (ycanO km105 ko376) (t105 (g := 0) hTi (by omega) (by omega)) (fun rq10870 mq10870 nq10870 hq10870 => ?_)
        obtain ⟨rfl, hTq10870, hFq10870, hq10870⟩ := hq10870
        have x1q10870 : mq10870 376 1 = m 376 1 := ((hFq10870 376 1 rfl).trans (hFi 376 1 rfl))
        have hF10875 := hFi.tr hFq10870 wNw_wPz0
        refine y_if 79 78 c125_75 rfl rfl (yz_ne (by omega)) (fun hb10876 => ?_) (fun hb10876 => ?_)
        · exfalso; omega
        · have es10877 : mq10870 376 1 = m 376 1 := ((hFq10870 376 1 rfl).trans (hFi 376 1 rfl))
          have tb10878 := hTq10870.atp 376 3 0 3 rfl
          have tb10879 := hTq10870.atp 376 6 0 320 rfl
          have tb10880 := hTq10870.atp 376 8 ((-1)) 320 rfl
          have es10881 : mq10870 389 0 = mi 389 0 := (hFq10870 389 0 rfl)
          have e9710882 : mq10870 397 k.toNat = mi 397 k.toNat := (hFq10870 397 _ rfl)
          exact y_retU c125_78 ⟨rfl, hTq10870, hF10875, by omega, by omega, fun q hq => ((hFq10870 397 q rfl).trans (hz q hq))⟩
      · refine y_aload 19 c125_18 rfl rfl rfl ?_
        refine y_getR 22 c125_19 rfl kf376_26 ?_
        refine y_iload 23 c125_22 rfl rfl ?_
        refine y_iaX 24 (mi 389 0) c125_23 rfl ka389 (by decide) rfl ?_
        refine y_iconst 26 c125_24 rfl ?_
        refine y_icmp 60 29 c125_26 rfl rfl (yc_ge (by omega) (by omega)) (fun hb10883 => ?_) (fun hb10883 => ?_)
        · refine y_iconst 61 c125_60 rfl ?_
          refine y_istore 63 c125_61 rfl rfl ?_
          refine y_aload 64 c125_63 rfl rfl rfl ?_
          refine y_getX 67 (mi 376 4) c125_64 rfl kf376_4 rfl ?_
          have tb10884 := hTi.atp 376 4 ((-2147483648)) 2147483647 rfl
          refine y_istore 69 c125_67 rfl rfl ?_
          refine y_aload 70 c125_69 rfl rfl rfl ?_
          refine y_iload 72 c125_70 rfl rfl ?_
          have es10886 : mi 376 1 = m 376 1 := (hFi 376 1 rfl)
          have tb10887 := hT.atp 376 1 0 320 rfl
          have tb10888 := hTi.atp 376 6 0 320 rfl
          have tb10889 := hTi.atp 376 8 ((-1)) 320 rfl
          refine y_callIB 75 [.ref 376, yI 0] [] c125_72 rfl rfl rfl rfl rfl (ycanO km105 ko376) (t105 (g := 0) hTi (by omega) (by omega)) (fun rq10885 mq10885 nq10885 hq10885 => ?_)
          obtain ⟨rfl, hTq10885, hFq10885, hq10885⟩ := hq10885
          have x1q10885 : mq10885 376 1 = m 376 1 := ((hFq10885 376 1 rfl).trans (hFi 376 1 rfl))
          have hF10890 := hFi.tr hFq10885 wNw_wPz0
          refine y_if 79 78 c125_75 rfl rfl (yz_ne (by omega)) (fun hb10891 => ?_) (fun hb10891 => ?_)
          · exfalso; omega
          · have es10892 : mq10885 376 1 = m 376 1 := ((hFq10885 376 1 rfl).trans (hFi 376 1 rfl))
            have tb10893 := hTq10885.atp 376 3 0 3 rfl
            have tb10894 := hTq10885.atp 376 6 0 320 rfl
            have tb10895 := hTq10885.atp 376 8 ((-1)) 320 rfl
            have es10896 : mq10885 389 0 = mi 389 0 := (hFq10885 389 0 rfl)
            have e9710897 : mq10885 397 k.toNat = mi 397 k.toNat := (hFq10885 397 _ rfl)
            exact y_retU c125_78 ⟨rfl, hTq10885, hF10890, by omega, by omega, fun q hq => ((hFq10885 397 q rfl).trans (hz q hq))⟩
        · refine y_aload 30 c125_29 rfl rfl rfl ?_
          refine y_getR 33 c125_30 rfl kf376_34 ?_
          refine y_iload 34 c125_33 rfl rfl ?_
          refine y_iaT 35 0 2 c125_34 rfl ka397 (by omega) hTi rfl (fun v10898 hv10898 gv10898 => ?_)
          have w9710899 : v10898 = mi 397 k.toNat := hv10898.symm.trans rfl
          refine y_if 56 38 c125_35 rfl rfl (yz_eq (by omega)) (fun hb10900 => ?_) (fun hb10900 => ?_)
          · refine y_iconst 57 c125_56 rfl ?_
            refine y_goto 61 c125_57 rfl ?_
            refine y_istore 63 c125_61 rfl rfl ?_
            refine y_aload 64 c125_63 rfl rfl rfl ?_
            refine y_getX 67 (mi 376 4) c125_64 rfl kf376_4 rfl ?_
            have tb10901 := hTi.atp 376 4 ((-2147483648)) 2147483647 rfl
            refine y_istore 69 c125_67 rfl rfl ?_
            refine y_aload 70 c125_69 rfl rfl rfl ?_
            refine y_iload 72 c125_70 rfl rfl ?_
            have es10903 : mi 376 1 = m 376 1 := (hFi 376 1 rfl)
            have tb10904 := hT.atp 376 1 0 320 rfl
            have tb10905 := hTi.atp 376 6 0 320 rfl
            have tb10906 := hTi.atp 376 8 ((-1)) 320 rfl
            refine y_callIB 75 [.ref 376, yI 1] [] c125_72 rfl rfl rfl rfl rfl (ycanO km105 ko376) (t105 (g := 1) hTi (by omega) (by omega)) (fun rq10902 mq10902 nq10902 hq10902 => ?_)
            obtain ⟨rfl, hTq10902, hFq10902, hq10902⟩ := hq10902
            have x1q10902 : mq10902 376 1 = m 376 1 := ((hFq10902 376 1 rfl).trans (hFi 376 1 rfl))
            have hF10907 := hFi.tr hFq10902 wNw_wPz0
            refine y_if 79 78 c125_75 rfl rfl (yz_ne (by omega)) (fun hb10908 => ?_) (fun hb10908 => ?_)
            · refine y_aload 80 c125_79 rfl rfl rfl ?_
              refine y_iload 82 c125_80 rfl rfl ?_
              have es10910 : mq10902 376 1 = m 376 1 := ((hFq10902 376 1 rfl).trans (hFi 376 1 rfl))
              have tb10911 := hTq10902.atp 376 3 0 3 rfl
              have tb10912 := hTq10902.atp 376 6 0 320 rfl
              have tb10913 := hTq10902.atp 376 8 ((-1)) 320 rfl
              have es10914 : mq10902 376 18 = m 376 18 := ((hFq10902 376 18 rfl).trans (hFi 376 18 rfl))
              have tb10915 := hT.atp 376 18 0 1 rfl
              have es10916 : mq10902 389 0 = mi 389 0 := (hFq10902 389 0 rfl)
              refine y_callIB 85 [.ref 376, yI (mi 376 4)] [] c125_82 rfl rfl rfl rfl rfl (ycanO km124 ko376) (t124_0 hTq10902 (by omega) (by omega) (by omega)) (fun rq10909 mq10909 nq10909 hq10909 => ?_)
              obtain ⟨rfl, hTq10909, hFq10909, hq10909⟩ := hq10909
              have x1q10909 : mq10909 376 1 = m 376 1 := ((hFq10909 376 1 rfl).trans ((hFq10902 376 1 rfl).trans (hFi 376 1 rfl)))
              have hF10917 := hF10907.tr hFq10909 wVp0_wPz0
              refine y_istore 87 c125_85 rfl rfl ?_
              refine y_aload 88 c125_87 rfl rfl rfl ?_
              refine y_getR 91 c125_88 rfl kf376_34 ?_
              refine y_iload 92 c125_91 rfl rfl ?_
              refine y_dup2 93 c125_92 rfl ⟨rfl, rfl⟩ ?_
              refine y_iaT 94 0 2 c125_93 rfl ka397 (by omega) hTq10909 rfl (fun v10918 hv10918 gv10918 => ?_)
              have w9710919 : v10918 = mi 397 k.toNat := hv10918.symm.trans ((hFq10909 397 _ rfl).trans (hFq10902 397 _ rfl))
              refine y_iconst 95 c125_94 rfl ?_
              refine y_iadd 96 c125_95 rfl ?_
              refine y_iastore 97 c125_96 rfl ka397 (by omega) (y_nar0 _) ?_
              have hT10920 := hTq10909.up 397 k.toNat (v10918 + 1) 0 2 rfl (by omega)
              have hF10921 := hF10917.up 397 k.toNat (v10918 + 1) (wPz0_397 (by omega))
              refine y_aload 98 c125_97 rfl rfl rfl ?_
              refine y_getR 101 c125_98 rfl kf376_34 ?_
              refine y_iload 102 c125_101 rfl rfl ?_
              refine y_iaT 103 0 2 c125_102 rfl ka397 (by omega) hT10920 rfl (fun v10922 hv10922 gv10922 => ?_)
              have w9710923 : v10922 = v10918 + 1 := hv10922.symm.trans (yup_eq _ _ _ _)
              refine y_iconst 104 c125_103 rfl ?_
              refine y_icmp 120 107 c125_104 rfl rfl (yc_ne (by omega) (by omega)) (fun hb10924 => ?_) (fun hb10924 => ?_)
              · refine y_iconst 121 c125_120 rfl ?_
                refine y_istore 122 c125_121 rfl rfl ?_
                refine y_iload 123 c125_122 rfl rfl ?_
                refine y_if 130 126 c125_123 rfl rfl (yz_eq (by omega)) (fun hb10925 => ?_) (fun hb10925 => ?_)
                · refine y_goto 7 c125_130 rfl ?_
                  have es10926 : (yup mq10909 397 k.toNat (v10918 + 1)) 376 1 = m 376 1 := ((yup_na (by decide)).trans ((hFq10909 376 1 rfl).trans ((hFq10902 376 1 rfl).trans (hFi 376 1 rfl))))
                  have es10927 : (yup mq10909 397 k.toNat (v10918 + 1)) 376 3 = mq10902 376 3 := ((yup_na (by decide)).trans (hFq10909 376 3 rfl))
                  have es10928 : (yup mq10909 397 k.toNat (v10918 + 1)) 376 6 = mq10902 376 6 := ((yup_na (by decide)).trans (hFq10909 376 6 rfl))
                  have es10929 : (yup mq10909 397 k.toNat (v10918 + 1)) 376 8 = mq10902 376 8 := ((yup_na (by decide)).trans (hFq10909 376 8 rfl))
                  have es10930 : (yup mq10909 397 k.toNat (v10918 + 1)) 389 0 = mq10909 389 0 := rfl
                  have tb10931 := hTq10909.atp 389 0 0 48 rfl
                  have em10932 : mu (yup mq10909 397 k.toNat (v10918 + 1)) = mu mq10902 := mu_fr ((yup_na (by decide)).trans (hFq10909 376 1 rfl)) ((yup_na (by decide)).trans (hFq10909 376 3 rfl)) ((yup_na (by decide)).trans (hFq10909 376 6 rfl))
                  have e9710933 : (yup mq10909 397 k.toNat (v10918 + 1)) 397 k.toNat = v10918 + 1 := (yup_eq _ _ _ _)
                  exact ih (3 - (yup mq10909 397 k.toNat (v10918 + 1)) 397 k.toNat).toNat (by omega) 0 _ _ _ _ (by omega) (by omega) hT10920 hF10921 (by omega) (by omega) (by omega) (by omega) (fun q hq => ((yup_nk hq).trans ((hFq10909 397 q rfl).trans ((hFq10902 397 q rfl).trans (hz q hq)))))
                · exfalso; omega
              · refine y_aload 108 c125_107 rfl rfl rfl ?_
                refine y_iconst 110 c125_108 rfl ?_
                have es10934 : (yup mq10909 397 k.toNat (v10918 + 1)) 376 3 = mq10902 376 3 := ((yup_na (by decide)).trans (hFq10909 376 3 rfl))
                refine y_callP 113 [.ref 376, yI 44] [] c125_110 rfl rfl rfl rfl rfl (ycanO km117 ko376) (t117 hT10920 (by omega)) (fun r10935 hr10935 => ?_)
                refine y_if 120 116 c125_113 rfl rfl (yz_eq (by omega)) (fun hb10936 => ?_) (fun hb10936 => ?_)
                · refine y_iconst 121 c125_120 rfl ?_
                  refine y_istore 122 c125_121 rfl rfl ?_
                  refine y_iload 123 c125_122 rfl rfl ?_
                  refine y_if 130 126 c125_123 rfl rfl (yz_eq (by omega)) (fun hb10937 => ?_) (fun hb10937 => ?_)
                  · refine y_goto 7 c125_130 rfl ?_
                    have es10938 : (yup mq10909 397 k.toNat (v10918 + 1)) 376 1 = m 376 1 := ((yup_na (by decide)).trans ((hFq10909 376 1 rfl).trans ((hFq10902 376 1 rfl).trans (hFi 376 1 rfl))))
                    have es10939 : (yup mq10909 397 k.toNat (v10918 + 1)) 376 3 = mq10902 376 3 := ((yup_na (by decide)).trans (hFq10909 376 3 rfl))
                    have es10940 : (yup mq10909 397 k.toNat (v10918 + 1)) 376 6 = mq10902 376 6 := ((yup_na (by decide)).trans (hFq10909 376 6 rfl))
                    have es10941 : (yup mq10909 397 k.toNat (v10918 + 1)) 376 8 = mq10902 376 8 := ((yup_na (by decide)).trans (hFq10909 376 8 rfl))
                    have es10942 : (yup mq10909 397 k.toNat (v10918 + 1)) 389 0 = mq10909 389 0 := rfl
                    have tb10943 := hTq10909.atp 389 0 0 48 rfl
                    have em10944 : mu (yup mq10909 397 k.toNat (v10918 + 1)) = mu mq10902 := mu_fr ((yup_na (by decide)).trans (hFq10909 376 1 rfl)) ((yup_na (by decide)).trans (hFq10909 376 3 rfl)) ((yup_na (by decide)).trans (hFq10909 376 6 rfl))
                    have e9710945 : (yup mq10909 397 k.toNat (v10918 + 1)) 397 k.toNat = v10918 + 1 := (yup_eq _ _ _ _)
                    exact ih (3 - (yup mq10909 397 k.toNat (v10918 + 1)) 397 k.toNat).toNat (by omega) 0 _ _ _ _ (by omega) (by omega) hT10920 hF10921 (by omega) (by omega) (by omega) (by omega) (fun q hq => ((yup_nk hq).trans ((hFq10909 397 q rfl).trans ((hFq10902 397 q rfl).trans (hz q hq)))))
                  · exfalso; omega
                · refine y_iconst 117 c125_116 rfl ?_
                  refine y_goto 121 c125_117 rfl ?_
                  refine y_istore 122 c125_121 rfl rfl ?_
                  refine y_iload 123 c125_122 rfl rfl ?_
                  refine y_if 130 126 c125_123 rfl rfl (yz_eq (by omega)) (fun hb10946 => ?_) (fun hb10946 => ?_)
                  · exfalso; omega
                  · refine y_aload 127 c125_126 rfl rfl rfl ?_
                    have es10948 : (yup mq10909 397 k.toNat (v10918 + 1)) 376 1 = m 376 1 := ((yup_na (by decide)).trans ((hFq10909 376 1 rfl).trans ((hFq10902 376 1 rfl).trans (hFi 376 1 rfl))))
                    have es10949 : (yup mq10909 397 k.toNat (v10918 + 1)) 376 3 = mq10902 376 3 := ((yup_na (by decide)).trans (hFq10909 376 3 rfl))
                    have es10950 : (yup mq10909 397 k.toNat (v10918 + 1)) 376 6 = mq10902 376 6 := ((yup_na (by decide)).trans (hFq10909 376 6 rfl))
                    have es10951 : (yup mq10909 397 k.toNat (v10918 + 1)) 376 8 = mq10902 376 8 := ((yup_na (by decide)).trans (hFq10909 376 8 rfl))
                    have em10952 : mu (yup mq10909 397 k.toNat (v10918 + 1)) = mu mq10902 := mu_fr ((yup_na (by decide)).trans (hFq10909 376 1 rfl)) ((yup_na (by decide)).trans (hFq10909 376 3 rfl)) ((yup_na (by decide)).trans (hFq10909 376 6 rfl))
                    refine y_callUB 130 [.ref 376] [] c125_127 rfl rfl rfl rfl rfl (ycanO km99 ko376) (t99u hT10920 (by omega)) (fun mq10947 nq10947 hq10947 => ?_)
                    obtain ⟨rfl, hTq10947, hFq10947, hq10947⟩ := hq10947
                    have x1q10947 : mq10947 376 1 = m 376 1 := ((hFq10947 376 1 rfl).trans ((yup_na (by decide)).trans ((hFq10909 376 1 rfl).trans ((hFq10902 376 1 rfl).trans (hFi 376 1 rfl)))))
                    have hF10953 := hF10921.tr hFq10947 wNx_wPz0
                    refine y_goto 7 c125_130 rfl ?_
                    have es10954 : mq10947 376 1 = m 376 1 := ((hFq10947 376 1 rfl).trans ((yup_na (by decide)).trans ((hFq10909 376 1 rfl).trans ((hFq10902 376 1 rfl).trans (hFi 376 1 rfl)))))
                    have tb10955 := hTq10947.atp 376 3 0 3 rfl
                    have tb10956 := hTq10947.atp 376 6 0 320 rfl
                    have es10957 : mq10947 376 8 = mq10902 376 8 := ((hFq10947 376 8 rfl).trans ((yup_na (by decide)).trans (hFq10909 376 8 rfl)))
                    have es10958 : mq10947 389 0 = mq10909 389 0 := ((hFq10947 389 0 rfl).trans (yup_na (by decide)))
                    have tb10959 := hTq10909.atp 389 0 0 48 rfl
                    have e9710960 : mq10947 397 k.toNat = v10918 + 1 := ((hFq10947 397 _ rfl).trans (yup_eq _ _ _ _))
                    exact ih (3 - mq10947 397 k.toNat).toNat (by omega) 1 _ _ _ _ (by omega) (by omega) hTq10947 hF10953 (by omega) (by omega) (by omega) (by omega) (fun q hq => ((hFq10947 397 q rfl).trans ((yup_nk hq).trans ((hFq10909 397 q rfl).trans ((hFq10902 397 q rfl).trans (hz q hq))))))
            · have es10961 : mq10902 376 1 = m 376 1 := ((hFq10902 376 1 rfl).trans (hFi 376 1 rfl))
              have tb10962 := hTq10902.atp 376 3 0 3 rfl
              have tb10963 := hTq10902.atp 376 6 0 320 rfl
              have tb10964 := hTq10902.atp 376 8 ((-1)) 320 rfl
              have es10965 : mq10902 389 0 = mi 389 0 := (hFq10902 389 0 rfl)
              have e9710966 : mq10902 397 k.toNat = mi 397 k.toNat := (hFq10902 397 _ rfl)
              exact y_retU c125_78 ⟨rfl, hTq10902, hF10907, by omega, by omega, fun q hq => ((hFq10902 397 q rfl).trans (hz q hq))⟩
          · refine y_aload 39 c125_38 rfl rfl rfl ?_
            refine y_getR 42 c125_39 rfl kf376_13 ?_
            refine y_aload 43 c125_42 rfl rfl rfl ?_
            refine y_getX 46 (m 376 14) c125_43 rfl kf376_14 (hFi 376 14 rfl) ?_
            have tb10967 := hT.atp 376 14 0 46 rfl
            refine y_iconst 47 c125_46 rfl ?_
            refine y_iadd 48 c125_47 rfl ?_
            refine y_iaT 49 ((-2147483648)) 2147483647 c125_48 rfl ka380 (by omega) hTi rfl (fun v10968 hv10968 gv10968 => ?_)
            refine y_aload 50 c125_49 rfl rfl rfl ?_
            refine y_getX 53 (mi 376 4) c125_50 rfl kf376_4 rfl ?_
            have tb10969 := hTi.atp 376 4 ((-2147483648)) 2147483647 rfl
            refine y_icmp 60 56 c125_53 rfl rfl (yc_eq (by omega) (by omega)) (fun hb10970 => ?_) (fun hb10970 => ?_)
            · refine y_iconst 61 c125_60 rfl ?_
              refine y_istore 63 c125_61 rfl rfl ?_
              refine y_aload 64 c125_63 rfl rfl rfl ?_
              refine y_getX 67 (mi 376 4) c125_64 rfl kf376_4 rfl ?_
              refine y_istore 69 c125_67 rfl rfl ?_
              refine y_aload 70 c125_69 rfl rfl rfl ?_
              refine y_iload 72 c125_70 rfl rfl ?_
              have es10972 : mi 376 1 = m 376 1 := (hFi 376 1 rfl)
              have tb10973 := hT.atp 376 1 0 320 rfl
              have tb10974 := hTi.atp 376 6 0 320 rfl
              have tb10975 := hTi.atp 376 8 ((-1)) 320 rfl
              refine y_callIB 75 [.ref 376, yI 0] [] c125_72 rfl rfl rfl rfl rfl (ycanO km105 ko376) (t105 (g := 0) hTi (by omega) (by omega)) (fun rq10971 mq10971 nq10971 hq10971 => ?_)
              obtain ⟨rfl, hTq10971, hFq10971, hq10971⟩ := hq10971
              have x1q10971 : mq10971 376 1 = m 376 1 := ((hFq10971 376 1 rfl).trans (hFi 376 1 rfl))
              have hF10976 := hFi.tr hFq10971 wNw_wPz0
              refine y_if 79 78 c125_75 rfl rfl (yz_ne (by omega)) (fun hb10977 => ?_) (fun hb10977 => ?_)
              · exfalso; omega
              · have es10978 : mq10971 376 1 = m 376 1 := ((hFq10971 376 1 rfl).trans (hFi 376 1 rfl))
                have tb10979 := hTq10971.atp 376 3 0 3 rfl
                have tb10980 := hTq10971.atp 376 6 0 320 rfl
                have tb10981 := hTq10971.atp 376 8 ((-1)) 320 rfl
                have es10982 : mq10971 389 0 = mi 389 0 := (hFq10971 389 0 rfl)
                have e9710983 : mq10971 397 k.toNat = mi 397 k.toNat := (hFq10971 397 _ rfl)
                exact y_retU c125_78 ⟨rfl, hTq10971, hF10976, by omega, by omega, fun q hq => ((hFq10971 397 q rfl).trans (hz q hq))⟩
            · refine y_iconst 57 c125_56 rfl ?_
              refine y_goto 61 c125_57 rfl ?_
              refine y_istore 63 c125_61 rfl rfl ?_
              refine y_aload 64 c125_63 rfl rfl rfl ?_
              refine y_getX 67 (mi 376 4) c125_64 rfl kf376_4 rfl ?_
              refine y_istore 69 c125_67 rfl rfl ?_
              refine y_aload 70 c125_69 rfl rfl rfl ?_
              refine y_iload 72 c125_70 rfl rfl ?_
              have es10985 : mi 376 1 = m 376 1 := (hFi 376 1 rfl)
              have tb10986 := hT.atp 376 1 0 320 rfl
              have tb10987 := hTi.atp 376 6 0 320 rfl
              have tb10988 := hTi.atp 376 8 ((-1)) 320 rfl
              refine y_callIB 75 [.ref 376, yI 1] [] c125_72 rfl rfl rfl rfl rfl (ycanO km105 ko376) (t105 (g := 1) hTi (by omega) (by omega)) (fun rq10984 mq10984 nq10984 hq10984 => ?_)
              obtain ⟨rfl, hTq10984, hFq10984, hq10984⟩ := hq10984
              have x1q10984 : mq10984 376 1 = m 376 1 := ((hFq10984 376 1 rfl).trans (hFi 376 1 rfl))
              have hF10989 := hFi.tr hFq10984 wNw_wPz0
              refine y_if 79 78 c125_75 rfl rfl (yz_ne (by omega)) (fun hb10990 => ?_) (fun hb10990 => ?_)
              · refine y_aload 80 c125_79 rfl rfl rfl ?_
                refine y_iload 82 c125_80 rfl rfl ?_
                have es10992 : mq10984 376 1 = m 376 1 := ((hFq10984 376 1 rfl).trans (hFi 376 1 rfl))
                have tb10993 := hTq10984.atp 376 3 0 3 rfl
                have tb10994 := hTq10984.atp 376 6 0 320 rfl
                have tb10995 := hTq10984.atp 376 8 ((-1)) 320 rfl
                have es10996 : mq10984 376 18 = m 376 18 := ((hFq10984 376 18 rfl).trans (hFi 376 18 rfl))
                have tb10997 := hT.atp 376 18 0 1 rfl
                have es10998 : mq10984 389 0 = mi 389 0 := (hFq10984 389 0 rfl)
                refine y_callIB 85 [.ref 376, yI (mi 376 4)] [] c125_82 rfl rfl rfl rfl rfl (ycanO km124 ko376) (t124_0 hTq10984 (by omega) (by omega) (by omega)) (fun rq10991 mq10991 nq10991 hq10991 => ?_)
                obtain ⟨rfl, hTq10991, hFq10991, hq10991⟩ := hq10991
                have x1q10991 : mq10991 376 1 = m 376 1 := ((hFq10991 376 1 rfl).trans ((hFq10984 376 1 rfl).trans (hFi 376 1 rfl)))
                have hF10999 := hF10989.tr hFq10991 wVp0_wPz0
                refine y_istore 87 c125_85 rfl rfl ?_
                refine y_aload 88 c125_87 rfl rfl rfl ?_
                refine y_getR 91 c125_88 rfl kf376_34 ?_
                refine y_iload 92 c125_91 rfl rfl ?_
                refine y_dup2 93 c125_92 rfl ⟨rfl, rfl⟩ ?_
                refine y_iaT 94 0 2 c125_93 rfl ka397 (by omega) hTq10991 rfl (fun v11000 hv11000 gv11000 => ?_)
                have w9711001 : v11000 = mi 397 k.toNat := hv11000.symm.trans ((hFq10991 397 _ rfl).trans (hFq10984 397 _ rfl))
                refine y_iconst 95 c125_94 rfl ?_
                refine y_iadd 96 c125_95 rfl ?_
                refine y_iastore 97 c125_96 rfl ka397 (by omega) (y_nar0 _) ?_
                have hT11002 := hTq10991.up 397 k.toNat (v11000 + 1) 0 2 rfl (by omega)
                have hF11003 := hF10999.up 397 k.toNat (v11000 + 1) (wPz0_397 (by omega))
                refine y_aload 98 c125_97 rfl rfl rfl ?_
                refine y_getR 101 c125_98 rfl kf376_34 ?_
                refine y_iload 102 c125_101 rfl rfl ?_
                refine y_iaT 103 0 2 c125_102 rfl ka397 (by omega) hT11002 rfl (fun v11004 hv11004 gv11004 => ?_)
                have w9711005 : v11004 = v11000 + 1 := hv11004.symm.trans (yup_eq _ _ _ _)
                refine y_iconst 104 c125_103 rfl ?_
                refine y_icmp 120 107 c125_104 rfl rfl (yc_ne (by omega) (by omega)) (fun hb11006 => ?_) (fun hb11006 => ?_)
                · refine y_iconst 121 c125_120 rfl ?_
                  refine y_istore 122 c125_121 rfl rfl ?_
                  refine y_iload 123 c125_122 rfl rfl ?_
                  refine y_if 130 126 c125_123 rfl rfl (yz_eq (by omega)) (fun hb11007 => ?_) (fun hb11007 => ?_)
                  · refine y_goto 7 c125_130 rfl ?_
                    have es11008 : (yup mq10991 397 k.toNat (v11000 + 1)) 376 1 = m 376 1 := ((yup_na (by decide)).trans ((hFq10991 376 1 rfl).trans ((hFq10984 376 1 rfl).trans (hFi 376 1 rfl))))
                    have es11009 : (yup mq10991 397 k.toNat (v11000 + 1)) 376 3 = mq10984 376 3 := ((yup_na (by decide)).trans (hFq10991 376 3 rfl))
                    have es11010 : (yup mq10991 397 k.toNat (v11000 + 1)) 376 6 = mq10984 376 6 := ((yup_na (by decide)).trans (hFq10991 376 6 rfl))
                    have es11011 : (yup mq10991 397 k.toNat (v11000 + 1)) 376 8 = mq10984 376 8 := ((yup_na (by decide)).trans (hFq10991 376 8 rfl))
                    have es11012 : (yup mq10991 397 k.toNat (v11000 + 1)) 389 0 = mq10991 389 0 := rfl
                    have tb11013 := hTq10991.atp 389 0 0 48 rfl
                    have em11014 : mu (yup mq10991 397 k.toNat (v11000 + 1)) = mu mq10984 := mu_fr ((yup_na (by decide)).trans (hFq10991 376 1 rfl)) ((yup_na (by decide)).trans (hFq10991 376 3 rfl)) ((yup_na (by decide)).trans (hFq10991 376 6 rfl))
                    have e9711015 : (yup mq10991 397 k.toNat (v11000 + 1)) 397 k.toNat = v11000 + 1 := (yup_eq _ _ _ _)
                    exact ih (3 - (yup mq10991 397 k.toNat (v11000 + 1)) 397 k.toNat).toNat (by omega) 0 _ _ _ _ (by omega) (by omega) hT11002 hF11003 (by omega) (by omega) (by omega) (by omega) (fun q hq => ((yup_nk hq).trans ((hFq10991 397 q rfl).trans ((hFq10984 397 q rfl).trans (hz q hq)))))
                  · exfalso; omega
                · refine y_aload 108 c125_107 rfl rfl rfl ?_
                  refine y_iconst 110 c125_108 rfl ?_
                  have es11016 : (yup mq10991 397 k.toNat (v11000 + 1)) 376 3 = mq10984 376 3 := ((yup_na (by decide)).trans (hFq10991 376 3 rfl))
                  refine y_callP 113 [.ref 376, yI 44] [] c125_110 rfl rfl rfl rfl rfl (ycanO km117 ko376) (t117 hT11002 (by omega)) (fun r11017 hr11017 => ?_)
                  refine y_if 120 116 c125_113 rfl rfl (yz_eq (by omega)) (fun hb11018 => ?_) (fun hb11018 => ?_)
                  · refine y_iconst 121 c125_120 rfl ?_
                    refine y_istore 122 c125_121 rfl rfl ?_
                    refine y_iload 123 c125_122 rfl rfl ?_
                    refine y_if 130 126 c125_123 rfl rfl (yz_eq (by omega)) (fun hb11019 => ?_) (fun hb11019 => ?_)
                    · refine y_goto 7 c125_130 rfl ?_
                      have es11020 : (yup mq10991 397 k.toNat (v11000 + 1)) 376 1 = m 376 1 := ((yup_na (by decide)).trans ((hFq10991 376 1 rfl).trans ((hFq10984 376 1 rfl).trans (hFi 376 1 rfl))))
                      have es11021 : (yup mq10991 397 k.toNat (v11000 + 1)) 376 3 = mq10984 376 3 := ((yup_na (by decide)).trans (hFq10991 376 3 rfl))
                      have es11022 : (yup mq10991 397 k.toNat (v11000 + 1)) 376 6 = mq10984 376 6 := ((yup_na (by decide)).trans (hFq10991 376 6 rfl))
                      have es11023 : (yup mq10991 397 k.toNat (v11000 + 1)) 376 8 = mq10984 376 8 := ((yup_na (by decide)).trans (hFq10991 376 8 rfl))
                      have es11024 : (yup mq10991 397 k.toNat (v11000 + 1)) 389 0 = mq10991 389 0 := rfl
                      have tb11025 := hTq10991.atp 389 0 0 48 rfl
                      have em11026 : mu (yup mq10991 397 k.toNat (v11000 + 1)) = mu mq10984 := mu_fr ((yup_na (by decide)).trans (hFq10991 376 1 rfl)) ((yup_na (by decide)).trans (hFq10991 376 3 rfl)) ((yup_na (by decide)).trans (hFq10991 376 6 rfl))
                      have e9711027 : (yup mq10991 397 k.toNat (v11000 + 1)) 397 k.toNat = v11000 + 1 := (yup_eq _ _ _ _)
                      exact ih (3 - (yup mq10991 397 k.toNat (v11000 + 1)) 397 k.toNat).toNat (by omega) 0 _ _ _ _ (by omega) (by omega) hT11002 hF11003 (by omega) (by omega) (by omega) (by omega) (fun q hq => ((yup_nk hq).trans ((hFq10991 397 q rfl).trans ((hFq10984 397 q rfl).trans (hz q hq)))))
                    · exfalso; omega
                  · refine y_iconst 117 c125_116 rfl ?_
                    refine y_goto 121 c125_117 rfl ?_
                    refine y_istore 122 c125_121 rfl rfl ?_
                    refine y_iload 123 c125_122 rfl rfl ?_
                    refine y_if 130 126 c125_123 rfl rfl (yz_eq (by omega)) (fun hb11028 => ?_) (fun hb11028 => ?_)
                    · exfalso; omega
                    · refine y_aload 127 c125_126 rfl rfl rfl ?_
                      have es11030 : (yup mq10991 397 k.toNat (v11000 + 1)) 376 1 = m 376 1 := ((yup_na (by decide)).trans ((hFq10991 376 1 rfl).trans ((hFq10984 376 1 rfl).trans (hFi 376 1 rfl))))
                      have es11031 : (yup mq10991 397 k.toNat (v11000 + 1)) 376 3 = mq10984 376 3 := ((yup_na (by decide)).trans (hFq10991 376 3 rfl))
                      have es11032 : (yup mq10991 397 k.toNat (v11000 + 1)) 376 6 = mq10984 376 6 := ((yup_na (by decide)).trans (hFq10991 376 6 rfl))
                      have es11033 : (yup mq10991 397 k.toNat (v11000 + 1)) 376 8 = mq10984 376 8 := ((yup_na (by decide)).trans (hFq10991 376 8 rfl))
                      have em11034 : mu (yup mq10991 397 k.toNat (v11000 + 1)) = mu mq10984 := mu_fr ((yup_na (by decide)).trans (hFq10991 376 1 rfl)) ((yup_na (by decide)).trans (hFq10991 376 3 rfl)) ((yup_na (by decide)).trans (hFq10991 376 6 rfl))
                      refine y_callUB 130 [.ref 376] [] c125_127 rfl rfl rfl rfl rfl (ycanO km99 ko376) (t99u hT11002 (by omega)) (fun mq11029 nq11029 hq11029 => ?_)
                      obtain ⟨rfl, hTq11029, hFq11029, hq11029⟩ := hq11029
                      have x1q11029 : mq11029 376 1 = m 376 1 := ((hFq11029 376 1 rfl).trans ((yup_na (by decide)).trans ((hFq10991 376 1 rfl).trans ((hFq10984 376 1 rfl).trans (hFi 376 1 rfl)))))
                      have hF11035 := hF11003.tr hFq11029 wNx_wPz0
                      refine y_goto 7 c125_130 rfl ?_
                      have es11036 : mq11029 376 1 = m 376 1 := ((hFq11029 376 1 rfl).trans ((yup_na (by decide)).trans ((hFq10991 376 1 rfl).trans ((hFq10984 376 1 rfl).trans (hFi 376 1 rfl)))))
                      have tb11037 := hTq11029.atp 376 3 0 3 rfl
                      have tb11038 := hTq11029.atp 376 6 0 320 rfl
                      have es11039 : mq11029 376 8 = mq10984 376 8 := ((hFq11029 376 8 rfl).trans ((yup_na (by decide)).trans (hFq10991 376 8 rfl)))
                      have es11040 : mq11029 389 0 = mq10991 389 0 := ((hFq11029 389 0 rfl).trans (yup_na (by decide)))
                      have tb11041 := hTq10991.atp 389 0 0 48 rfl
                      have e9711042 : mq11029 397 k.toNat = v11000 + 1 := ((hFq11029 397 _ rfl).trans (yup_eq _ _ _ _))
                      exact ih (3 - mq11029 397 k.toNat).toNat (by omega) 1 _ _ _ _ (by omega) (by omega) hTq11029 hF11035 (by omega) (by omega) (by omega) (by omega) (fun q hq => ((hFq11029 397 q rfl).trans ((yup_nk hq).trans ((hFq10991 397 q rfl).trans ((hFq10984 397 q rfl).trans (hz q hq))))))
              · have es11043 : mq10984 376 1 = m 376 1 := ((hFq10984 376 1 rfl).trans (hFi 376 1 rfl))
                have tb11044 := hTq10984.atp 376 3 0 3 rfl
                have tb11045 := hTq10984.atp 376 6 0 320 rfl
                have tb11046 := hTq10984.atp 376 8 ((-1)) 320 rfl
                have es11047 : mq10984 389 0 = mi 389 0 := (hFq10984 389 0 rfl)
                have e9711048 : mq10984 397 k.toNat = mi 397 k.toNat := (hFq10984 397 _ rfl)
                exact y_retU c125_78 ⟨rfl, hTq10984, hF10989, by omega, by omega, fun q hq => ((hFq10984 397 q rfl).trans (hz q hq))⟩
set_option maxRecDepth 100000 in
theorem t125_0 {L : Nat} {xs : Nat → Int32} {d nn : Nat} {m : yM} {k : Int} (hT : Ty gT m) (hl : m 376 6 ≤ m 376 1) (hn : m 376 18 = 1) (hk : 0 ≤ k ∧ k < 10) (h8 : m 376 8 < 0) (hI : m 398 k.toNat + 2 + m 397 k.toNat = m 389 0 ∧ m 376 14 = m 398 k.toNat) (hs : m 397 k.toNat ≤ 1) : YC (gZ L xs) (d + 5) 125 [.ref 376, yI k] m nn (qU (fun m' n' => n' = nn ∧ Ty gT m' ∧ Fr wPz0 m m' ∧ m' 376 6 ≤ m' 376 1 ∧ (m 398 k.toNat + 2 + m' 397 k.toNat ≤ 48 ∧ (0 ≤ m' 376 8 ∨ (m' 376 8 < 0 ∧ mu m' ≤ mu m))) ∧ ∀ q, q ≠ k.toNat → m' 397 q = m 397 q)) := by
  have t97 := hT.atp 397 k.toNat 0 2 rfl
  refine YC.mkB [some (.ref 376), some (yI k), none, none, none, none, none] kn125 rfl rfl ?_
  refine y_aload 1 c125_0 rfl rfl rfl ?_
  have tb11050 := hT.atp 376 18 0 1 rfl
  refine y_callP 4 [.ref 376] [] c125_1 rfl rfl rfl rfl rfl (ycanO km96 ko376) (t96_0 (by omega)) (fun r11049 hr11049 => ?_)
  subst hr11049
  refine y_istore 5 c125_4 rfl rfl ?_
  refine y_iconst 6 c125_5 rfl ?_
  refine y_istore 7 c125_6 rfl rfl ?_
  exact t125a_0 hT hl hn hk h8 (3 - m 397 k.toNat).toNat 1 _ _ _ _ (by omega) (by omega) hT Fr.rf hl h8 (by omega) hI (fun q hq => rfl)
set_option maxRecDepth 100000 in
theorem t125a_1 {L : Nat} {xs : Nat → Int32} {d nn : Nat} {m : yM} {k : Int} (hT : Ty gT m) (hl : m 376 6 ≤ m 376 1) (hn : m 376 18 = 0) (hk : 10 ≤ k ∧ k < 20) (h8 : m 376 8 < 0) : ∀ (km : Nat) (g : Int) (y4 : Option Value) (y5 : Option Value) (y6 : Option Value) (mi : yM), 3 - mi 397 k.toNat = km → (g = 0 ∨ g = 1) ∧ (g = 1 → mi 397 k.toNat ≤ 1) → Ty gT mi → Fr wPz1 m mi → mi 376 6 ≤ mi 376 1 → mi 376 8 < 0 → mu mi ≤ mu m → m 398 k.toNat + 2 + mi 397 k.toNat = mi 389 1 ∧ m 376 14 = m 398 k.toNat → (∀ q, q ≠ k.toNat → mi 397 q = m 397 q) → YW (gZ L xs) 125 (d + 5) 7 [some (.ref 376), some (yI k), some (yI 1), some (yI g), y4, y5, y6] [] mi nn (qU (fun m' n' => n' = nn ∧ Ty gT m' ∧ Fr wPz1 m m' ∧ m' 376 6 ≤ m' 376 1 ∧ (m 398 k.toNat + 2 + m' 397 k.toNat ≤ 48 ∧ (0 ≤ m' 376 8 ∨ (m' 376 8 < 0 ∧ mu m' ≤ mu m))) ∧ ∀ q, q ≠ k.toNat → m' 397 q = m 397 q)) := by
  intro km
  induction km using Nat.strongRecOn with
  | ind km ih =>
    intro g y4 y5 y6 mi hk hg hTi hFi hli h8i hmu hI hz
    have tc := hTi.atp 389 1 0 48 rfl
    have t97 := hTi.atp 397 k.toNat 0 2 rfl
    have t14 := hTi.atp 376 14 0 46 rfl
    have e14 : mi 376 14 = m 376 14 := hFi 376 14 rfl
    have e18 : mi 376 18 = m 376 18 := hFi 376 18 rfl
    have em1 : mi 376 1 = m 376 1 := hFi 376 1 rfl
    refine y_iload 8 c125_7 rfl rfl ?_
    refine y_if 133 11 c125_8 rfl rfl (yz_eq (by omega)) (fun hb11433 => ?_) (fun hb11433 => ?_)
    · have es11434 : mi 376 1 = m 376 1 := (hFi 376 1 rfl)
      have tb11435 := hT.atp 376 1 0 320 rfl
      have tb11436 := hTi.atp 376 3 0 3 rfl
      have tb11437 := hTi.atp 376 6 0 320 rfl
      have tb11438 := hTi.atp 376 8 ((-1)) 320 rfl
      exact y_retU c125_133 ⟨rfl, hTi, hFi, by omega, by omega, fun q hq => (hz q hq)⟩
    · refine y_aload 12 c125_11 rfl rfl rfl ?_
      have tb11439 := hTi.atp 376 3 0 3 rfl
      refine y_callP 15 [.ref 376] [] c125_12 rfl rfl rfl rfl rfl (ycanO km115 ko376) (t115 hTi) (fun r11440 hr11440 => ?_)
      refine y_if 60 18 c125_15 rfl rfl (yz_eq (by omega)) (fun hb11441 => ?_) (fun hb11441 => ?_)
      · refine y_iconst 61 c125_60 rfl ?_
        refine y_istore 63 c125_61 rfl rfl ?_
        refine y_aload 64 c125_63 rfl rfl rfl ?_
        refine y_getX 67 (mi 376 4) c125_64 rfl kf376_4 rfl ?_
        have tb11442 := hTi.atp 376 4 ((-2147483648)) 2147483647 rfl
        refine y_istore 69 c125_67 rfl rfl ?_
        refine y_aload 70 c125_69 rfl rfl rfl ?_
        refine y_iload 72 c125_70 rfl rfl ?_
        have es11444 : mi 376 1 = m 376 1 := (hFi 376 1 rfl)
        have tb11445 := hT.atp 376 1 0 320 rfl
        have tb11446 := hTi.atp 376 6 0 320 rfl
        have tb11447 := hTi.atp 376 8 ((-1)) 320 rfl
        refine y_callIB 75 [.ref 376, yI 0] [] c125_72 rfl rfl rfl rfl rfl (ycanO km105 ko376) (t105 (g := 0) hTi (by omega) (by omega)) (fun rq11443 mq11443 nq11443 hq11443 => ?_)
        obtain ⟨rfl, hTq11443, hFq11443, hq11443⟩ := hq11443
        have x1q11443 : mq11443 376 1 = m 376 1 := ((hFq11443 376 1 rfl).trans (hFi 376 1 rfl))
        have hF11448 := hFi.tr hFq11443 wNw_wPz1
        refine y_if 79 78 c125_75 rfl rfl (yz_ne (by omega)) (fun hb11449 => ?_) (fun hb11449 => ?_)
        · exfalso; omega
        · have es11450 : mq11443 376 1 = m 376 1 := ((hFq11443 376 1 rfl).trans (hFi 376 1 rfl))
          have tb11451 := hTq11443.atp 376 3 0 3 rfl
          have tb11452 := hTq11443.atp 376 6 0 320 rfl
          have tb11453 := hTq11443.atp 376 8 ((-1)) 320 rfl
          have es11454 : mq11443 389 1 = mi 389 1 := (hFq11443 389 1 rfl)
          have e9711455 : mq11443 397 k.toNat = mi 397 k.toNat := (hFq11443 397 _ rfl)
          exact y_retU c125_78 ⟨rfl, hTq11443, hF11448, by omega, by omega, fun q hq => ((hFq11443 397 q rfl).trans (hz q hq))⟩
      · refine y_aload 19 c125_18 rfl rfl rfl ?_
        refine y_getR 22 c125_19 rfl kf376_26 ?_
        refine y_iload 23 c125_22 rfl rfl ?_
        refine y_iaX 24 (mi 389 1) c125_23 rfl ka389 (by decide) rfl ?_
        refine y_iconst 26 c125_24 rfl ?_
        refine y_icmp 60 29 c125_26 rfl rfl (yc_ge (by omega) (by omega)) (fun hb11456 => ?_) (fun hb11456 => ?_)
        · refine y_iconst 61 c125_60 rfl ?_
          refine y_istore 63 c125_61 rfl rfl ?_
          refine y_aload 64 c125_63 rfl rfl rfl ?_
          refine y_getX 67 (mi 376 4) c125_64 rfl kf376_4 rfl ?_
          have tb11457 := hTi.atp 376 4 ((-2147483648)) 2147483647 rfl
          refine y_istore 69 c125_67 rfl rfl ?_
          refine y_aload 70 c125_69 rfl rfl rfl ?_
          refine y_iload 72 c125_70 rfl rfl ?_
          have es11459 : mi 376 1 = m 376 1 := (hFi 376 1 rfl)
          have tb11460 := hT.atp 376 1 0 320 rfl
          have tb11461 := hTi.atp 376 6 0 320 rfl
          have tb11462 := hTi.atp 376 8 ((-1)) 320 rfl
          refine y_callIB 75 [.ref 376, yI 0] [] c125_72 rfl rfl rfl rfl rfl (ycanO km105 ko376) (t105 (g := 0) hTi (by omega) (by omega)) (fun rq11458 mq11458 nq11458 hq11458 => ?_)
          obtain ⟨rfl, hTq11458, hFq11458, hq11458⟩ := hq11458
          have x1q11458 : mq11458 376 1 = m 376 1 := ((hFq11458 376 1 rfl).trans (hFi 376 1 rfl))
          have hF11463 := hFi.tr hFq11458 wNw_wPz1
          refine y_if 79 78 c125_75 rfl rfl (yz_ne (by omega)) (fun hb11464 => ?_) (fun hb11464 => ?_)
          · exfalso; omega
          · have es11465 : mq11458 376 1 = m 376 1 := ((hFq11458 376 1 rfl).trans (hFi 376 1 rfl))
            have tb11466 := hTq11458.atp 376 3 0 3 rfl
            have tb11467 := hTq11458.atp 376 6 0 320 rfl
            have tb11468 := hTq11458.atp 376 8 ((-1)) 320 rfl
            have es11469 : mq11458 389 1 = mi 389 1 := (hFq11458 389 1 rfl)
            have e9711470 : mq11458 397 k.toNat = mi 397 k.toNat := (hFq11458 397 _ rfl)
            exact y_retU c125_78 ⟨rfl, hTq11458, hF11463, by omega, by omega, fun q hq => ((hFq11458 397 q rfl).trans (hz q hq))⟩
        · refine y_aload 30 c125_29 rfl rfl rfl ?_
          refine y_getR 33 c125_30 rfl kf376_34 ?_
          refine y_iload 34 c125_33 rfl rfl ?_
          refine y_iaT 35 0 2 c125_34 rfl ka397 (by omega) hTi rfl (fun v11471 hv11471 gv11471 => ?_)
          have w9711472 : v11471 = mi 397 k.toNat := hv11471.symm.trans rfl
          refine y_if 56 38 c125_35 rfl rfl (yz_eq (by omega)) (fun hb11473 => ?_) (fun hb11473 => ?_)
          · refine y_iconst 57 c125_56 rfl ?_
            refine y_goto 61 c125_57 rfl ?_
            refine y_istore 63 c125_61 rfl rfl ?_
            refine y_aload 64 c125_63 rfl rfl rfl ?_
            refine y_getX 67 (mi 376 4) c125_64 rfl kf376_4 rfl ?_
            have tb11474 := hTi.atp 376 4 ((-2147483648)) 2147483647 rfl
            refine y_istore 69 c125_67 rfl rfl ?_
            refine y_aload 70 c125_69 rfl rfl rfl ?_
            refine y_iload 72 c125_70 rfl rfl ?_
            have es11476 : mi 376 1 = m 376 1 := (hFi 376 1 rfl)
            have tb11477 := hT.atp 376 1 0 320 rfl
            have tb11478 := hTi.atp 376 6 0 320 rfl
            have tb11479 := hTi.atp 376 8 ((-1)) 320 rfl
            refine y_callIB 75 [.ref 376, yI 1] [] c125_72 rfl rfl rfl rfl rfl (ycanO km105 ko376) (t105 (g := 1) hTi (by omega) (by omega)) (fun rq11475 mq11475 nq11475 hq11475 => ?_)
            obtain ⟨rfl, hTq11475, hFq11475, hq11475⟩ := hq11475
            have x1q11475 : mq11475 376 1 = m 376 1 := ((hFq11475 376 1 rfl).trans (hFi 376 1 rfl))
            have hF11480 := hFi.tr hFq11475 wNw_wPz1
            refine y_if 79 78 c125_75 rfl rfl (yz_ne (by omega)) (fun hb11481 => ?_) (fun hb11481 => ?_)
            · refine y_aload 80 c125_79 rfl rfl rfl ?_
              refine y_iload 82 c125_80 rfl rfl ?_
              have es11483 : mq11475 376 1 = m 376 1 := ((hFq11475 376 1 rfl).trans (hFi 376 1 rfl))
              have tb11484 := hTq11475.atp 376 3 0 3 rfl
              have tb11485 := hTq11475.atp 376 6 0 320 rfl
              have tb11486 := hTq11475.atp 376 8 ((-1)) 320 rfl
              have es11487 : mq11475 376 18 = m 376 18 := ((hFq11475 376 18 rfl).trans (hFi 376 18 rfl))
              have tb11488 := hT.atp 376 18 0 1 rfl
              have es11489 : mq11475 389 1 = mi 389 1 := (hFq11475 389 1 rfl)
              refine y_callIB 85 [.ref 376, yI (mi 376 4)] [] c125_82 rfl rfl rfl rfl rfl (ycanO km124 ko376) (t124_1 hTq11475 (by omega) (by omega) (by omega)) (fun rq11482 mq11482 nq11482 hq11482 => ?_)
              obtain ⟨rfl, hTq11482, hFq11482, hq11482⟩ := hq11482
              have x1q11482 : mq11482 376 1 = m 376 1 := ((hFq11482 376 1 rfl).trans ((hFq11475 376 1 rfl).trans (hFi 376 1 rfl)))
              have hF11490 := hF11480.tr hFq11482 wVp1_wPz1
              refine y_istore 87 c125_85 rfl rfl ?_
              refine y_aload 88 c125_87 rfl rfl rfl ?_
              refine y_getR 91 c125_88 rfl kf376_34 ?_
              refine y_iload 92 c125_91 rfl rfl ?_
              refine y_dup2 93 c125_92 rfl ⟨rfl, rfl⟩ ?_
              refine y_iaT 94 0 2 c125_93 rfl ka397 (by omega) hTq11482 rfl (fun v11491 hv11491 gv11491 => ?_)
              have w9711492 : v11491 = mi 397 k.toNat := hv11491.symm.trans ((hFq11482 397 _ rfl).trans (hFq11475 397 _ rfl))
              refine y_iconst 95 c125_94 rfl ?_
              refine y_iadd 96 c125_95 rfl ?_
              refine y_iastore 97 c125_96 rfl ka397 (by omega) (y_nar0 _) ?_
              have hT11493 := hTq11482.up 397 k.toNat (v11491 + 1) 0 2 rfl (by omega)
              have hF11494 := hF11490.up 397 k.toNat (v11491 + 1) (wPz1_397 (by omega))
              refine y_aload 98 c125_97 rfl rfl rfl ?_
              refine y_getR 101 c125_98 rfl kf376_34 ?_
              refine y_iload 102 c125_101 rfl rfl ?_
              refine y_iaT 103 0 2 c125_102 rfl ka397 (by omega) hT11493 rfl (fun v11495 hv11495 gv11495 => ?_)
              have w9711496 : v11495 = v11491 + 1 := hv11495.symm.trans (yup_eq _ _ _ _)
              refine y_iconst 104 c125_103 rfl ?_
              refine y_icmp 120 107 c125_104 rfl rfl (yc_ne (by omega) (by omega)) (fun hb11497 => ?_) (fun hb11497 => ?_)
              · refine y_iconst 121 c125_120 rfl ?_
                refine y_istore 122 c125_121 rfl rfl ?_
                refine y_iload 123 c125_122 rfl rfl ?_
                refine y_if 130 126 c125_123 rfl rfl (yz_eq (by omega)) (fun hb11498 => ?_) (fun hb11498 => ?_)
                · refine y_goto 7 c125_130 rfl ?_
                  have es11499 : (yup mq11482 397 k.toNat (v11491 + 1)) 376 1 = m 376 1 := ((yup_na (by decide)).trans ((hFq11482 376 1 rfl).trans ((hFq11475 376 1 rfl).trans (hFi 376 1 rfl))))
                  have es11500 : (yup mq11482 397 k.toNat (v11491 + 1)) 376 3 = mq11475 376 3 := ((yup_na (by decide)).trans (hFq11482 376 3 rfl))
                  have es11501 : (yup mq11482 397 k.toNat (v11491 + 1)) 376 6 = mq11475 376 6 := ((yup_na (by decide)).trans (hFq11482 376 6 rfl))
                  have es11502 : (yup mq11482 397 k.toNat (v11491 + 1)) 376 8 = mq11475 376 8 := ((yup_na (by decide)).trans (hFq11482 376 8 rfl))
                  have es11503 : (yup mq11482 397 k.toNat (v11491 + 1)) 389 1 = mq11482 389 1 := rfl
                  have tb11504 := hTq11482.atp 389 1 0 48 rfl
                  have em11505 : mu (yup mq11482 397 k.toNat (v11491 + 1)) = mu mq11475 := mu_fr ((yup_na (by decide)).trans (hFq11482 376 1 rfl)) ((yup_na (by decide)).trans (hFq11482 376 3 rfl)) ((yup_na (by decide)).trans (hFq11482 376 6 rfl))
                  have e9711506 : (yup mq11482 397 k.toNat (v11491 + 1)) 397 k.toNat = v11491 + 1 := (yup_eq _ _ _ _)
                  exact ih (3 - (yup mq11482 397 k.toNat (v11491 + 1)) 397 k.toNat).toNat (by omega) 0 _ _ _ _ (by omega) (by omega) hT11493 hF11494 (by omega) (by omega) (by omega) (by omega) (fun q hq => ((yup_nk hq).trans ((hFq11482 397 q rfl).trans ((hFq11475 397 q rfl).trans (hz q hq)))))
                · exfalso; omega
              · refine y_aload 108 c125_107 rfl rfl rfl ?_
                refine y_iconst 110 c125_108 rfl ?_
                have es11507 : (yup mq11482 397 k.toNat (v11491 + 1)) 376 3 = mq11475 376 3 := ((yup_na (by decide)).trans (hFq11482 376 3 rfl))
                refine y_callP 113 [.ref 376, yI 44] [] c125_110 rfl rfl rfl rfl rfl (ycanO km117 ko376) (t117 hT11493 (by omega)) (fun r11508 hr11508 => ?_)
                refine y_if 120 116 c125_113 rfl rfl (yz_eq (by omega)) (fun hb11509 => ?_) (fun hb11509 => ?_)
                · refine y_iconst 121 c125_120 rfl ?_
                  refine y_istore 122 c125_121 rfl rfl ?_
                  refine y_iload 123 c125_122 rfl rfl ?_
                  refine y_if 130 126 c125_123 rfl rfl (yz_eq (by omega)) (fun hb11510 => ?_) (fun hb11510 => ?_)
                  · refine y_goto 7 c125_130 rfl ?_
                    have es11511 : (yup mq11482 397 k.toNat (v11491 + 1)) 376 1 = m 376 1 := ((yup_na (by decide)).trans ((hFq11482 376 1 rfl).trans ((hFq11475 376 1 rfl).trans (hFi 376 1 rfl))))
                    have es11512 : (yup mq11482 397 k.toNat (v11491 + 1)) 376 3 = mq11475 376 3 := ((yup_na (by decide)).trans (hFq11482 376 3 rfl))
                    have es11513 : (yup mq11482 397 k.toNat (v11491 + 1)) 376 6 = mq11475 376 6 := ((yup_na (by decide)).trans (hFq11482 376 6 rfl))
                    have es11514 : (yup mq11482 397 k.toNat (v11491 + 1)) 376 8 = mq11475 376 8 := ((yup_na (by decide)).trans (hFq11482 376 8 rfl))
                    have es11515 : (yup mq11482 397 k.toNat (v11491 + 1)) 389 1 = mq11482 389 1 := rfl
                    have tb11516 := hTq11482.atp 389 1 0 48 rfl
                    have em11517 : mu (yup mq11482 397 k.toNat (v11491 + 1)) = mu mq11475 := mu_fr ((yup_na (by decide)).trans (hFq11482 376 1 rfl)) ((yup_na (by decide)).trans (hFq11482 376 3 rfl)) ((yup_na (by decide)).trans (hFq11482 376 6 rfl))
                    have e9711518 : (yup mq11482 397 k.toNat (v11491 + 1)) 397 k.toNat = v11491 + 1 := (yup_eq _ _ _ _)
                    exact ih (3 - (yup mq11482 397 k.toNat (v11491 + 1)) 397 k.toNat).toNat (by omega) 0 _ _ _ _ (by omega) (by omega) hT11493 hF11494 (by omega) (by omega) (by omega) (by omega) (fun q hq => ((yup_nk hq).trans ((hFq11482 397 q rfl).trans ((hFq11475 397 q rfl).trans (hz q hq)))))
                  · exfalso; omega
                · refine y_iconst 117 c125_116 rfl ?_
                  refine y_goto 121 c125_117 rfl ?_
                  refine y_istore 122 c125_121 rfl rfl ?_
                  refine y_iload 123 c125_122 rfl rfl ?_
                  refine y_if 130 126 c125_123 rfl rfl (yz_eq (by omega)) (fun hb11519 => ?_) (fun hb11519 => ?_)
                  · exfalso; omega
                  · refine y_aload 127 c125_126 rfl rfl rfl ?_
                    have es11521 : (yup mq11482 397 k.toNat (v11491 + 1)) 376 1 = m 376 1 := ((yup_na (by decide)).trans ((hFq11482 376 1 rfl).trans ((hFq11475 376 1 rfl).trans (hFi 376 1 rfl))))
                    have es11522 : (yup mq11482 397 k.toNat (v11491 + 1)) 376 3 = mq11475 376 3 := ((yup_na (by decide)).trans (hFq11482 376 3 rfl))
                    have es11523 : (yup mq11482 397 k.toNat (v11491 + 1)) 376 6 = mq11475 376 6 := ((yup_na (by decide)).trans (hFq11482 376 6 rfl))
                    have es11524 : (yup mq11482 397 k.toNat (v11491 + 1)) 376 8 = mq11475 376 8 := ((yup_na (by decide)).trans (hFq11482 376 8 rfl))
                    have em11525 : mu (yup mq11482 397 k.toNat (v11491 + 1)) = mu mq11475 := mu_fr ((yup_na (by decide)).trans (hFq11482 376 1 rfl)) ((yup_na (by decide)).trans (hFq11482 376 3 rfl)) ((yup_na (by decide)).trans (hFq11482 376 6 rfl))
                    refine y_callUB 130 [.ref 376] [] c125_127 rfl rfl rfl rfl rfl (ycanO km99 ko376) (t99u hT11493 (by omega)) (fun mq11520 nq11520 hq11520 => ?_)
                    obtain ⟨rfl, hTq11520, hFq11520, hq11520⟩ := hq11520
                    have x1q11520 : mq11520 376 1 = m 376 1 := ((hFq11520 376 1 rfl).trans ((yup_na (by decide)).trans ((hFq11482 376 1 rfl).trans ((hFq11475 376 1 rfl).trans (hFi 376 1 rfl)))))
                    have hF11526 := hF11494.tr hFq11520 wNx_wPz1
                    refine y_goto 7 c125_130 rfl ?_
                    have es11527 : mq11520 376 1 = m 376 1 := ((hFq11520 376 1 rfl).trans ((yup_na (by decide)).trans ((hFq11482 376 1 rfl).trans ((hFq11475 376 1 rfl).trans (hFi 376 1 rfl)))))
                    have tb11528 := hTq11520.atp 376 3 0 3 rfl
                    have tb11529 := hTq11520.atp 376 6 0 320 rfl
                    have es11530 : mq11520 376 8 = mq11475 376 8 := ((hFq11520 376 8 rfl).trans ((yup_na (by decide)).trans (hFq11482 376 8 rfl)))
                    have es11531 : mq11520 389 1 = mq11482 389 1 := ((hFq11520 389 1 rfl).trans (yup_na (by decide)))
                    have tb11532 := hTq11482.atp 389 1 0 48 rfl
                    have e9711533 : mq11520 397 k.toNat = v11491 + 1 := ((hFq11520 397 _ rfl).trans (yup_eq _ _ _ _))
                    exact ih (3 - mq11520 397 k.toNat).toNat (by omega) 1 _ _ _ _ (by omega) (by omega) hTq11520 hF11526 (by omega) (by omega) (by omega) (by omega) (fun q hq => ((hFq11520 397 q rfl).trans ((yup_nk hq).trans ((hFq11482 397 q rfl).trans ((hFq11475 397 q rfl).trans (hz q hq))))))
            · have es11534 : mq11475 376 1 = m 376 1 := ((hFq11475 376 1 rfl).trans (hFi 376 1 rfl))
              have tb11535 := hTq11475.atp 376 3 0 3 rfl
              have tb11536 := hTq11475.atp 376 6 0 320 rfl
              have tb11537 := hTq11475.atp 376 8 ((-1)) 320 rfl
              have es11538 : mq11475 389 1 = mi 389 1 := (hFq11475 389 1 rfl)
              have e9711539 : mq11475 397 k.toNat = mi 397 k.toNat := (hFq11475 397 _ rfl)
              exact y_retU c125_78 ⟨rfl, hTq11475, hF11480, by omega, by omega, fun q hq => ((hFq11475 397 q rfl).trans (hz q hq))⟩
          · refine y_aload 39 c125_38 rfl rfl rfl ?_
            refine y_getR 42 c125_39 rfl kf376_13 ?_
            refine y_aload 43 c125_42 rfl rfl rfl ?_
            refine y_getX 46 (m 376 14) c125_43 rfl kf376_14 (hFi 376 14 rfl) ?_
            have tb11540 := hT.atp 376 14 0 46 rfl
            refine y_iconst 47 c125_46 rfl ?_
            refine y_iadd 48 c125_47 rfl ?_
            refine y_iaT 49 ((-2147483648)) 2147483647 c125_48 rfl ka380 (by omega) hTi rfl (fun v11541 hv11541 gv11541 => ?_)
            refine y_aload 50 c125_49 rfl rfl rfl ?_
            refine y_getX 53 (mi 376 4) c125_50 rfl kf376_4 rfl ?_
            have tb11542 := hTi.atp 376 4 ((-2147483648)) 2147483647 rfl
            refine y_icmp 60 56 c125_53 rfl rfl (yc_eq (by omega) (by omega)) (fun hb11543 => ?_) (fun hb11543 => ?_)
            · refine y_iconst 61 c125_60 rfl ?_
              refine y_istore 63 c125_61 rfl rfl ?_
              refine y_aload 64 c125_63 rfl rfl rfl ?_
              refine y_getX 67 (mi 376 4) c125_64 rfl kf376_4 rfl ?_
              refine y_istore 69 c125_67 rfl rfl ?_
              refine y_aload 70 c125_69 rfl rfl rfl ?_
              refine y_iload 72 c125_70 rfl rfl ?_
              have es11545 : mi 376 1 = m 376 1 := (hFi 376 1 rfl)
              have tb11546 := hT.atp 376 1 0 320 rfl
              have tb11547 := hTi.atp 376 6 0 320 rfl
              have tb11548 := hTi.atp 376 8 ((-1)) 320 rfl
              refine y_callIB 75 [.ref 376, yI 0] [] c125_72 rfl rfl rfl rfl rfl (ycanO km105 ko376) (t105 (g := 0) hTi (by omega) (by omega)) (fun rq11544 mq11544 nq11544 hq11544 => ?_)
              obtain ⟨rfl, hTq11544, hFq11544, hq11544⟩ := hq11544
              have x1q11544 : mq11544 376 1 = m 376 1 := ((hFq11544 376 1 rfl).trans (hFi 376 1 rfl))
              have hF11549 := hFi.tr hFq11544 wNw_wPz1
              refine y_if 79 78 c125_75 rfl rfl (yz_ne (by omega)) (fun hb11550 => ?_) (fun hb11550 => ?_)
              · exfalso; omega
              · have es11551 : mq11544 376 1 = m 376 1 := ((hFq11544 376 1 rfl).trans (hFi 376 1 rfl))
                have tb11552 := hTq11544.atp 376 3 0 3 rfl
                have tb11553 := hTq11544.atp 376 6 0 320 rfl
                have tb11554 := hTq11544.atp 376 8 ((-1)) 320 rfl
                have es11555 : mq11544 389 1 = mi 389 1 := (hFq11544 389 1 rfl)
                have e9711556 : mq11544 397 k.toNat = mi 397 k.toNat := (hFq11544 397 _ rfl)
                exact y_retU c125_78 ⟨rfl, hTq11544, hF11549, by omega, by omega, fun q hq => ((hFq11544 397 q rfl).trans (hz q hq))⟩
            · refine y_iconst 57 c125_56 rfl ?_
              refine y_goto 61 c125_57 rfl ?_
              refine y_istore 63 c125_61 rfl rfl ?_
              refine y_aload 64 c125_63 rfl rfl rfl ?_
              refine y_getX 67 (mi 376 4) c125_64 rfl kf376_4 rfl ?_
              refine y_istore 69 c125_67 rfl rfl ?_
              refine y_aload 70 c125_69 rfl rfl rfl ?_
              refine y_iload 72 c125_70 rfl rfl ?_
              have es11558 : mi 376 1 = m 376 1 := (hFi 376 1 rfl)
              have tb11559 := hT.atp 376 1 0 320 rfl
              have tb11560 := hTi.atp 376 6 0 320 rfl
              have tb11561 := hTi.atp 376 8 ((-1)) 320 rfl
              refine y_callIB 75 [.ref 376, yI 1] [] c125_72 rfl rfl rfl rfl rfl (ycanO km105 ko376) (t105 (g := 1) hTi (by omega) (by omega)) (fun rq11557 mq11557 nq11557 hq11557 => ?_)
              obtain ⟨rfl, hTq11557, hFq11557, hq11557⟩ := hq11557
              have x1q11557 : mq11557 376 1 = m 376 1 := ((hFq11557 376 1 rfl).trans (hFi 376 1 rfl))
              have hF11562 := hFi.tr hFq11557 wNw_wPz1
              refine y_if 79 78 c125_75 rfl rfl (yz_ne (by omega)) (fun hb11563 => ?_) (fun hb11563 => ?_)
              · refine y_aload 80 c125_79 rfl rfl rfl ?_
                refine y_iload 82 c125_80 rfl rfl ?_
                have es11565 : mq11557 376 1 = m 376 1 := ((hFq11557 376 1 rfl).trans (hFi 376 1 rfl))
                have tb11566 := hTq11557.atp 376 3 0 3 rfl
                have tb11567 := hTq11557.atp 376 6 0 320 rfl
                have tb11568 := hTq11557.atp 376 8 ((-1)) 320 rfl
                have es11569 : mq11557 376 18 = m 376 18 := ((hFq11557 376 18 rfl).trans (hFi 376 18 rfl))
                have tb11570 := hT.atp 376 18 0 1 rfl
                have es11571 : mq11557 389 1 = mi 389 1 := (hFq11557 389 1 rfl)
                refine y_callIB 85 [.ref 376, yI (mi 376 4)] [] c125_82 rfl rfl rfl rfl rfl (ycanO km124 ko376) (t124_1 hTq11557 (by omega) (by omega) (by omega)) (fun rq11564 mq11564 nq11564 hq11564 => ?_)
                obtain ⟨rfl, hTq11564, hFq11564, hq11564⟩ := hq11564
                have x1q11564 : mq11564 376 1 = m 376 1 := ((hFq11564 376 1 rfl).trans ((hFq11557 376 1 rfl).trans (hFi 376 1 rfl)))
                have hF11572 := hF11562.tr hFq11564 wVp1_wPz1
                refine y_istore 87 c125_85 rfl rfl ?_
                refine y_aload 88 c125_87 rfl rfl rfl ?_
                refine y_getR 91 c125_88 rfl kf376_34 ?_
                refine y_iload 92 c125_91 rfl rfl ?_
                refine y_dup2 93 c125_92 rfl ⟨rfl, rfl⟩ ?_
                refine y_iaT 94 0 2 c125_93 rfl ka397 (by omega) hTq11564 rfl (fun v11573 hv11573 gv11573 => ?_)
                have w9711574 : v11573 = mi 397 k.toNat := hv11573.symm.trans ((hFq11564 397 _ rfl).trans (hFq11557 397 _ rfl))
                refine y_iconst 95 c125_94 rfl ?_
                refine y_iadd 96 c125_95 rfl ?_
                refine y_iastore 97 c125_96 rfl ka397 (by omega) (y_nar0 _) ?_
                have hT11575 := hTq11564.up 397 k.toNat (v11573 + 1) 0 2 rfl (by omega)
                have hF11576 := hF11572.up 397 k.toNat (v11573 + 1) (wPz1_397 (by omega))
                refine y_aload 98 c125_97 rfl rfl rfl ?_
                refine y_getR 101 c125_98 rfl kf376_34 ?_
                refine y_iload 102 c125_101 rfl rfl ?_
                refine y_iaT 103 0 2 c125_102 rfl ka397 (by omega) hT11575 rfl (fun v11577 hv11577 gv11577 => ?_)
                have w9711578 : v11577 = v11573 + 1 := hv11577.symm.trans (yup_eq _ _ _ _)
                refine y_iconst 104 c125_103 rfl ?_
                refine y_icmp 120 107 c125_104 rfl rfl (yc_ne (by omega) (by omega)) (fun hb11579 => ?_) (fun hb11579 => ?_)
                · refine y_iconst 121 c125_120 rfl ?_
                  refine y_istore 122 c125_121 rfl rfl ?_
                  refine y_iload 123 c125_122 rfl rfl ?_
                  refine y_if 130 126 c125_123 rfl rfl (yz_eq (by omega)) (fun hb11580 => ?_) (fun hb11580 => ?_)
                  · refine y_goto 7 c125_130 rfl ?_
                    have es11581 : (yup mq11564 397 k.toNat (v11573 + 1)) 376 1 = m 376 1 := ((yup_na (by decide)).trans ((hFq11564 376 1 rfl).trans ((hFq11557 376 1 rfl).trans (hFi 376 1 rfl))))
                    have es11582 : (yup mq11564 397 k.toNat (v11573 + 1)) 376 3 = mq11557 376 3 := ((yup_na (by decide)).trans (hFq11564 376 3 rfl))
                    have es11583 : (yup mq11564 397 k.toNat (v11573 + 1)) 376 6 = mq11557 376 6 := ((yup_na (by decide)).trans (hFq11564 376 6 rfl))
                    have es11584 : (yup mq11564 397 k.toNat (v11573 + 1)) 376 8 = mq11557 376 8 := ((yup_na (by decide)).trans (hFq11564 376 8 rfl))
                    have es11585 : (yup mq11564 397 k.toNat (v11573 + 1)) 389 1 = mq11564 389 1 := rfl
                    have tb11586 := hTq11564.atp 389 1 0 48 rfl
                    have em11587 : mu (yup mq11564 397 k.toNat (v11573 + 1)) = mu mq11557 := mu_fr ((yup_na (by decide)).trans (hFq11564 376 1 rfl)) ((yup_na (by decide)).trans (hFq11564 376 3 rfl)) ((yup_na (by decide)).trans (hFq11564 376 6 rfl))
                    have e9711588 : (yup mq11564 397 k.toNat (v11573 + 1)) 397 k.toNat = v11573 + 1 := (yup_eq _ _ _ _)
                    exact ih (3 - (yup mq11564 397 k.toNat (v11573 + 1)) 397 k.toNat).toNat (by omega) 0 _ _ _ _ (by omega) (by omega) hT11575 hF11576 (by omega) (by omega) (by omega) (by omega) (fun q hq => ((yup_nk hq).trans ((hFq11564 397 q rfl).trans ((hFq11557 397 q rfl).trans (hz q hq)))))
                  · exfalso; omega
                · refine y_aload 108 c125_107 rfl rfl rfl ?_
                  refine y_iconst 110 c125_108 rfl ?_
                  have es11589 : (yup mq11564 397 k.toNat (v11573 + 1)) 376 3 = mq11557 376 3 := ((yup_na (by decide)).trans (hFq11564 376 3 rfl))
                  refine y_callP 113 [.ref 376, yI 44] [] c125_110 rfl rfl rfl rfl rfl (ycanO km117 ko376) (t117 hT11575 (by omega)) (fun r11590 hr11590 => ?_)
                  refine y_if 120 116 c125_113 rfl rfl (yz_eq (by omega)) (fun hb11591 => ?_) (fun hb11591 => ?_)
                  · refine y_iconst 121 c125_120 rfl ?_
                    refine y_istore 122 c125_121 rfl rfl ?_
                    refine y_iload 123 c125_122 rfl rfl ?_
                    refine y_if 130 126 c125_123 rfl rfl (yz_eq (by omega)) (fun hb11592 => ?_) (fun hb11592 => ?_)
                    · refine y_goto 7 c125_130 rfl ?_
                      have es11593 : (yup mq11564 397 k.toNat (v11573 + 1)) 376 1 = m 376 1 := ((yup_na (by decide)).trans ((hFq11564 376 1 rfl).trans ((hFq11557 376 1 rfl).trans (hFi 376 1 rfl))))
                      have es11594 : (yup mq11564 397 k.toNat (v11573 + 1)) 376 3 = mq11557 376 3 := ((yup_na (by decide)).trans (hFq11564 376 3 rfl))
                      have es11595 : (yup mq11564 397 k.toNat (v11573 + 1)) 376 6 = mq11557 376 6 := ((yup_na (by decide)).trans (hFq11564 376 6 rfl))
                      have es11596 : (yup mq11564 397 k.toNat (v11573 + 1)) 376 8 = mq11557 376 8 := ((yup_na (by decide)).trans (hFq11564 376 8 rfl))
                      have es11597 : (yup mq11564 397 k.toNat (v11573 + 1)) 389 1 = mq11564 389 1 := rfl
                      have tb11598 := hTq11564.atp 389 1 0 48 rfl
                      have em11599 : mu (yup mq11564 397 k.toNat (v11573 + 1)) = mu mq11557 := mu_fr ((yup_na (by decide)).trans (hFq11564 376 1 rfl)) ((yup_na (by decide)).trans (hFq11564 376 3 rfl)) ((yup_na (by decide)).trans (hFq11564 376 6 rfl))
                      have e9711600 : (yup mq11564 397 k.toNat (v11573 + 1)) 397 k.toNat = v11573 + 1 := (yup_eq _ _ _ _)
                      exact ih (3 - (yup mq11564 397 k.toNat (v11573 + 1)) 397 k.toNat).toNat (by omega) 0 _ _ _ _ (by omega) (by omega) hT11575 hF11576 (by omega) (by omega) (by omega) (by omega) (fun q hq => ((yup_nk hq).trans ((hFq11564 397 q rfl).trans ((hFq11557 397 q rfl).trans (hz q hq)))))
                    · exfalso; omega
                  · refine y_iconst 117 c125_116 rfl ?_
                    refine y_goto 121 c125_117 rfl ?_
                    refine y_istore 122 c125_121 rfl rfl ?_
                    refine y_iload 123 c125_122 rfl rfl ?_
                    refine y_if 130 126 c125_123 rfl rfl (yz_eq (by omega)) (fun hb11601 => ?_) (fun hb11601 => ?_)
                    · exfalso; omega
                    · refine y_aload 127 c125_126 rfl rfl rfl ?_
                      have es11603 : (yup mq11564 397 k.toNat (v11573 + 1)) 376 1 = m 376 1 := ((yup_na (by decide)).trans ((hFq11564 376 1 rfl).trans ((hFq11557 376 1 rfl).trans (hFi 376 1 rfl))))
                      have es11604 : (yup mq11564 397 k.toNat (v11573 + 1)) 376 3 = mq11557 376 3 := ((yup_na (by decide)).trans (hFq11564 376 3 rfl))
                      have es11605 : (yup mq11564 397 k.toNat (v11573 + 1)) 376 6 = mq11557 376 6 := ((yup_na (by decide)).trans (hFq11564 376 6 rfl))
                      have es11606 : (yup mq11564 397 k.toNat (v11573 + 1)) 376 8 = mq11557 376 8 := ((yup_na (by decide)).trans (hFq11564 376 8 rfl))
                      have em11607 : mu (yup mq11564 397 k.toNat (v11573 + 1)) = mu mq11557 := mu_fr ((yup_na (by decide)).trans (hFq11564 376 1 rfl)) ((yup_na (by decide)).trans (hFq11564 376 3 rfl)) ((yup_na (by decide)).trans (hFq11564 376 6 rfl))
                      refine y_callUB 130 [.ref 376] [] c125_127 rfl rfl rfl rfl rfl (ycanO km99 ko376) (t99u hT11575 (by omega)) (fun mq11602 nq11602 hq11602 => ?_)
                      obtain ⟨rfl, hTq11602, hFq11602, hq11602⟩ := hq11602
                      have x1q11602 : mq11602 376 1 = m 376 1 := ((hFq11602 376 1 rfl).trans ((yup_na (by decide)).trans ((hFq11564 376 1 rfl).trans ((hFq11557 376 1 rfl).trans (hFi 376 1 rfl)))))
                      have hF11608 := hF11576.tr hFq11602 wNx_wPz1
                      refine y_goto 7 c125_130 rfl ?_
                      have es11609 : mq11602 376 1 = m 376 1 := ((hFq11602 376 1 rfl).trans ((yup_na (by decide)).trans ((hFq11564 376 1 rfl).trans ((hFq11557 376 1 rfl).trans (hFi 376 1 rfl)))))
                      have tb11610 := hTq11602.atp 376 3 0 3 rfl
                      have tb11611 := hTq11602.atp 376 6 0 320 rfl
                      have es11612 : mq11602 376 8 = mq11557 376 8 := ((hFq11602 376 8 rfl).trans ((yup_na (by decide)).trans (hFq11564 376 8 rfl)))
                      have es11613 : mq11602 389 1 = mq11564 389 1 := ((hFq11602 389 1 rfl).trans (yup_na (by decide)))
                      have tb11614 := hTq11564.atp 389 1 0 48 rfl
                      have e9711615 : mq11602 397 k.toNat = v11573 + 1 := ((hFq11602 397 _ rfl).trans (yup_eq _ _ _ _))
                      exact ih (3 - mq11602 397 k.toNat).toNat (by omega) 1 _ _ _ _ (by omega) (by omega) hTq11602 hF11608 (by omega) (by omega) (by omega) (by omega) (fun q hq => ((hFq11602 397 q rfl).trans ((yup_nk hq).trans ((hFq11564 397 q rfl).trans ((hFq11557 397 q rfl).trans (hz q hq))))))
              · have es11616 : mq11557 376 1 = m 376 1 := ((hFq11557 376 1 rfl).trans (hFi 376 1 rfl))
                have tb11617 := hTq11557.atp 376 3 0 3 rfl
                have tb11618 := hTq11557.atp 376 6 0 320 rfl
                have tb11619 := hTq11557.atp 376 8 ((-1)) 320 rfl
                have es11620 : mq11557 389 1 = mi 389 1 := (hFq11557 389 1 rfl)
                have e9711621 : mq11557 397 k.toNat = mi 397 k.toNat := (hFq11557 397 _ rfl)
                exact y_retU c125_78 ⟨rfl, hTq11557, hF11562, by omega, by omega, fun q hq => ((hFq11557 397 q rfl).trans (hz q hq))⟩
set_option maxRecDepth 100000 in
theorem t125_1 {L : Nat} {xs : Nat → Int32} {d nn : Nat} {m : yM} {k : Int} (hT : Ty gT m) (hl : m 376 6 ≤ m 376 1) (hn : m 376 18 = 0) (hk : 10 ≤ k ∧ k < 20) (h8 : m 376 8 < 0) (hI : m 398 k.toNat + 2 + m 397 k.toNat = m 389 1 ∧ m 376 14 = m 398 k.toNat) (hs : m 397 k.toNat ≤ 1) : YC (gZ L xs) (d + 5) 125 [.ref 376, yI k] m nn (qU (fun m' n' => n' = nn ∧ Ty gT m' ∧ Fr wPz1 m m' ∧ m' 376 6 ≤ m' 376 1 ∧ (m 398 k.toNat + 2 + m' 397 k.toNat ≤ 48 ∧ (0 ≤ m' 376 8 ∨ (m' 376 8 < 0 ∧ mu m' ≤ mu m))) ∧ ∀ q, q ≠ k.toNat → m' 397 q = m 397 q)) := by
  have t97 := hT.atp 397 k.toNat 0 2 rfl
  refine YC.mkB [some (.ref 376), some (yI k), none, none, none, none, none] kn125 rfl rfl ?_
  refine y_aload 1 c125_0 rfl rfl rfl ?_
  have tb11623 := hT.atp 376 18 0 1 rfl
  refine y_callP 4 [.ref 376] [] c125_1 rfl rfl rfl rfl rfl (ycanO km96 ko376) (t96_1 (by omega)) (fun r11622 hr11622 => ?_)
  subst hr11622
  refine y_istore 5 c125_4 rfl rfl ?_
  refine y_iconst 6 c125_5 rfl ?_
  refine y_istore 7 c125_6 rfl rfl ?_
  exact t125a_1 hT hl hn hk h8 (3 - m 397 k.toNat).toNat 1 _ _ _ _ (by omega) (by omega) hT Fr.rf hl h8 (by omega) hI (fun q hq => rfl)
end
section
/-! CONTRACTS: the model, classes. Printed by wip/whole/gen9b.py -/
set_option maxRecDepth 100000 in
theorem t126_0 {L : Nat} {xs : Nat → Int32} {d nn : Nat} {m : yM} (hT : Ty gT m) (hl : m 376 6 ≤ m 376 1) (hn : m 376 18 = 1) (h8 : m 376 8 < 0) (hC : XD 0 m) (hc1 : 1 ≤ m 383 0) (h3 : m 376 3 ≠ 0) : YC (gZ L xs) (d + 6) 126 [.ref 376] m nn (qU (fun m' n' => n' = nn ∧ Ty gT m' ∧ Fr wMh0 m m' ∧ m' 376 6 ≤ m' 376 1 ∧ (0 ≤ m' 376 8 ∨ (m' 376 8 < 0 ∧ mu m' < mu m ∧ m' 384 0 = m 384 0 + 1 ∧ XD 0 m')))) := by
  have tb8 := hT.atp 376 8 (-1) 320 rfl
  have hU := hC.2.2.2.1
  have tc383 := hT.atp 383 0 0 6 rfl
  have tc384 := hT.atp 384 0 0 10 rfl
  have tc385 := hT.atp 385 0 0 8 rfl
  have tc389 := hT.atp 389 0 0 48 rfl
  have tc390 := hT.atp 390 0 0 125 rfl
  refine YC.mkB [some (.ref 376), none, none, none, none, none, none] kn126 rfl rfl ?_
  have hF : Fr wMh0 m m := Fr.rf
  refine y_aload 1 c126_0 rfl rfl rfl ?_
  have tb11625 := hT.atp 376 18 0 1 rfl
  refine y_callP 4 [.ref 376] [] c126_1 rfl rfl rfl rfl rfl (ycanO km96 ko376) (t96_0 (by omega)) (fun r11624 hr11624 => ?_)
  subst hr11624
  refine y_istore 5 c126_4 rfl rfl ?_
  refine y_aload 6 c126_5 rfl rfl rfl ?_
  refine y_getR 9 c126_6 rfl kf376_20 ?_
  refine y_iload 10 c126_9 rfl rfl ?_
  refine y_iaX 11 (m 383 0) c126_10 rfl ka383 (by decide) rfl ?_
  refine y_iconst 12 c126_11 rfl ?_
  refine y_isub 13 c126_12 rfl ?_
  refine y_istore 14 c126_13 rfl rfl ?_
  refine y_aload 15 c126_14 rfl rfl rfl ?_
  have tb11627 := hT.atp 376 1 0 320 rfl
  have tb11628 := hT.atp 376 3 0 3 rfl
  have tb11629 := hT.atp 376 6 0 320 rfl
  have tb11630 := hT.atp 376 8 ((-1)) 320 rfl
  refine y_callUB 18 [.ref 376] [] c126_15 rfl rfl rfl rfl rfl (ycanO km99 ko376) (t99u hT (by omega)) (fun mq11626 nq11626 hq11626 => ?_)
  obtain ⟨rfl, hTq11626, hFq11626, hq11626⟩ := hq11626
  have x1q11626 : mq11626 376 1 = m 376 1 := (hFq11626 376 1 rfl)
  have hF11631 := hF.tr hFq11626 wNx_wMh0
  refine y_aload 19 c126_18 rfl rfl rfl ?_
  have tb11632 := hTq11626.atp 376 3 0 3 rfl
  refine y_callP 22 [.ref 376] [] c126_19 rfl rfl rfl rfl rfl (ycanO km115 ko376) (t115 hTq11626) (fun r11633 hr11633 => ?_)
  refine y_if 65 25 c126_22 rfl rfl (yz_eq (by omega)) (fun hb11634 => ?_) (fun hb11634 => ?_)
  · refine y_iconst 66 c126_65 rfl ?_
    refine y_istore 67 c126_66 rfl rfl ?_
    refine y_aload 68 c126_67 rfl rfl rfl ?_
    refine y_getX 71 (mq11626 376 4) c126_68 rfl kf376_4 rfl ?_
    have tb11635 := hTq11626.atp 376 4 ((-2147483648)) 2147483647 rfl
    refine y_istore 73 c126_71 rfl rfl ?_
    refine y_aload 74 c126_73 rfl rfl rfl ?_
    refine y_iload 75 c126_74 rfl rfl ?_
    have es11637 : mq11626 376 1 = m 376 1 := (hFq11626 376 1 rfl)
    have tb11638 := hTq11626.atp 376 6 0 320 rfl
    have es11639 : mq11626 376 8 = m 376 8 := (hFq11626 376 8 rfl)
    refine y_callIB 78 [.ref 376, yI 0] [] c126_75 rfl rfl rfl rfl rfl (ycanO km105 ko376) (t105 (g := 0) hTq11626 (by omega) (by omega)) (fun rq11636 mq11636 nq11636 hq11636 => ?_)
    obtain ⟨rfl, hTq11636, hFq11636, hq11636⟩ := hq11636
    have x1q11636 : mq11636 376 1 = m 376 1 := ((hFq11636 376 1 rfl).trans (hFq11626 376 1 rfl))
    have hF11640 := hF11631.tr hFq11636 wNw_wMh0
    refine y_if 82 81 c126_78 rfl rfl (yz_ne (by omega)) (fun hb11641 => ?_) (fun hb11641 => ?_)
    · exfalso; omega
    · have es11642 : mq11636 376 1 = m 376 1 := ((hFq11636 376 1 rfl).trans (hFq11626 376 1 rfl))
      have tb11643 := hTq11636.atp 376 3 0 3 rfl
      have tb11644 := hTq11636.atp 376 6 0 320 rfl
      have tb11645 := hTq11636.atp 376 8 ((-1)) 320 rfl
      have es11646 : mq11636 384 0 = m 384 0 := ((hFq11636 384 0 rfl).trans (hFq11626 384 0 rfl))
      have es11647 : mq11636 389 0 = m 389 0 := ((hFq11636 389 0 rfl).trans (hFq11626 389 0 rfl))
      have es11648 : mq11636 376 14 = m 376 14 := ((hFq11636 376 14 rfl).trans (hFq11626 376 14 rfl))
      have tb11649 := hT.atp 376 14 0 46 rfl
      exact y_retU c126_81 ⟨rfl, hTq11636, hF11640, by omega, Or.inl (by omega)⟩
  · refine y_aload 26 c126_25 rfl rfl rfl ?_
    refine y_getR 29 c126_26 rfl kf376_21 ?_
    refine y_iload 30 c126_29 rfl rfl ?_
    refine y_iaX 31 (m 384 0) c126_30 rfl ka384 (by decide) (hFq11626 384 0 rfl) ?_
    refine y_iconst 33 c126_31 rfl ?_
    refine y_icmp 65 36 c126_33 rfl rfl (yc_ge (by omega) (by omega)) (fun hb11650 => ?_) (fun hb11650 => ?_)
    · refine y_iconst 66 c126_65 rfl ?_
      refine y_istore 67 c126_66 rfl rfl ?_
      refine y_aload 68 c126_67 rfl rfl rfl ?_
      refine y_getX 71 (mq11626 376 4) c126_68 rfl kf376_4 rfl ?_
      have tb11651 := hTq11626.atp 376 4 ((-2147483648)) 2147483647 rfl
      refine y_istore 73 c126_71 rfl rfl ?_
      refine y_aload 74 c126_73 rfl rfl rfl ?_
      refine y_iload 75 c126_74 rfl rfl ?_
      have es11653 : mq11626 376 1 = m 376 1 := (hFq11626 376 1 rfl)
      have tb11654 := hTq11626.atp 376 6 0 320 rfl
      have es11655 : mq11626 376 8 = m 376 8 := (hFq11626 376 8 rfl)
      refine y_callIB 78 [.ref 376, yI 0] [] c126_75 rfl rfl rfl rfl rfl (ycanO km105 ko376) (t105 (g := 0) hTq11626 (by omega) (by omega)) (fun rq11652 mq11652 nq11652 hq11652 => ?_)
      obtain ⟨rfl, hTq11652, hFq11652, hq11652⟩ := hq11652
      have x1q11652 : mq11652 376 1 = m 376 1 := ((hFq11652 376 1 rfl).trans (hFq11626 376 1 rfl))
      have hF11656 := hF11631.tr hFq11652 wNw_wMh0
      refine y_if 82 81 c126_78 rfl rfl (yz_ne (by omega)) (fun hb11657 => ?_) (fun hb11657 => ?_)
      · exfalso; omega
      · have es11658 : mq11652 376 1 = m 376 1 := ((hFq11652 376 1 rfl).trans (hFq11626 376 1 rfl))
        have tb11659 := hTq11652.atp 376 3 0 3 rfl
        have tb11660 := hTq11652.atp 376 6 0 320 rfl
        have tb11661 := hTq11652.atp 376 8 ((-1)) 320 rfl
        have es11662 : mq11652 384 0 = m 384 0 := ((hFq11652 384 0 rfl).trans (hFq11626 384 0 rfl))
        have es11663 : mq11652 389 0 = m 389 0 := ((hFq11652 389 0 rfl).trans (hFq11626 389 0 rfl))
        have es11664 : mq11652 376 14 = m 376 14 := ((hFq11652 376 14 rfl).trans (hFq11626 376 14 rfl))
        have tb11665 := hT.atp 376 14 0 46 rfl
        exact y_retU c126_81 ⟨rfl, hTq11652, hF11656, by omega, Or.inl (by omega)⟩
    · refine y_aload 37 c126_36 rfl rfl rfl ?_
      refine y_getR 40 c126_37 rfl kf376_26 ?_
      refine y_iload 41 c126_40 rfl rfl ?_
      refine y_iaX 42 (m 389 0) c126_41 rfl ka389 (by decide) (hFq11626 389 0 rfl) ?_
      refine y_iconst 44 c126_42 rfl ?_
      refine y_icmp 65 47 c126_44 rfl rfl (yc_ge (by omega) (by omega)) (fun hb11666 => ?_) (fun hb11666 => ?_)
      · refine y_iconst 66 c126_65 rfl ?_
        refine y_istore 67 c126_66 rfl rfl ?_
        refine y_aload 68 c126_67 rfl rfl rfl ?_
        refine y_getX 71 (mq11626 376 4) c126_68 rfl kf376_4 rfl ?_
        have tb11667 := hTq11626.atp 376 4 ((-2147483648)) 2147483647 rfl
        refine y_istore 73 c126_71 rfl rfl ?_
        refine y_aload 74 c126_73 rfl rfl rfl ?_
        refine y_iload 75 c126_74 rfl rfl ?_
        have es11669 : mq11626 376 1 = m 376 1 := (hFq11626 376 1 rfl)
        have tb11670 := hTq11626.atp 376 6 0 320 rfl
        have es11671 : mq11626 376 8 = m 376 8 := (hFq11626 376 8 rfl)
        refine y_callIB 78 [.ref 376, yI 0] [] c126_75 rfl rfl rfl rfl rfl (ycanO km105 ko376) (t105 (g := 0) hTq11626 (by omega) (by omega)) (fun rq11668 mq11668 nq11668 hq11668 => ?_)
        obtain ⟨rfl, hTq11668, hFq11668, hq11668⟩ := hq11668
        have x1q11668 : mq11668 376 1 = m 376 1 := ((hFq11668 376 1 rfl).trans (hFq11626 376 1 rfl))
        have hF11672 := hF11631.tr hFq11668 wNw_wMh0
        refine y_if 82 81 c126_78 rfl rfl (yz_ne (by omega)) (fun hb11673 => ?_) (fun hb11673 => ?_)
        · exfalso; omega
        · have es11674 : mq11668 376 1 = m 376 1 := ((hFq11668 376 1 rfl).trans (hFq11626 376 1 rfl))
          have tb11675 := hTq11668.atp 376 3 0 3 rfl
          have tb11676 := hTq11668.atp 376 6 0 320 rfl
          have tb11677 := hTq11668.atp 376 8 ((-1)) 320 rfl
          have es11678 : mq11668 384 0 = m 384 0 := ((hFq11668 384 0 rfl).trans (hFq11626 384 0 rfl))
          have es11679 : mq11668 389 0 = m 389 0 := ((hFq11668 389 0 rfl).trans (hFq11626 389 0 rfl))
          have es11680 : mq11668 376 14 = m 376 14 := ((hFq11668 376 14 rfl).trans (hFq11626 376 14 rfl))
          have tb11681 := hT.atp 376 14 0 46 rfl
          exact y_retU c126_81 ⟨rfl, hTq11668, hF11672, by omega, Or.inl (by omega)⟩
      · refine y_aload 48 c126_47 rfl rfl rfl ?_
        refine y_iload 49 c126_48 rfl rfl ?_
        refine y_iload 50 c126_49 rfl rfl ?_
        refine y_aload 51 c126_50 rfl rfl rfl ?_
        refine y_getX 54 (mq11626 376 4) c126_51 rfl kf376_4 rfl ?_
        have tb11682 := hTq11626.atp 376 4 ((-2147483648)) 2147483647 rfl
        refine y_iconst 55 c126_54 rfl ?_
        have es11683 : mq11626 383 0 = m 383 0 := (hFq11626 383 0 rfl)
        have es11684 : mq11626 384 0 = m 384 0 := (hFq11626 384 0 rfl)
        refine y_callP 58 [.ref 376, yI 0, yI ((m 383 0) - 1), yI (mq11626 376 4), yI 1] [] c126_55 rfl rfl rfl rfl rfl (ycanO km123 ko376) (t123_0 hTq11626 (by rw [show mq11626 383 0 = m 383 0 from (hFq11626 383 0 rfl)]; exact hU.fr (fun q => (hFq11626 392 q rfl))) (by omega) (by omega) (by omega)) (fun r11685 hr11685 => ?_)
        refine y_if 65 61 c126_58 rfl rfl (yz_ge (by omega)) (fun hb11686 => ?_) (fun hb11686 => ?_)
        · refine y_iconst 66 c126_65 rfl ?_
          refine y_istore 67 c126_66 rfl rfl ?_
          refine y_aload 68 c126_67 rfl rfl rfl ?_
          refine y_getX 71 (mq11626 376 4) c126_68 rfl kf376_4 rfl ?_
          refine y_istore 73 c126_71 rfl rfl ?_
          refine y_aload 74 c126_73 rfl rfl rfl ?_
          refine y_iload 75 c126_74 rfl rfl ?_
          have es11688 : mq11626 376 1 = m 376 1 := (hFq11626 376 1 rfl)
          have tb11689 := hTq11626.atp 376 6 0 320 rfl
          have es11690 : mq11626 376 8 = m 376 8 := (hFq11626 376 8 rfl)
          refine y_callIB 78 [.ref 376, yI 0] [] c126_75 rfl rfl rfl rfl rfl (ycanO km105 ko376) (t105 (g := 0) hTq11626 (by omega) (by omega)) (fun rq11687 mq11687 nq11687 hq11687 => ?_)
          obtain ⟨rfl, hTq11687, hFq11687, hq11687⟩ := hq11687
          have x1q11687 : mq11687 376 1 = m 376 1 := ((hFq11687 376 1 rfl).trans (hFq11626 376 1 rfl))
          have hF11691 := hF11631.tr hFq11687 wNw_wMh0
          refine y_if 82 81 c126_78 rfl rfl (yz_ne (by omega)) (fun hb11692 => ?_) (fun hb11692 => ?_)
          · exfalso; omega
          · have es11693 : mq11687 376 1 = m 376 1 := ((hFq11687 376 1 rfl).trans (hFq11626 376 1 rfl))
            have tb11694 := hTq11687.atp 376 3 0 3 rfl
            have tb11695 := hTq11687.atp 376 6 0 320 rfl
            have tb11696 := hTq11687.atp 376 8 ((-1)) 320 rfl
            have es11697 : mq11687 384 0 = m 384 0 := ((hFq11687 384 0 rfl).trans (hFq11626 384 0 rfl))
            have es11698 : mq11687 389 0 = m 389 0 := ((hFq11687 389 0 rfl).trans (hFq11626 389 0 rfl))
            have es11699 : mq11687 376 14 = m 376 14 := ((hFq11687 376 14 rfl).trans (hFq11626 376 14 rfl))
            have tb11700 := hT.atp 376 14 0 46 rfl
            exact y_retU c126_81 ⟨rfl, hTq11687, hF11691, by omega, Or.inl (by omega)⟩
        · refine y_iconst 62 c126_61 rfl ?_
          refine y_goto 66 c126_62 rfl ?_
          refine y_istore 67 c126_66 rfl rfl ?_
          refine y_aload 68 c126_67 rfl rfl rfl ?_
          refine y_getX 71 (mq11626 376 4) c126_68 rfl kf376_4 rfl ?_
          refine y_istore 73 c126_71 rfl rfl ?_
          refine y_aload 74 c126_73 rfl rfl rfl ?_
          refine y_iload 75 c126_74 rfl rfl ?_
          have es11702 : mq11626 376 1 = m 376 1 := (hFq11626 376 1 rfl)
          have tb11703 := hTq11626.atp 376 6 0 320 rfl
          have es11704 : mq11626 376 8 = m 376 8 := (hFq11626 376 8 rfl)
          refine y_callIB 78 [.ref 376, yI 1] [] c126_75 rfl rfl rfl rfl rfl (ycanO km105 ko376) (t105 (g := 1) hTq11626 (by omega) (by omega)) (fun rq11701 mq11701 nq11701 hq11701 => ?_)
          obtain ⟨rfl, hTq11701, hFq11701, hq11701⟩ := hq11701
          have x1q11701 : mq11701 376 1 = m 376 1 := ((hFq11701 376 1 rfl).trans (hFq11626 376 1 rfl))
          have hF11705 := hF11631.tr hFq11701 wNw_wMh0
          refine y_if 82 81 c126_78 rfl rfl (yz_ne (by omega)) (fun hb11706 => ?_) (fun hb11706 => ?_)
          · refine y_iconst 84 c126_82 rfl ?_
            refine y_iload 85 c126_84 rfl rfl ?_
            refine y_imul 86 c126_85 rfl ?_
            refine y_top 0 (by decide) ?_
            refine y_aload 87 c126_86 rfl rfl rfl ?_
            refine y_getR 90 c126_87 rfl kf376_21 ?_
            refine y_iload 91 c126_90 rfl rfl ?_
            refine y_iaX 92 (m 384 0) c126_91 rfl ka384 (by decide) ((hFq11701 384 0 rfl).trans (hFq11626 384 0 rfl)) ?_
            refine y_iadd 93 c126_92 rfl ?_
            refine y_istore 95 c126_93 rfl rfl ?_
            refine y_aload 96 c126_95 rfl rfl rfl ?_
            refine y_getR 99 c126_96 rfl kf376_32 ?_
            refine y_iload 101 c126_99 rfl rfl ?_
            refine y_iload 103 c126_101 rfl rfl ?_
            refine y_iastore 104 c126_103 rfl ka395 (by omega) (y_nar0 _) ?_
            have hT11707 := hTq11701.up 395 ((0 + (m 384 0)).toNat) (mq11626 376 4) ((-2147483648)) 2147483647 rfl (by omega)
            have hF11708 := hF11705.up 395 ((0 + (m 384 0)).toNat) (mq11626 376 4) (wMh0_395 (by omega))
            refine y_aload 105 c126_104 rfl rfl rfl ?_
            refine y_getR 108 c126_105 rfl kf376_33 ?_
            refine y_iload 110 c126_108 rfl rfl ?_
            refine y_iload 111 c126_110 rfl rfl ?_
            refine y_iastore 112 c126_111 rfl ka396 (by omega) (y_nar0 _) ?_
            have hT11709 := hT11707.up 396 ((0 + (m 384 0)).toNat) ((m 383 0) - 1) 0 5 rfl (by omega)
            have hF11710 := hF11708.up 396 ((0 + (m 384 0)).toNat) ((m 383 0) - 1) (wMh0_396 (by omega))
            refine y_aload 113 c126_112 rfl rfl rfl ?_
            refine y_getR 116 c126_113 rfl kf376_34 ?_
            refine y_iload 118 c126_116 rfl rfl ?_
            refine y_iconst 119 c126_118 rfl ?_
            refine y_iastore 120 c126_119 rfl ka397 (by omega) (y_nar0 _) ?_
            have hT11711 := hT11709.up 397 ((0 + (m 384 0)).toNat) 0 0 2 rfl (by omega)
            have hF11712 := hF11710.up 397 ((0 + (m 384 0)).toNat) 0 (wMh0_397 (by omega))
            refine y_aload 121 c126_120 rfl rfl rfl ?_
            refine y_getR 124 c126_121 rfl kf376_36 ?_
            refine y_iload 126 c126_124 rfl rfl ?_
            refine y_aload 127 c126_126 rfl rfl rfl ?_
            refine y_getR 130 c126_127 rfl kf376_27 ?_
            refine y_iload 131 c126_130 rfl rfl ?_
            refine y_iaX 132 (m 390 0) c126_131 rfl ka390 (by decide) ((yup_na (by decide)).trans ((yup_na (by decide)).trans ((yup_na (by decide)).trans ((hFq11701 390 0 rfl).trans (hFq11626 390 0 rfl))))) ?_
            refine y_iastore 133 c126_132 rfl ka399 (by omega) (y_nar0 _) ?_
            have hT11713 := hT11711.up 399 ((0 + (m 384 0)).toNat) (m 390 0) 0 125 rfl (by omega)
            have hF11714 := hF11712.up 399 ((0 + (m 384 0)).toNat) (m 390 0) (wMh0_399 (by omega))
            refine y_aload 134 c126_133 rfl rfl rfl ?_
            refine y_aload 135 c126_134 rfl rfl rfl ?_
            refine y_iconst 136 c126_135 rfl ?_
            have es11716 : (yup (yup (yup (yup mq11701 395 ((0 + (m 384 0)).toNat) (mq11626 376 4)) 396 ((0 + (m 384 0)).toNat) ((m 383 0) - 1)) 397 ((0 + (m 384 0)).toNat) 0) 399 ((0 + (m 384 0)).toNat) (m 390 0)) 376 1 = m 376 1 := ((yup_na (by decide)).trans ((yup_na (by decide)).trans ((yup_na (by decide)).trans ((yup_na (by decide)).trans ((hFq11701 376 1 rfl).trans (hFq11626 376 1 rfl))))))
            have es11717 : (yup (yup (yup (yup mq11701 395 ((0 + (m 384 0)).toNat) (mq11626 376 4)) 396 ((0 + (m 384 0)).toNat) ((m 383 0) - 1)) 397 ((0 + (m 384 0)).toNat) 0) 399 ((0 + (m 384 0)).toNat) (m 390 0)) 376 3 = mq11701 376 3 := rfl
            have tb11718 := hTq11701.atp 376 3 0 3 rfl
            have es11719 : (yup (yup (yup (yup mq11701 395 ((0 + (m 384 0)).toNat) (mq11626 376 4)) 396 ((0 + (m 384 0)).toNat) ((m 383 0) - 1)) 397 ((0 + (m 384 0)).toNat) 0) 399 ((0 + (m 384 0)).toNat) (m 390 0)) 376 6 = mq11701 376 6 := rfl
            have tb11720 := hTq11701.atp 376 6 0 320 rfl
            have es11721 : (yup (yup (yup (yup mq11701 395 ((0 + (m 384 0)).toNat) (mq11626 376 4)) 396 ((0 + (m 384 0)).toNat) ((m 383 0) - 1)) 397 ((0 + (m 384 0)).toNat) 0) 399 ((0 + (m 384 0)).toNat) (m 390 0)) 376 8 = mq11701 376 8 := rfl
            have tb11722 := hTq11701.atp 376 8 ((-1)) 320 rfl
            have es11723 : (yup (yup (yup (yup mq11701 395 ((0 + (m 384 0)).toNat) (mq11626 376 4)) 396 ((0 + (m 384 0)).toNat) ((m 383 0) - 1)) 397 ((0 + (m 384 0)).toNat) 0) 399 ((0 + (m 384 0)).toNat) (m 390 0)) 376 18 = m 376 18 := ((yup_na (by decide)).trans ((yup_na (by decide)).trans ((yup_na (by decide)).trans ((yup_na (by decide)).trans ((hFq11701 376 18 rfl).trans (hFq11626 376 18 rfl))))))
            have es11724 : (yup (yup (yup (yup mq11701 395 ((0 + (m 384 0)).toNat) (mq11626 376 4)) 396 ((0 + (m 384 0)).toNat) ((m 383 0) - 1)) 397 ((0 + (m 384 0)).toNat) 0) 399 ((0 + (m 384 0)).toNat) (m 390 0)) 389 0 = m 389 0 := ((yup_na (by decide)).trans ((yup_na (by decide)).trans ((yup_na (by decide)).trans ((yup_na (by decide)).trans ((hFq11701 389 0 rfl).trans (hFq11626 389 0 rfl))))))
            have em11725 : mu (yup (yup (yup (yup mq11701 395 ((0 + (m 384 0)).toNat) (mq11626 376 4)) 396 ((0 + (m 384 0)).toNat) ((m 383 0) - 1)) 397 ((0 + (m 384 0)).toNat) 0) 399 ((0 + (m 384 0)).toNat) (m 390 0)) = mu mq11701 := mu_fr ((yup_na (by decide)).trans ((yup_na (by decide)).trans ((yup_na (by decide)).trans (yup_na (by decide))))) ((yup_na (by decide)).trans ((yup_na (by decide)).trans ((yup_na (by decide)).trans (yup_na (by decide))))) ((yup_na (by decide)).trans ((yup_na (by decide)).trans ((yup_na (by decide)).trans (yup_na (by decide)))))
            refine y_callIB 139 [.ref 376, yI ((-1))] [.ref 376] c126_136 rfl rfl rfl rfl rfl (ycanO km124 ko376) (t124_0 hT11713 (by omega) (by omega) (by omega)) (fun rq11715 mq11715 nq11715 hq11715 => ?_)
            obtain ⟨rfl, hTq11715, hFq11715, hq11715⟩ := hq11715
            have x1q11715 : mq11715 376 1 = m 376 1 := ((hFq11715 376 1 rfl).trans ((yup_na (by decide)).trans ((yup_na (by decide)).trans ((yup_na (by decide)).trans ((yup_na (by decide)).trans ((hFq11701 376 1 rfl).trans (hFq11626 376 1 rfl)))))))
            have hF11726 := hF11714.tr hFq11715 wVp0_wMh0
            refine y_putI 142 c126_139 rfl kf376_14 (y_fit0 _) ?_
            have hT11727 := hTq11715.up 376 14 rq11715 0 46 rfl (by omega)
            have hF11728 := hF11726.up 376 14 rq11715 rfl
            refine y_aload 143 c126_142 rfl rfl rfl ?_
            refine y_getR 146 c126_143 rfl kf376_35 ?_
            refine y_iload 148 c126_146 rfl rfl ?_
            refine y_aload 149 c126_148 rfl rfl rfl ?_
            refine y_getX 152 rq11715 c126_149 rfl kf376_14 rfl ?_
            refine y_iastore 153 c126_152 rfl ka398 (by omega) (y_nar0 _) ?_
            have hT11729 := hT11727.up 398 ((0 + (m 384 0)).toNat) rq11715 0 46 rfl (by omega)
            have hF11730 := hF11728.up 398 ((0 + (m 384 0)).toNat) rq11715 (wMh0_398 (by omega))
            refine y_aload 154 c126_153 rfl rfl rfl ?_
            refine y_iconst 155 c126_154 rfl ?_
            have es11732 : (yup (yup mq11715 376 14 rq11715) 398 ((0 + (m 384 0)).toNat) rq11715) 376 1 = m 376 1 := ((yup_na (by decide)).trans ((yup_nk (by decide)).trans ((hFq11715 376 1 rfl).trans ((yup_na (by decide)).trans ((yup_na (by decide)).trans ((yup_na (by decide)).trans ((yup_na (by decide)).trans ((hFq11701 376 1 rfl).trans (hFq11626 376 1 rfl)))))))))
            have es11733 : (yup (yup mq11715 376 14 rq11715) 398 ((0 + (m 384 0)).toNat) rq11715) 376 3 = mq11701 376 3 := ((yup_na (by decide)).trans ((yup_nk (by decide)).trans ((hFq11715 376 3 rfl).trans ((yup_na (by decide)).trans ((yup_na (by decide)).trans ((yup_na (by decide)).trans (yup_na (by decide))))))))
            have es11734 : (yup (yup mq11715 376 14 rq11715) 398 ((0 + (m 384 0)).toNat) rq11715) 376 6 = mq11701 376 6 := ((yup_na (by decide)).trans ((yup_nk (by decide)).trans ((hFq11715 376 6 rfl).trans ((yup_na (by decide)).trans ((yup_na (by decide)).trans ((yup_na (by decide)).trans (yup_na (by decide))))))))
            have es11735 : (yup (yup mq11715 376 14 rq11715) 398 ((0 + (m 384 0)).toNat) rq11715) 376 8 = mq11701 376 8 := ((yup_na (by decide)).trans ((yup_nk (by decide)).trans ((hFq11715 376 8 rfl).trans ((yup_na (by decide)).trans ((yup_na (by decide)).trans ((yup_na (by decide)).trans (yup_na (by decide))))))))
            have es11736 : (yup (yup mq11715 376 14 rq11715) 398 ((0 + (m 384 0)).toNat) rq11715) 376 18 = m 376 18 := ((yup_na (by decide)).trans ((yup_nk (by decide)).trans ((hFq11715 376 18 rfl).trans ((yup_na (by decide)).trans ((yup_na (by decide)).trans ((yup_na (by decide)).trans ((yup_na (by decide)).trans ((hFq11701 376 18 rfl).trans (hFq11626 376 18 rfl)))))))))
            have es11737 : (yup (yup mq11715 376 14 rq11715) 398 ((0 + (m 384 0)).toNat) rq11715) 389 0 = mq11715 389 0 := rfl
            have tb11738 := hTq11715.atp 389 0 0 48 rfl
            have em11739 : mu (yup (yup mq11715 376 14 rq11715) 398 ((0 + (m 384 0)).toNat) rq11715) = mu mq11701 := mu_fr ((yup_na (by decide)).trans ((yup_nk (by decide)).trans ((hFq11715 376 1 rfl).trans ((yup_na (by decide)).trans ((yup_na (by decide)).trans ((yup_na (by decide)).trans (yup_na (by decide)))))))) ((yup_na (by decide)).trans ((yup_nk (by decide)).trans ((hFq11715 376 3 rfl).trans ((yup_na (by decide)).trans ((yup_na (by decide)).trans ((yup_na (by decide)).trans (yup_na (by decide)))))))) ((yup_na (by decide)).trans ((yup_nk (by decide)).trans ((hFq11715 376 6 rfl).trans ((yup_na (by decide)).trans ((yup_na (by decide)).trans ((yup_na (by decide)).trans (yup_na (by decide))))))))
            refine y_callIB 158 [.ref 376, yI ((-1))] [] c126_155 rfl rfl rfl rfl rfl (ycanO km124 ko376) (t124_0 hT11729 (by omega) (by omega) (by omega)) (fun rq11731 mq11731 nq11731 hq11731 => ?_)
            obtain ⟨rfl, hTq11731, hFq11731, hq11731⟩ := hq11731
            have x1q11731 : mq11731 376 1 = m 376 1 := ((hFq11731 376 1 rfl).trans ((yup_na (by decide)).trans ((yup_nk (by decide)).trans ((hFq11715 376 1 rfl).trans ((yup_na (by decide)).trans ((yup_na (by decide)).trans ((yup_na (by decide)).trans ((yup_na (by decide)).trans ((hFq11701 376 1 rfl).trans (hFq11626 376 1 rfl))))))))))
            have hF11740 := hF11730.tr hFq11731 wVp0_wMh0
            refine y_istore 160 c126_158 rfl rfl ?_
            refine y_aload 161 c126_160 rfl rfl rfl ?_
            refine y_getR 164 c126_161 rfl kf376_21 ?_
            refine y_iload 165 c126_164 rfl rfl ?_
            refine y_dup2 166 c126_165 rfl ⟨rfl, rfl⟩ ?_
            refine y_iaX 167 (m 384 0) c126_166 rfl ka384 (by decide) ((hFq11731 384 0 rfl).trans ((yup_na (by decide)).trans ((yup_na (by decide)).trans ((hFq11715 384 0 rfl).trans ((yup_na (by decide)).trans ((yup_na (by decide)).trans ((yup_na (by decide)).trans ((yup_na (by decide)).trans ((hFq11701 384 0 rfl).trans (hFq11626 384 0 rfl)))))))))) ?_
            refine y_iconst 168 c126_167 rfl ?_
            refine y_iadd 169 c126_168 rfl ?_
            refine y_iastore 170 c126_169 rfl ka384 (by omega) (y_nar0 _) ?_
            have hT11741 := hTq11731.up 384 ((0 : Int).toNat) ((m 384 0) + 1) 0 10 rfl (by omega)
            have hF11742 := hF11740.up 384 ((0 : Int).toNat) ((m 384 0) + 1) rfl
            refine y_aload 171 c126_170 rfl rfl rfl ?_
            refine y_iconst 173 c126_171 rfl ?_
            have es11744 : (yup mq11731 384 ((0 : Int).toNat) ((m 384 0) + 1)) 376 1 = m 376 1 := ((yup_na (by decide)).trans ((hFq11731 376 1 rfl).trans ((yup_na (by decide)).trans ((yup_nk (by decide)).trans ((hFq11715 376 1 rfl).trans ((yup_na (by decide)).trans ((yup_na (by decide)).trans ((yup_na (by decide)).trans ((yup_na (by decide)).trans ((hFq11701 376 1 rfl).trans (hFq11626 376 1 rfl)))))))))))
            have es11745 : (yup mq11731 384 ((0 : Int).toNat) ((m 384 0) + 1)) 376 3 = mq11701 376 3 := ((yup_na (by decide)).trans ((hFq11731 376 3 rfl).trans ((yup_na (by decide)).trans ((yup_nk (by decide)).trans ((hFq11715 376 3 rfl).trans ((yup_na (by decide)).trans ((yup_na (by decide)).trans ((yup_na (by decide)).trans (yup_na (by decide))))))))))
            have es11746 : (yup mq11731 384 ((0 : Int).toNat) ((m 384 0) + 1)) 376 6 = mq11701 376 6 := ((yup_na (by decide)).trans ((hFq11731 376 6 rfl).trans ((yup_na (by decide)).trans ((yup_nk (by decide)).trans ((hFq11715 376 6 rfl).trans ((yup_na (by decide)).trans ((yup_na (by decide)).trans ((yup_na (by decide)).trans (yup_na (by decide))))))))))
            have es11747 : (yup mq11731 384 ((0 : Int).toNat) ((m 384 0) + 1)) 376 8 = mq11701 376 8 := ((yup_na (by decide)).trans ((hFq11731 376 8 rfl).trans ((yup_na (by decide)).trans ((yup_nk (by decide)).trans ((hFq11715 376 8 rfl).trans ((yup_na (by decide)).trans ((yup_na (by decide)).trans ((yup_na (by decide)).trans (yup_na (by decide))))))))))
            have em11748 : mu (yup mq11731 384 ((0 : Int).toNat) ((m 384 0) + 1)) = mu mq11701 := mu_fr ((yup_na (by decide)).trans ((hFq11731 376 1 rfl).trans ((yup_na (by decide)).trans ((yup_nk (by decide)).trans ((hFq11715 376 1 rfl).trans ((yup_na (by decide)).trans ((yup_na (by decide)).trans ((yup_na (by decide)).trans (yup_na (by decide)))))))))) ((yup_na (by decide)).trans ((hFq11731 376 3 rfl).trans ((yup_na (by decide)).trans ((yup_nk (by decide)).trans ((hFq11715 376 3 rfl).trans ((yup_na (by decide)).trans ((yup_na (by decide)).trans ((yup_na (by decide)).trans (yup_na (by decide)))))))))) ((yup_na (by decide)).trans ((hFq11731 376 6 rfl).trans ((yup_na (by decide)).trans ((yup_nk (by decide)).trans ((hFq11715 376 6 rfl).trans ((yup_na (by decide)).trans ((yup_na (by decide)).trans ((yup_na (by decide)).trans (yup_na (by decide))))))))))
            refine y_callIB 176 [.ref 376, yI 40] [] c126_173 rfl rfl rfl rfl rfl (ycanO km118 ko376) (t118 hT11741 (by omega) (by omega)) (fun rq11743 mq11743 nq11743 hq11743 => ?_)
            obtain ⟨rfl, hTq11743, hFq11743, hq11743⟩ := hq11743
            have x1q11743 : mq11743 376 1 = m 376 1 := ((hFq11743 376 1 rfl).trans ((yup_na (by decide)).trans ((hFq11731 376 1 rfl).trans ((yup_na (by decide)).trans ((yup_nk (by decide)).trans ((hFq11715 376 1 rfl).trans ((yup_na (by decide)).trans ((yup_na (by decide)).trans ((yup_na (by decide)).trans ((yup_na (by decide)).trans ((hFq11701 376 1 rfl).trans (hFq11626 376 1 rfl))))))))))))
            have hF11749 := hF11742.tr hFq11743 wNw_wMh0
            refine y_if 180 179 c126_176 rfl rfl (yz_ne (by omega)) (fun hb11750 => ?_) (fun hb11750 => ?_)
            · refine y_aload 181 c126_180 rfl rfl rfl ?_
              have tb11751 := hTq11743.atp 376 3 0 3 rfl
              refine y_callP 184 [.ref 376] [] c126_181 rfl rfl rfl rfl rfl (ycanO km115 ko376) (t115 hTq11743) (fun r11752 hr11752 => ?_)
              refine y_if 193 187 c126_184 rfl rfl (yz_eq (by omega)) (fun hb11753 => ?_) (fun hb11753 => ?_)
              · refine y_aload 194 c126_193 rfl rfl rfl ?_
                refine y_getX 197 (mq11743 376 8) c126_194 rfl kf376_8 rfl ?_
                have tb11754 := hTq11743.atp 376 8 ((-1)) 320 rfl
                refine y_if 209 200 c126_197 rfl rfl (yz_ge (by omega)) (fun hb11755 => ?_) (fun hb11755 => ?_)
                · have es11756 : mq11743 376 1 = m 376 1 := ((hFq11743 376 1 rfl).trans ((yup_na (by decide)).trans ((hFq11731 376 1 rfl).trans ((yup_na (by decide)).trans ((yup_nk (by decide)).trans ((hFq11715 376 1 rfl).trans ((yup_na (by decide)).trans ((yup_na (by decide)).trans ((yup_na (by decide)).trans ((yup_na (by decide)).trans ((hFq11701 376 1 rfl).trans (hFq11626 376 1 rfl))))))))))))
                  have tb11757 := hTq11743.atp 376 6 0 320 rfl
                  have es11758 : mq11743 384 0 = (m 384 0) + 1 := ((hFq11743 384 0 rfl).trans (yup_eq _ _ _ _))
                  have es11759 : mq11743 389 0 = mq11731 389 0 := ((hFq11743 389 0 rfl).trans (yup_na (by decide)))
                  have tb11760 := hTq11731.atp 389 0 0 48 rfl
                  have es11761 : mq11743 376 14 = rq11715 := ((hFq11743 376 14 rfl).trans ((yup_na (by decide)).trans ((hFq11731 376 14 rfl).trans ((yup_na (by decide)).trans (yup_eq _ _ _ _)))))
                  exact y_retU c126_209 ⟨rfl, hTq11743, hF11749, by omega, Or.inl (by omega)⟩
                · refine y_aload 201 c126_200 rfl rfl rfl ?_
                  refine y_iconst 203 c126_201 rfl ?_
                  have es11763 : mq11743 376 1 = m 376 1 := ((hFq11743 376 1 rfl).trans ((yup_na (by decide)).trans ((hFq11731 376 1 rfl).trans ((yup_na (by decide)).trans ((yup_nk (by decide)).trans ((hFq11715 376 1 rfl).trans ((yup_na (by decide)).trans ((yup_na (by decide)).trans ((yup_na (by decide)).trans ((yup_na (by decide)).trans ((hFq11701 376 1 rfl).trans (hFq11626 376 1 rfl))))))))))))
                  have tb11764 := hTq11743.atp 376 6 0 320 rfl
                  refine y_callIB 206 [.ref 376, yI 41] [] c126_203 rfl rfl rfl rfl rfl (ycanO km118 ko376) (t118 hTq11743 (by omega) (by omega)) (fun rq11762 mq11762 nq11762 hq11762 => ?_)
                  obtain ⟨rfl, hTq11762, hFq11762, hq11762⟩ := hq11762
                  have x1q11762 : mq11762 376 1 = m 376 1 := ((hFq11762 376 1 rfl).trans ((hFq11743 376 1 rfl).trans ((yup_na (by decide)).trans ((hFq11731 376 1 rfl).trans ((yup_na (by decide)).trans ((yup_nk (by decide)).trans ((hFq11715 376 1 rfl).trans ((yup_na (by decide)).trans ((yup_na (by decide)).trans ((yup_na (by decide)).trans ((yup_na (by decide)).trans ((hFq11701 376 1 rfl).trans (hFq11626 376 1 rfl)))))))))))))
                  have hF11765 := hF11749.tr hFq11762 wNw_wMh0
                  refine y_if 210 209 c126_206 rfl rfl (yz_ne (by omega)) (fun hb11766 => ?_) (fun hb11766 => ?_)
                  · refine y_aload 211 c126_210 rfl rfl rfl ?_
                    refine y_iconst 213 c126_211 rfl ?_
                    have es11768 : mq11762 376 1 = m 376 1 := ((hFq11762 376 1 rfl).trans ((hFq11743 376 1 rfl).trans ((yup_na (by decide)).trans ((hFq11731 376 1 rfl).trans ((yup_na (by decide)).trans ((yup_nk (by decide)).trans ((hFq11715 376 1 rfl).trans ((yup_na (by decide)).trans ((yup_na (by decide)).trans ((yup_na (by decide)).trans ((yup_na (by decide)).trans ((hFq11701 376 1 rfl).trans (hFq11626 376 1 rfl)))))))))))))
                    have tb11769 := hTq11762.atp 376 3 0 3 rfl
                    have tb11770 := hTq11762.atp 376 6 0 320 rfl
                    have tb11771 := hTq11762.atp 376 8 ((-1)) 320 rfl
                    refine y_callIB 216 [.ref 376, yI 123] [] c126_213 rfl rfl rfl rfl rfl (ycanO km118 ko376) (t118 hTq11762 (by omega) (by omega)) (fun rq11767 mq11767 nq11767 hq11767 => ?_)
                    obtain ⟨rfl, hTq11767, hFq11767, hq11767⟩ := hq11767
                    have x1q11767 : mq11767 376 1 = m 376 1 := ((hFq11767 376 1 rfl).trans ((hFq11762 376 1 rfl).trans ((hFq11743 376 1 rfl).trans ((yup_na (by decide)).trans ((hFq11731 376 1 rfl).trans ((yup_na (by decide)).trans ((yup_nk (by decide)).trans ((hFq11715 376 1 rfl).trans ((yup_na (by decide)).trans ((yup_na (by decide)).trans ((yup_na (by decide)).trans ((yup_na (by decide)).trans ((hFq11701 376 1 rfl).trans (hFq11626 376 1 rfl))))))))))))))
                    have hF11772 := hF11765.tr hFq11767 wNw_wMh0
                    refine y_if 220 219 c126_216 rfl rfl (yz_ne (by omega)) (fun hb11773 => ?_) (fun hb11773 => ?_)
                    · have es11774 : mq11767 376 1 = m 376 1 := ((hFq11767 376 1 rfl).trans ((hFq11762 376 1 rfl).trans ((hFq11743 376 1 rfl).trans ((yup_na (by decide)).trans ((hFq11731 376 1 rfl).trans ((yup_na (by decide)).trans ((yup_nk (by decide)).trans ((hFq11715 376 1 rfl).trans ((yup_na (by decide)).trans ((yup_na (by decide)).trans ((yup_na (by decide)).trans ((yup_na (by decide)).trans ((hFq11701 376 1 rfl).trans (hFq11626 376 1 rfl))))))))))))))
                      have tb11775 := hTq11767.atp 376 3 0 3 rfl
                      have tb11776 := hTq11767.atp 376 6 0 320 rfl
                      have tb11777 := hTq11767.atp 376 8 ((-1)) 320 rfl
                      have es11778 : mq11767 384 0 = (m 384 0) + 1 := ((hFq11767 384 0 rfl).trans ((hFq11762 384 0 rfl).trans ((hFq11743 384 0 rfl).trans (yup_eq _ _ _ _))))
                      have es11779 : mq11767 389 0 = mq11731 389 0 := ((hFq11767 389 0 rfl).trans ((hFq11762 389 0 rfl).trans ((hFq11743 389 0 rfl).trans (yup_na (by decide)))))
                      have tb11780 := hTq11731.atp 389 0 0 48 rfl
                      have es11781 : mq11767 376 14 = rq11715 := ((hFq11767 376 14 rfl).trans ((hFq11762 376 14 rfl).trans ((hFq11743 376 14 rfl).trans ((yup_na (by decide)).trans ((hFq11731 376 14 rfl).trans ((yup_na (by decide)).trans (yup_eq _ _ _ _)))))))
                      have a397 : mq11767 397 (10 * 0 + (m 384 0).toNat) = 0 := by rw [show 10 * 0 + (m 384 0).toNat = (0 + (m 384 0)).toNat by omega]; exact ((hFq11767 397 _ rfl).trans ((hFq11762 397 _ rfl).trans ((hFq11743 397 _ rfl).trans ((yup_na (by decide)).trans ((hFq11731 397 _ rfl).trans ((yup_na (by decide)).trans ((yup_na (by decide)).trans ((hFq11715 397 _ rfl).trans ((yup_na (by decide)).trans (yup_eq _ _ _ _))))))))))
                      have a398 : mq11767 398 (10 * 0 + (m 384 0).toNat) = rq11715 := by rw [show 10 * 0 + (m 384 0).toNat = (0 + (m 384 0)).toNat by omega]; exact ((hFq11767 398 _ rfl).trans ((hFq11762 398 _ rfl).trans ((hFq11743 398 _ rfl).trans ((yup_na (by decide)).trans ((hFq11731 398 _ rfl).trans (yup_eq _ _ _ _))))))
                      have a399 : mq11767 399 (10 * 0 + (m 384 0).toNat) = m 390 0 := by rw [show 10 * 0 + (m 384 0).toNat = (0 + (m 384 0)).toNat by omega]; exact ((hFq11767 399 _ rfl).trans ((hFq11762 399 _ rfl).trans ((hFq11743 399 _ rfl).trans ((yup_na (by decide)).trans ((hFq11731 399 _ rfl).trans ((yup_na (by decide)).trans ((yup_na (by decide)).trans ((hFq11715 399 _ rfl).trans (yup_eq _ _ _ _)))))))))
                      have hx : XD 0 mq11767 := XD.meth hC (by omega) (fun a q ha h1 h2 h3 h4 => hF11772 a q (wMh0_C a q ha h1 h2 h3 h4)) (by omega) (fun k hk => ⟨((hFq11767 397 _ rfl).trans ((hFq11762 397 _ rfl).trans ((hFq11743 397 _ rfl).trans ((yup_na (by decide)).trans ((hFq11731 397 _ rfl).trans ((yup_na (by decide)).trans ((yup_na (by decide)).trans ((hFq11715 397 _ rfl).trans ((yup_na (by decide)).trans ((yup_nk (by omega)).trans ((yup_na (by decide)).trans ((yup_na (by decide)).trans ((hFq11701 397 _ rfl).trans (hFq11626 397 _ rfl)))))))))))))), ((hFq11767 398 _ rfl).trans ((hFq11762 398 _ rfl).trans ((hFq11743 398 _ rfl).trans ((yup_na (by decide)).trans ((hFq11731 398 _ rfl).trans ((yup_nk (by omega)).trans ((yup_na (by decide)).trans ((hFq11715 398 _ rfl).trans ((yup_na (by decide)).trans ((yup_na (by decide)).trans ((yup_na (by decide)).trans ((yup_na (by decide)).trans ((hFq11701 398 _ rfl).trans (hFq11626 398 _ rfl)))))))))))))), ((hFq11767 399 _ rfl).trans ((hFq11762 399 _ rfl).trans ((hFq11743 399 _ rfl).trans ((yup_na (by decide)).trans ((hFq11731 399 _ rfl).trans ((yup_na (by decide)).trans ((yup_na (by decide)).trans ((hFq11715 399 _ rfl).trans ((yup_nk (by omega)).trans ((yup_na (by decide)).trans ((yup_na (by decide)).trans ((yup_na (by decide)).trans ((hFq11701 399 _ rfl).trans (hFq11626 399 _ rfl))))))))))))))⟩) (by omega)
                      exact y_retU c126_220 ⟨rfl, hTq11767, hF11772, by omega, Or.inr ⟨by omega, by omega, by omega, hx⟩⟩
                    · have es11782 : mq11767 376 1 = m 376 1 := ((hFq11767 376 1 rfl).trans ((hFq11762 376 1 rfl).trans ((hFq11743 376 1 rfl).trans ((yup_na (by decide)).trans ((hFq11731 376 1 rfl).trans ((yup_na (by decide)).trans ((yup_nk (by decide)).trans ((hFq11715 376 1 rfl).trans ((yup_na (by decide)).trans ((yup_na (by decide)).trans ((yup_na (by decide)).trans ((yup_na (by decide)).trans ((hFq11701 376 1 rfl).trans (hFq11626 376 1 rfl))))))))))))))
                      have tb11783 := hTq11767.atp 376 3 0 3 rfl
                      have tb11784 := hTq11767.atp 376 6 0 320 rfl
                      have tb11785 := hTq11767.atp 376 8 ((-1)) 320 rfl
                      have es11786 : mq11767 384 0 = (m 384 0) + 1 := ((hFq11767 384 0 rfl).trans ((hFq11762 384 0 rfl).trans ((hFq11743 384 0 rfl).trans (yup_eq _ _ _ _))))
                      have es11787 : mq11767 389 0 = mq11731 389 0 := ((hFq11767 389 0 rfl).trans ((hFq11762 389 0 rfl).trans ((hFq11743 389 0 rfl).trans (yup_na (by decide)))))
                      have tb11788 := hTq11731.atp 389 0 0 48 rfl
                      have es11789 : mq11767 376 14 = rq11715 := ((hFq11767 376 14 rfl).trans ((hFq11762 376 14 rfl).trans ((hFq11743 376 14 rfl).trans ((yup_na (by decide)).trans ((hFq11731 376 14 rfl).trans ((yup_na (by decide)).trans (yup_eq _ _ _ _)))))))
                      exact y_retU c126_219 ⟨rfl, hTq11767, hF11772, by omega, Or.inl (by omega)⟩
                  · have es11790 : mq11762 376 1 = m 376 1 := ((hFq11762 376 1 rfl).trans ((hFq11743 376 1 rfl).trans ((yup_na (by decide)).trans ((hFq11731 376 1 rfl).trans ((yup_na (by decide)).trans ((yup_nk (by decide)).trans ((hFq11715 376 1 rfl).trans ((yup_na (by decide)).trans ((yup_na (by decide)).trans ((yup_na (by decide)).trans ((yup_na (by decide)).trans ((hFq11701 376 1 rfl).trans (hFq11626 376 1 rfl)))))))))))))
                    have tb11791 := hTq11762.atp 376 3 0 3 rfl
                    have tb11792 := hTq11762.atp 376 6 0 320 rfl
                    have tb11793 := hTq11762.atp 376 8 ((-1)) 320 rfl
                    have es11794 : mq11762 384 0 = (m 384 0) + 1 := ((hFq11762 384 0 rfl).trans ((hFq11743 384 0 rfl).trans (yup_eq _ _ _ _)))
                    have es11795 : mq11762 389 0 = mq11731 389 0 := ((hFq11762 389 0 rfl).trans ((hFq11743 389 0 rfl).trans (yup_na (by decide))))
                    have tb11796 := hTq11731.atp 389 0 0 48 rfl
                    have es11797 : mq11762 376 14 = rq11715 := ((hFq11762 376 14 rfl).trans ((hFq11743 376 14 rfl).trans ((yup_na (by decide)).trans ((hFq11731 376 14 rfl).trans ((yup_na (by decide)).trans (yup_eq _ _ _ _))))))
                    exact y_retU c126_209 ⟨rfl, hTq11762, hF11765, by omega, Or.inl (by omega)⟩
              · refine y_aload 188 c126_187 rfl rfl rfl ?_
                refine y_iload 190 c126_188 rfl rfl ?_
                have es11799 : mq11743 376 1 = m 376 1 := ((hFq11743 376 1 rfl).trans ((yup_na (by decide)).trans ((hFq11731 376 1 rfl).trans ((yup_na (by decide)).trans ((yup_nk (by decide)).trans ((hFq11715 376 1 rfl).trans ((yup_na (by decide)).trans ((yup_na (by decide)).trans ((yup_na (by decide)).trans ((yup_na (by decide)).trans ((hFq11701 376 1 rfl).trans (hFq11626 376 1 rfl))))))))))))
                have tb11800 := hTq11743.atp 376 6 0 320 rfl
                have tb11801 := hTq11743.atp 376 8 ((-1)) 320 rfl
                have es11802 : mq11743 389 0 = mq11731 389 0 := ((hFq11743 389 0 rfl).trans (yup_na (by decide)))
                have tb11803 := hTq11731.atp 389 0 0 48 rfl
                have es11804 : mq11743 376 14 = rq11715 := ((hFq11743 376 14 rfl).trans ((yup_na (by decide)).trans ((hFq11731 376 14 rfl).trans ((yup_na (by decide)).trans (yup_eq _ _ _ _)))))
                have es11805 : mq11743 384 0 = (m 384 0) + 1 := ((hFq11743 384 0 rfl).trans (yup_eq _ _ _ _))
                have es11806 : mq11743 376 18 = m 376 18 := ((hFq11743 376 18 rfl).trans ((yup_na (by decide)).trans ((hFq11731 376 18 rfl).trans ((yup_na (by decide)).trans ((yup_nk (by decide)).trans ((hFq11715 376 18 rfl).trans ((yup_na (by decide)).trans ((yup_na (by decide)).trans ((yup_na (by decide)).trans ((yup_na (by decide)).trans ((hFq11701 376 18 rfl).trans (hFq11626 376 18 rfl))))))))))))
                have a398 : mq11743 398 (0 + (m 384 0)).toNat = rq11715 := ((hFq11743 398 _ rfl).trans ((yup_na (by decide)).trans ((hFq11731 398 _ rfl).trans (yup_eq _ _ _ _))))
                have a397 : mq11743 397 (0 + (m 384 0)).toNat = 0 := ((hFq11743 397 _ rfl).trans ((yup_na (by decide)).trans ((hFq11731 397 _ rfl).trans ((yup_na (by decide)).trans ((yup_na (by decide)).trans ((hFq11715 397 _ rfl).trans ((yup_na (by decide)).trans (yup_eq _ _ _ _))))))))
                refine y_callUB 193 [.ref 376, yI (0 + (m 384 0))] [] c126_190 rfl rfl rfl rfl rfl (ycanO km125 ko376) (t125_0 (k := 0 + (m 384 0)) hTq11743 (by omega) (by omega) (by omega) (by omega) (by omega) (by omega)) (fun mq11798 nq11798 hq11798 => ?_)
                obtain ⟨rfl, hTq11798, hFq11798, hlq11798, hq11798, hzq11798⟩ := hq11798
                have x1q11798 : mq11798 376 1 = m 376 1 := ((hFq11798 376 1 rfl).trans ((hFq11743 376 1 rfl).trans ((yup_na (by decide)).trans ((hFq11731 376 1 rfl).trans ((yup_na (by decide)).trans ((yup_nk (by decide)).trans ((hFq11715 376 1 rfl).trans ((yup_na (by decide)).trans ((yup_na (by decide)).trans ((yup_na (by decide)).trans ((yup_na (by decide)).trans ((hFq11701 376 1 rfl).trans (hFq11626 376 1 rfl)))))))))))))
                have hF11807 := hF11749.tr hFq11798 wPz0_wMh0
                refine y_aload 194 c126_193 rfl rfl rfl ?_
                refine y_getX 197 (mq11798 376 8) c126_194 rfl kf376_8 rfl ?_
                have tb11808 := hTq11798.atp 376 8 ((-1)) 320 rfl
                refine y_if 209 200 c126_197 rfl rfl (yz_ge (by omega)) (fun hb11809 => ?_) (fun hb11809 => ?_)
                · have es11810 : mq11798 376 1 = m 376 1 := ((hFq11798 376 1 rfl).trans ((hFq11743 376 1 rfl).trans ((yup_na (by decide)).trans ((hFq11731 376 1 rfl).trans ((yup_na (by decide)).trans ((yup_nk (by decide)).trans ((hFq11715 376 1 rfl).trans ((yup_na (by decide)).trans ((yup_na (by decide)).trans ((yup_na (by decide)).trans ((yup_na (by decide)).trans ((hFq11701 376 1 rfl).trans (hFq11626 376 1 rfl)))))))))))))
                  have tb11811 := hTq11798.atp 376 3 0 3 rfl
                  have tb11812 := hTq11798.atp 376 6 0 320 rfl
                  have es11813 : mq11798 384 0 = (m 384 0) + 1 := ((hFq11798 384 0 rfl).trans ((hFq11743 384 0 rfl).trans (yup_eq _ _ _ _)))
                  have tb11814 := hTq11798.atp 389 0 0 48 rfl
                  have es11815 : mq11798 376 14 = rq11715 := ((hFq11798 376 14 rfl).trans ((hFq11743 376 14 rfl).trans ((yup_na (by decide)).trans ((hFq11731 376 14 rfl).trans ((yup_na (by decide)).trans (yup_eq _ _ _ _))))))
                  exact y_retU c126_209 ⟨rfl, hTq11798, hF11807, by omega, Or.inl (by omega)⟩
                · refine y_aload 201 c126_200 rfl rfl rfl ?_
                  refine y_iconst 203 c126_201 rfl ?_
                  have es11817 : mq11798 376 1 = m 376 1 := ((hFq11798 376 1 rfl).trans ((hFq11743 376 1 rfl).trans ((yup_na (by decide)).trans ((hFq11731 376 1 rfl).trans ((yup_na (by decide)).trans ((yup_nk (by decide)).trans ((hFq11715 376 1 rfl).trans ((yup_na (by decide)).trans ((yup_na (by decide)).trans ((yup_na (by decide)).trans ((yup_na (by decide)).trans ((hFq11701 376 1 rfl).trans (hFq11626 376 1 rfl)))))))))))))
                  have tb11818 := hTq11798.atp 376 3 0 3 rfl
                  have tb11819 := hTq11798.atp 376 6 0 320 rfl
                  refine y_callIB 206 [.ref 376, yI 41] [] c126_203 rfl rfl rfl rfl rfl (ycanO km118 ko376) (t118 hTq11798 (by omega) (by omega)) (fun rq11816 mq11816 nq11816 hq11816 => ?_)
                  obtain ⟨rfl, hTq11816, hFq11816, hq11816⟩ := hq11816
                  have x1q11816 : mq11816 376 1 = m 376 1 := ((hFq11816 376 1 rfl).trans ((hFq11798 376 1 rfl).trans ((hFq11743 376 1 rfl).trans ((yup_na (by decide)).trans ((hFq11731 376 1 rfl).trans ((yup_na (by decide)).trans ((yup_nk (by decide)).trans ((hFq11715 376 1 rfl).trans ((yup_na (by decide)).trans ((yup_na (by decide)).trans ((yup_na (by decide)).trans ((yup_na (by decide)).trans ((hFq11701 376 1 rfl).trans (hFq11626 376 1 rfl))))))))))))))
                  have hF11820 := hF11807.tr hFq11816 wNw_wMh0
                  refine y_if 210 209 c126_206 rfl rfl (yz_ne (by omega)) (fun hb11821 => ?_) (fun hb11821 => ?_)
                  · refine y_aload 211 c126_210 rfl rfl rfl ?_
                    refine y_iconst 213 c126_211 rfl ?_
                    have es11823 : mq11816 376 1 = m 376 1 := ((hFq11816 376 1 rfl).trans ((hFq11798 376 1 rfl).trans ((hFq11743 376 1 rfl).trans ((yup_na (by decide)).trans ((hFq11731 376 1 rfl).trans ((yup_na (by decide)).trans ((yup_nk (by decide)).trans ((hFq11715 376 1 rfl).trans ((yup_na (by decide)).trans ((yup_na (by decide)).trans ((yup_na (by decide)).trans ((yup_na (by decide)).trans ((hFq11701 376 1 rfl).trans (hFq11626 376 1 rfl))))))))))))))
                    have tb11824 := hTq11816.atp 376 3 0 3 rfl
                    have tb11825 := hTq11816.atp 376 6 0 320 rfl
                    have tb11826 := hTq11816.atp 376 8 ((-1)) 320 rfl
                    refine y_callIB 216 [.ref 376, yI 123] [] c126_213 rfl rfl rfl rfl rfl (ycanO km118 ko376) (t118 hTq11816 (by omega) (by omega)) (fun rq11822 mq11822 nq11822 hq11822 => ?_)
                    obtain ⟨rfl, hTq11822, hFq11822, hq11822⟩ := hq11822
                    have x1q11822 : mq11822 376 1 = m 376 1 := ((hFq11822 376 1 rfl).trans ((hFq11816 376 1 rfl).trans ((hFq11798 376 1 rfl).trans ((hFq11743 376 1 rfl).trans ((yup_na (by decide)).trans ((hFq11731 376 1 rfl).trans ((yup_na (by decide)).trans ((yup_nk (by decide)).trans ((hFq11715 376 1 rfl).trans ((yup_na (by decide)).trans ((yup_na (by decide)).trans ((yup_na (by decide)).trans ((yup_na (by decide)).trans ((hFq11701 376 1 rfl).trans (hFq11626 376 1 rfl)))))))))))))))
                    have hF11827 := hF11820.tr hFq11822 wNw_wMh0
                    refine y_if 220 219 c126_216 rfl rfl (yz_ne (by omega)) (fun hb11828 => ?_) (fun hb11828 => ?_)
                    · have es11829 : mq11822 376 1 = m 376 1 := ((hFq11822 376 1 rfl).trans ((hFq11816 376 1 rfl).trans ((hFq11798 376 1 rfl).trans ((hFq11743 376 1 rfl).trans ((yup_na (by decide)).trans ((hFq11731 376 1 rfl).trans ((yup_na (by decide)).trans ((yup_nk (by decide)).trans ((hFq11715 376 1 rfl).trans ((yup_na (by decide)).trans ((yup_na (by decide)).trans ((yup_na (by decide)).trans ((yup_na (by decide)).trans ((hFq11701 376 1 rfl).trans (hFq11626 376 1 rfl)))))))))))))))
                      have tb11830 := hTq11822.atp 376 3 0 3 rfl
                      have tb11831 := hTq11822.atp 376 6 0 320 rfl
                      have tb11832 := hTq11822.atp 376 8 ((-1)) 320 rfl
                      have es11833 : mq11822 384 0 = (m 384 0) + 1 := ((hFq11822 384 0 rfl).trans ((hFq11816 384 0 rfl).trans ((hFq11798 384 0 rfl).trans ((hFq11743 384 0 rfl).trans (yup_eq _ _ _ _)))))
                      have es11834 : mq11822 389 0 = mq11798 389 0 := ((hFq11822 389 0 rfl).trans (hFq11816 389 0 rfl))
                      have tb11835 := hTq11798.atp 389 0 0 48 rfl
                      have es11836 : mq11822 376 14 = rq11715 := ((hFq11822 376 14 rfl).trans ((hFq11816 376 14 rfl).trans ((hFq11798 376 14 rfl).trans ((hFq11743 376 14 rfl).trans ((yup_na (by decide)).trans ((hFq11731 376 14 rfl).trans ((yup_na (by decide)).trans (yup_eq _ _ _ _))))))))
                      have a397 : mq11822 397 (10 * 0 + (m 384 0).toNat) = mq11798 397 (0 + (m 384 0)).toNat := by rw [show 10 * 0 + (m 384 0).toNat = (0 + (m 384 0)).toNat by omega]; exact ((hFq11822 397 _ rfl).trans (hFq11816 397 _ rfl))
                      have a398 : mq11822 398 (10 * 0 + (m 384 0).toNat) = rq11715 := by rw [show 10 * 0 + (m 384 0).toNat = (0 + (m 384 0)).toNat by omega]; exact ((hFq11822 398 _ rfl).trans ((hFq11816 398 _ rfl).trans ((hFq11798 398 _ rfl).trans ((hFq11743 398 _ rfl).trans ((yup_na (by decide)).trans ((hFq11731 398 _ rfl).trans (yup_eq _ _ _ _)))))))
                      have a399 : mq11822 399 (10 * 0 + (m 384 0).toNat) = m 390 0 := by rw [show 10 * 0 + (m 384 0).toNat = (0 + (m 384 0)).toNat by omega]; exact ((hFq11822 399 _ rfl).trans ((hFq11816 399 _ rfl).trans ((hFq11798 399 _ rfl).trans ((hFq11743 399 _ rfl).trans ((yup_na (by decide)).trans ((hFq11731 399 _ rfl).trans ((yup_na (by decide)).trans ((yup_na (by decide)).trans ((hFq11715 399 _ rfl).trans (yup_eq _ _ _ _))))))))))
                      have hx : XD 0 mq11822 := XD.meth hC (by omega) (fun a q ha h1 h2 h3 h4 => hF11827 a q (wMh0_C a q ha h1 h2 h3 h4)) (by omega) (fun k hk => ⟨((hFq11822 397 _ rfl).trans ((hFq11816 397 _ rfl).trans ((hzq11798 _ (by omega)).trans ((hFq11743 397 _ rfl).trans ((yup_na (by decide)).trans ((hFq11731 397 _ rfl).trans ((yup_na (by decide)).trans ((yup_na (by decide)).trans ((hFq11715 397 _ rfl).trans ((yup_na (by decide)).trans ((yup_nk (by omega)).trans ((yup_na (by decide)).trans ((yup_na (by decide)).trans ((hFq11701 397 _ rfl).trans (hFq11626 397 _ rfl))))))))))))))), ((hFq11822 398 _ rfl).trans ((hFq11816 398 _ rfl).trans ((hFq11798 398 _ rfl).trans ((hFq11743 398 _ rfl).trans ((yup_na (by decide)).trans ((hFq11731 398 _ rfl).trans ((yup_nk (by omega)).trans ((yup_na (by decide)).trans ((hFq11715 398 _ rfl).trans ((yup_na (by decide)).trans ((yup_na (by decide)).trans ((yup_na (by decide)).trans ((yup_na (by decide)).trans ((hFq11701 398 _ rfl).trans (hFq11626 398 _ rfl))))))))))))))), ((hFq11822 399 _ rfl).trans ((hFq11816 399 _ rfl).trans ((hFq11798 399 _ rfl).trans ((hFq11743 399 _ rfl).trans ((yup_na (by decide)).trans ((hFq11731 399 _ rfl).trans ((yup_na (by decide)).trans ((yup_na (by decide)).trans ((hFq11715 399 _ rfl).trans ((yup_nk (by omega)).trans ((yup_na (by decide)).trans ((yup_na (by decide)).trans ((yup_na (by decide)).trans ((hFq11701 399 _ rfl).trans (hFq11626 399 _ rfl)))))))))))))))⟩) (by omega)
                      exact y_retU c126_220 ⟨rfl, hTq11822, hF11827, by omega, Or.inr ⟨by omega, by omega, by omega, hx⟩⟩
                    · have es11837 : mq11822 376 1 = m 376 1 := ((hFq11822 376 1 rfl).trans ((hFq11816 376 1 rfl).trans ((hFq11798 376 1 rfl).trans ((hFq11743 376 1 rfl).trans ((yup_na (by decide)).trans ((hFq11731 376 1 rfl).trans ((yup_na (by decide)).trans ((yup_nk (by decide)).trans ((hFq11715 376 1 rfl).trans ((yup_na (by decide)).trans ((yup_na (by decide)).trans ((yup_na (by decide)).trans ((yup_na (by decide)).trans ((hFq11701 376 1 rfl).trans (hFq11626 376 1 rfl)))))))))))))))
                      have tb11838 := hTq11822.atp 376 3 0 3 rfl
                      have tb11839 := hTq11822.atp 376 6 0 320 rfl
                      have tb11840 := hTq11822.atp 376 8 ((-1)) 320 rfl
                      have es11841 : mq11822 384 0 = (m 384 0) + 1 := ((hFq11822 384 0 rfl).trans ((hFq11816 384 0 rfl).trans ((hFq11798 384 0 rfl).trans ((hFq11743 384 0 rfl).trans (yup_eq _ _ _ _)))))
                      have es11842 : mq11822 389 0 = mq11798 389 0 := ((hFq11822 389 0 rfl).trans (hFq11816 389 0 rfl))
                      have tb11843 := hTq11798.atp 389 0 0 48 rfl
                      have es11844 : mq11822 376 14 = rq11715 := ((hFq11822 376 14 rfl).trans ((hFq11816 376 14 rfl).trans ((hFq11798 376 14 rfl).trans ((hFq11743 376 14 rfl).trans ((yup_na (by decide)).trans ((hFq11731 376 14 rfl).trans ((yup_na (by decide)).trans (yup_eq _ _ _ _))))))))
                      exact y_retU c126_219 ⟨rfl, hTq11822, hF11827, by omega, Or.inl (by omega)⟩
                  · have es11845 : mq11816 376 1 = m 376 1 := ((hFq11816 376 1 rfl).trans ((hFq11798 376 1 rfl).trans ((hFq11743 376 1 rfl).trans ((yup_na (by decide)).trans ((hFq11731 376 1 rfl).trans ((yup_na (by decide)).trans ((yup_nk (by decide)).trans ((hFq11715 376 1 rfl).trans ((yup_na (by decide)).trans ((yup_na (by decide)).trans ((yup_na (by decide)).trans ((yup_na (by decide)).trans ((hFq11701 376 1 rfl).trans (hFq11626 376 1 rfl))))))))))))))
                    have tb11846 := hTq11816.atp 376 3 0 3 rfl
                    have tb11847 := hTq11816.atp 376 6 0 320 rfl
                    have tb11848 := hTq11816.atp 376 8 ((-1)) 320 rfl
                    have es11849 : mq11816 384 0 = (m 384 0) + 1 := ((hFq11816 384 0 rfl).trans ((hFq11798 384 0 rfl).trans ((hFq11743 384 0 rfl).trans (yup_eq _ _ _ _))))
                    have es11850 : mq11816 389 0 = mq11798 389 0 := (hFq11816 389 0 rfl)
                    have tb11851 := hTq11798.atp 389 0 0 48 rfl
                    have es11852 : mq11816 376 14 = rq11715 := ((hFq11816 376 14 rfl).trans ((hFq11798 376 14 rfl).trans ((hFq11743 376 14 rfl).trans ((yup_na (by decide)).trans ((hFq11731 376 14 rfl).trans ((yup_na (by decide)).trans (yup_eq _ _ _ _)))))))
                    exact y_retU c126_209 ⟨rfl, hTq11816, hF11820, by omega, Or.inl (by omega)⟩
            · have es11853 : mq11743 376 1 = m 376 1 := ((hFq11743 376 1 rfl).trans ((yup_na (by decide)).trans ((hFq11731 376 1 rfl).trans ((yup_na (by decide)).trans ((yup_nk (by decide)).trans ((hFq11715 376 1 rfl).trans ((yup_na (by decide)).trans ((yup_na (by decide)).trans ((yup_na (by decide)).trans ((yup_na (by decide)).trans ((hFq11701 376 1 rfl).trans (hFq11626 376 1 rfl))))))))))))
              have tb11854 := hTq11743.atp 376 3 0 3 rfl
              have tb11855 := hTq11743.atp 376 6 0 320 rfl
              have tb11856 := hTq11743.atp 376 8 ((-1)) 320 rfl
              have es11857 : mq11743 384 0 = (m 384 0) + 1 := ((hFq11743 384 0 rfl).trans (yup_eq _ _ _ _))
              have es11858 : mq11743 389 0 = mq11731 389 0 := ((hFq11743 389 0 rfl).trans (yup_na (by decide)))
              have tb11859 := hTq11731.atp 389 0 0 48 rfl
              have es11860 : mq11743 376 14 = rq11715 := ((hFq11743 376 14 rfl).trans ((yup_na (by decide)).trans ((hFq11731 376 14 rfl).trans ((yup_na (by decide)).trans (yup_eq _ _ _ _)))))
              exact y_retU c126_179 ⟨rfl, hTq11743, hF11749, by omega, Or.inl (by omega)⟩
          · have es11861 : mq11701 376 1 = m 376 1 := ((hFq11701 376 1 rfl).trans (hFq11626 376 1 rfl))
            have tb11862 := hTq11701.atp 376 3 0 3 rfl
            have tb11863 := hTq11701.atp 376 6 0 320 rfl
            have tb11864 := hTq11701.atp 376 8 ((-1)) 320 rfl
            have es11865 : mq11701 384 0 = m 384 0 := ((hFq11701 384 0 rfl).trans (hFq11626 384 0 rfl))
            have es11866 : mq11701 389 0 = m 389 0 := ((hFq11701 389 0 rfl).trans (hFq11626 389 0 rfl))
            have es11867 : mq11701 376 14 = m 376 14 := ((hFq11701 376 14 rfl).trans (hFq11626 376 14 rfl))
            have tb11868 := hT.atp 376 14 0 46 rfl
            exact y_retU c126_81 ⟨rfl, hTq11701, hF11705, by omega, Or.inl (by omega)⟩
set_option maxRecDepth 100000 in
theorem t126_1 {L : Nat} {xs : Nat → Int32} {d nn : Nat} {m : yM} (hT : Ty gT m) (hl : m 376 6 ≤ m 376 1) (hn : m 376 18 = 0) (h8 : m 376 8 < 0) (hC : XD 1 m) (hc1 : 1 ≤ m 383 1) (h3 : m 376 3 ≠ 0) : YC (gZ L xs) (d + 6) 126 [.ref 376] m nn (qU (fun m' n' => n' = nn ∧ Ty gT m' ∧ Fr wMh1 m m' ∧ m' 376 6 ≤ m' 376 1 ∧ (0 ≤ m' 376 8 ∨ (m' 376 8 < 0 ∧ mu m' < mu m ∧ m' 384 1 = m 384 1 + 1 ∧ XD 1 m')))) := by
  have tb8 := hT.atp 376 8 (-1) 320 rfl
  have hU := hC.2.2.2.1
  have tc383 := hT.atp 383 1 0 6 rfl
  have tc384 := hT.atp 384 1 0 10 rfl
  have tc385 := hT.atp 385 1 0 8 rfl
  have tc389 := hT.atp 389 1 0 48 rfl
  have tc390 := hT.atp 390 1 0 125 rfl
  refine YC.mkB [some (.ref 376), none, none, none, none, none, none] kn126 rfl rfl ?_
  have hF : Fr wMh1 m m := Fr.rf
  refine y_aload 1 c126_0 rfl rfl rfl ?_
  have tb11971 := hT.atp 376 18 0 1 rfl
  refine y_callP 4 [.ref 376] [] c126_1 rfl rfl rfl rfl rfl (ycanO km96 ko376) (t96_1 (by omega)) (fun r11970 hr11970 => ?_)
  subst hr11970
  refine y_istore 5 c126_4 rfl rfl ?_
  refine y_aload 6 c126_5 rfl rfl rfl ?_
  refine y_getR 9 c126_6 rfl kf376_20 ?_
  refine y_iload 10 c126_9 rfl rfl ?_
  refine y_iaX 11 (m 383 1) c126_10 rfl ka383 (by decide) rfl ?_
  refine y_iconst 12 c126_11 rfl ?_
  refine y_isub 13 c126_12 rfl ?_
  refine y_istore 14 c126_13 rfl rfl ?_
  refine y_aload 15 c126_14 rfl rfl rfl ?_
  have tb11973 := hT.atp 376 1 0 320 rfl
  have tb11974 := hT.atp 376 3 0 3 rfl
  have tb11975 := hT.atp 376 6 0 320 rfl
  have tb11976 := hT.atp 376 8 ((-1)) 320 rfl
  refine y_callUB 18 [.ref 376] [] c126_15 rfl rfl rfl rfl rfl (ycanO km99 ko376) (t99u hT (by omega)) (fun mq11972 nq11972 hq11972 => ?_)
  obtain ⟨rfl, hTq11972, hFq11972, hq11972⟩ := hq11972
  have x1q11972 : mq11972 376 1 = m 376 1 := (hFq11972 376 1 rfl)
  have hF11977 := hF.tr hFq11972 wNx_wMh1
  refine y_aload 19 c126_18 rfl rfl rfl ?_
  have tb11978 := hTq11972.atp 376 3 0 3 rfl
  refine y_callP 22 [.ref 376] [] c126_19 rfl rfl rfl rfl rfl (ycanO km115 ko376) (t115 hTq11972) (fun r11979 hr11979 => ?_)
  refine y_if 65 25 c126_22 rfl rfl (yz_eq (by omega)) (fun hb11980 => ?_) (fun hb11980 => ?_)
  · refine y_iconst 66 c126_65 rfl ?_
    refine y_istore 67 c126_66 rfl rfl ?_
    refine y_aload 68 c126_67 rfl rfl rfl ?_
    refine y_getX 71 (mq11972 376 4) c126_68 rfl kf376_4 rfl ?_
    have tb11981 := hTq11972.atp 376 4 ((-2147483648)) 2147483647 rfl
    refine y_istore 73 c126_71 rfl rfl ?_
    refine y_aload 74 c126_73 rfl rfl rfl ?_
    refine y_iload 75 c126_74 rfl rfl ?_
    have es11983 : mq11972 376 1 = m 376 1 := (hFq11972 376 1 rfl)
    have tb11984 := hTq11972.atp 376 6 0 320 rfl
    have es11985 : mq11972 376 8 = m 376 8 := (hFq11972 376 8 rfl)
    refine y_callIB 78 [.ref 376, yI 0] [] c126_75 rfl rfl rfl rfl rfl (ycanO km105 ko376) (t105 (g := 0) hTq11972 (by omega) (by omega)) (fun rq11982 mq11982 nq11982 hq11982 => ?_)
    obtain ⟨rfl, hTq11982, hFq11982, hq11982⟩ := hq11982
    have x1q11982 : mq11982 376 1 = m 376 1 := ((hFq11982 376 1 rfl).trans (hFq11972 376 1 rfl))
    have hF11986 := hF11977.tr hFq11982 wNw_wMh1
    refine y_if 82 81 c126_78 rfl rfl (yz_ne (by omega)) (fun hb11987 => ?_) (fun hb11987 => ?_)
    · exfalso; omega
    · have es11988 : mq11982 376 1 = m 376 1 := ((hFq11982 376 1 rfl).trans (hFq11972 376 1 rfl))
      have tb11989 := hTq11982.atp 376 3 0 3 rfl
      have tb11990 := hTq11982.atp 376 6 0 320 rfl
      have tb11991 := hTq11982.atp 376 8 ((-1)) 320 rfl
      have es11992 : mq11982 384 1 = m 384 1 := ((hFq11982 384 1 rfl).trans (hFq11972 384 1 rfl))
      have es11993 : mq11982 389 1 = m 389 1 := ((hFq11982 389 1 rfl).trans (hFq11972 389 1 rfl))
      have es11994 : mq11982 376 14 = m 376 14 := ((hFq11982 376 14 rfl).trans (hFq11972 376 14 rfl))
      have tb11995 := hT.atp 376 14 0 46 rfl
      exact y_retU c126_81 ⟨rfl, hTq11982, hF11986, by omega, Or.inl (by omega)⟩
  · refine y_aload 26 c126_25 rfl rfl rfl ?_
    refine y_getR 29 c126_26 rfl kf376_21 ?_
    refine y_iload 30 c126_29 rfl rfl ?_
    refine y_iaX 31 (m 384 1) c126_30 rfl ka384 (by decide) (hFq11972 384 1 rfl) ?_
    refine y_iconst 33 c126_31 rfl ?_
    refine y_icmp 65 36 c126_33 rfl rfl (yc_ge (by omega) (by omega)) (fun hb11996 => ?_) (fun hb11996 => ?_)
    · refine y_iconst 66 c126_65 rfl ?_
      refine y_istore 67 c126_66 rfl rfl ?_
      refine y_aload 68 c126_67 rfl rfl rfl ?_
      refine y_getX 71 (mq11972 376 4) c126_68 rfl kf376_4 rfl ?_
      have tb11997 := hTq11972.atp 376 4 ((-2147483648)) 2147483647 rfl
      refine y_istore 73 c126_71 rfl rfl ?_
      refine y_aload 74 c126_73 rfl rfl rfl ?_
      refine y_iload 75 c126_74 rfl rfl ?_
      have es11999 : mq11972 376 1 = m 376 1 := (hFq11972 376 1 rfl)
      have tb12000 := hTq11972.atp 376 6 0 320 rfl
      have es12001 : mq11972 376 8 = m 376 8 := (hFq11972 376 8 rfl)
      refine y_callIB 78 [.ref 376, yI 0] [] c126_75 rfl rfl rfl rfl rfl (ycanO km105 ko376) (t105 (g := 0) hTq11972 (by omega) (by omega)) (fun rq11998 mq11998 nq11998 hq11998 => ?_)
      obtain ⟨rfl, hTq11998, hFq11998, hq11998⟩ := hq11998
      have x1q11998 : mq11998 376 1 = m 376 1 := ((hFq11998 376 1 rfl).trans (hFq11972 376 1 rfl))
      have hF12002 := hF11977.tr hFq11998 wNw_wMh1
      refine y_if 82 81 c126_78 rfl rfl (yz_ne (by omega)) (fun hb12003 => ?_) (fun hb12003 => ?_)
      · exfalso; omega
      · have es12004 : mq11998 376 1 = m 376 1 := ((hFq11998 376 1 rfl).trans (hFq11972 376 1 rfl))
        have tb12005 := hTq11998.atp 376 3 0 3 rfl
        have tb12006 := hTq11998.atp 376 6 0 320 rfl
        have tb12007 := hTq11998.atp 376 8 ((-1)) 320 rfl
        have es12008 : mq11998 384 1 = m 384 1 := ((hFq11998 384 1 rfl).trans (hFq11972 384 1 rfl))
        have es12009 : mq11998 389 1 = m 389 1 := ((hFq11998 389 1 rfl).trans (hFq11972 389 1 rfl))
        have es12010 : mq11998 376 14 = m 376 14 := ((hFq11998 376 14 rfl).trans (hFq11972 376 14 rfl))
        have tb12011 := hT.atp 376 14 0 46 rfl
        exact y_retU c126_81 ⟨rfl, hTq11998, hF12002, by omega, Or.inl (by omega)⟩
    · refine y_aload 37 c126_36 rfl rfl rfl ?_
      refine y_getR 40 c126_37 rfl kf376_26 ?_
      refine y_iload 41 c126_40 rfl rfl ?_
      refine y_iaX 42 (m 389 1) c126_41 rfl ka389 (by decide) (hFq11972 389 1 rfl) ?_
      refine y_iconst 44 c126_42 rfl ?_
      refine y_icmp 65 47 c126_44 rfl rfl (yc_ge (by omega) (by omega)) (fun hb12012 => ?_) (fun hb12012 => ?_)
      · refine y_iconst 66 c126_65 rfl ?_
        refine y_istore 67 c126_66 rfl rfl ?_
        refine y_aload 68 c126_67 rfl rfl rfl ?_
        refine y_getX 71 (mq11972 376 4) c126_68 rfl kf376_4 rfl ?_
        have tb12013 := hTq11972.atp 376 4 ((-2147483648)) 2147483647 rfl
        refine y_istore 73 c126_71 rfl rfl ?_
        refine y_aload 74 c126_73 rfl rfl rfl ?_
        refine y_iload 75 c126_74 rfl rfl ?_
        have es12015 : mq11972 376 1 = m 376 1 := (hFq11972 376 1 rfl)
        have tb12016 := hTq11972.atp 376 6 0 320 rfl
        have es12017 : mq11972 376 8 = m 376 8 := (hFq11972 376 8 rfl)
        refine y_callIB 78 [.ref 376, yI 0] [] c126_75 rfl rfl rfl rfl rfl (ycanO km105 ko376) (t105 (g := 0) hTq11972 (by omega) (by omega)) (fun rq12014 mq12014 nq12014 hq12014 => ?_)
        obtain ⟨rfl, hTq12014, hFq12014, hq12014⟩ := hq12014
        have x1q12014 : mq12014 376 1 = m 376 1 := ((hFq12014 376 1 rfl).trans (hFq11972 376 1 rfl))
        have hF12018 := hF11977.tr hFq12014 wNw_wMh1
        refine y_if 82 81 c126_78 rfl rfl (yz_ne (by omega)) (fun hb12019 => ?_) (fun hb12019 => ?_)
        · exfalso; omega
        · have es12020 : mq12014 376 1 = m 376 1 := ((hFq12014 376 1 rfl).trans (hFq11972 376 1 rfl))
          have tb12021 := hTq12014.atp 376 3 0 3 rfl
          have tb12022 := hTq12014.atp 376 6 0 320 rfl
          have tb12023 := hTq12014.atp 376 8 ((-1)) 320 rfl
          have es12024 : mq12014 384 1 = m 384 1 := ((hFq12014 384 1 rfl).trans (hFq11972 384 1 rfl))
          have es12025 : mq12014 389 1 = m 389 1 := ((hFq12014 389 1 rfl).trans (hFq11972 389 1 rfl))
          have es12026 : mq12014 376 14 = m 376 14 := ((hFq12014 376 14 rfl).trans (hFq11972 376 14 rfl))
          have tb12027 := hT.atp 376 14 0 46 rfl
          exact y_retU c126_81 ⟨rfl, hTq12014, hF12018, by omega, Or.inl (by omega)⟩
      · refine y_aload 48 c126_47 rfl rfl rfl ?_
        refine y_iload 49 c126_48 rfl rfl ?_
        refine y_iload 50 c126_49 rfl rfl ?_
        refine y_aload 51 c126_50 rfl rfl rfl ?_
        refine y_getX 54 (mq11972 376 4) c126_51 rfl kf376_4 rfl ?_
        have tb12028 := hTq11972.atp 376 4 ((-2147483648)) 2147483647 rfl
        refine y_iconst 55 c126_54 rfl ?_
        have es12029 : mq11972 383 1 = m 383 1 := (hFq11972 383 1 rfl)
        have es12030 : mq11972 384 1 = m 384 1 := (hFq11972 384 1 rfl)
        refine y_callP 58 [.ref 376, yI 1, yI ((m 383 1) - 1), yI (mq11972 376 4), yI 1] [] c126_55 rfl rfl rfl rfl rfl (ycanO km123 ko376) (t123_1 hTq11972 (by rw [show mq11972 383 1 = m 383 1 from (hFq11972 383 1 rfl)]; exact hU.fr (fun q => (hFq11972 392 q rfl))) (by omega) (by omega) (by omega)) (fun r12031 hr12031 => ?_)
        refine y_if 65 61 c126_58 rfl rfl (yz_ge (by omega)) (fun hb12032 => ?_) (fun hb12032 => ?_)
        · refine y_iconst 66 c126_65 rfl ?_
          refine y_istore 67 c126_66 rfl rfl ?_
          refine y_aload 68 c126_67 rfl rfl rfl ?_
          refine y_getX 71 (mq11972 376 4) c126_68 rfl kf376_4 rfl ?_
          refine y_istore 73 c126_71 rfl rfl ?_
          refine y_aload 74 c126_73 rfl rfl rfl ?_
          refine y_iload 75 c126_74 rfl rfl ?_
          have es12034 : mq11972 376 1 = m 376 1 := (hFq11972 376 1 rfl)
          have tb12035 := hTq11972.atp 376 6 0 320 rfl
          have es12036 : mq11972 376 8 = m 376 8 := (hFq11972 376 8 rfl)
          refine y_callIB 78 [.ref 376, yI 0] [] c126_75 rfl rfl rfl rfl rfl (ycanO km105 ko376) (t105 (g := 0) hTq11972 (by omega) (by omega)) (fun rq12033 mq12033 nq12033 hq12033 => ?_)
          obtain ⟨rfl, hTq12033, hFq12033, hq12033⟩ := hq12033
          have x1q12033 : mq12033 376 1 = m 376 1 := ((hFq12033 376 1 rfl).trans (hFq11972 376 1 rfl))
          have hF12037 := hF11977.tr hFq12033 wNw_wMh1
          refine y_if 82 81 c126_78 rfl rfl (yz_ne (by omega)) (fun hb12038 => ?_) (fun hb12038 => ?_)
          · exfalso; omega
          · have es12039 : mq12033 376 1 = m 376 1 := ((hFq12033 376 1 rfl).trans (hFq11972 376 1 rfl))
            have tb12040 := hTq12033.atp 376 3 0 3 rfl
            have tb12041 := hTq12033.atp 376 6 0 320 rfl
            have tb12042 := hTq12033.atp 376 8 ((-1)) 320 rfl
            have es12043 : mq12033 384 1 = m 384 1 := ((hFq12033 384 1 rfl).trans (hFq11972 384 1 rfl))
            have es12044 : mq12033 389 1 = m 389 1 := ((hFq12033 389 1 rfl).trans (hFq11972 389 1 rfl))
            have es12045 : mq12033 376 14 = m 376 14 := ((hFq12033 376 14 rfl).trans (hFq11972 376 14 rfl))
            have tb12046 := hT.atp 376 14 0 46 rfl
            exact y_retU c126_81 ⟨rfl, hTq12033, hF12037, by omega, Or.inl (by omega)⟩
        · refine y_iconst 62 c126_61 rfl ?_
          refine y_goto 66 c126_62 rfl ?_
          refine y_istore 67 c126_66 rfl rfl ?_
          refine y_aload 68 c126_67 rfl rfl rfl ?_
          refine y_getX 71 (mq11972 376 4) c126_68 rfl kf376_4 rfl ?_
          refine y_istore 73 c126_71 rfl rfl ?_
          refine y_aload 74 c126_73 rfl rfl rfl ?_
          refine y_iload 75 c126_74 rfl rfl ?_
          have es12048 : mq11972 376 1 = m 376 1 := (hFq11972 376 1 rfl)
          have tb12049 := hTq11972.atp 376 6 0 320 rfl
          have es12050 : mq11972 376 8 = m 376 8 := (hFq11972 376 8 rfl)
          refine y_callIB 78 [.ref 376, yI 1] [] c126_75 rfl rfl rfl rfl rfl (ycanO km105 ko376) (t105 (g := 1) hTq11972 (by omega) (by omega)) (fun rq12047 mq12047 nq12047 hq12047 => ?_)
          obtain ⟨rfl, hTq12047, hFq12047, hq12047⟩ := hq12047
          have x1q12047 : mq12047 376 1 = m 376 1 := ((hFq12047 376 1 rfl).trans (hFq11972 376 1 rfl))
          have hF12051 := hF11977.tr hFq12047 wNw_wMh1
          refine y_if 82 81 c126_78 rfl rfl (yz_ne (by omega)) (fun hb12052 => ?_) (fun hb12052 => ?_)
          · refine y_iconst 84 c126_82 rfl ?_
            refine y_iload 85 c126_84 rfl rfl ?_
            refine y_imul 86 c126_85 rfl ?_
            refine y_top 10 (by decide) ?_
            refine y_aload 87 c126_86 rfl rfl rfl ?_
            refine y_getR 90 c126_87 rfl kf376_21 ?_
            refine y_iload 91 c126_90 rfl rfl ?_
            refine y_iaX 92 (m 384 1) c126_91 rfl ka384 (by decide) ((hFq12047 384 1 rfl).trans (hFq11972 384 1 rfl)) ?_
            refine y_iadd 93 c126_92 rfl ?_
            refine y_istore 95 c126_93 rfl rfl ?_
            refine y_aload 96 c126_95 rfl rfl rfl ?_
            refine y_getR 99 c126_96 rfl kf376_32 ?_
            refine y_iload 101 c126_99 rfl rfl ?_
            refine y_iload 103 c126_101 rfl rfl ?_
            refine y_iastore 104 c126_103 rfl ka395 (by omega) (y_nar0 _) ?_
            have hT12053 := hTq12047.up 395 ((10 + (m 384 1)).toNat) (mq11972 376 4) ((-2147483648)) 2147483647 rfl (by omega)
            have hF12054 := hF12051.up 395 ((10 + (m 384 1)).toNat) (mq11972 376 4) (wMh1_395 (by omega))
            refine y_aload 105 c126_104 rfl rfl rfl ?_
            refine y_getR 108 c126_105 rfl kf376_33 ?_
            refine y_iload 110 c126_108 rfl rfl ?_
            refine y_iload 111 c126_110 rfl rfl ?_
            refine y_iastore 112 c126_111 rfl ka396 (by omega) (y_nar0 _) ?_
            have hT12055 := hT12053.up 396 ((10 + (m 384 1)).toNat) ((m 383 1) - 1) 0 5 rfl (by omega)
            have hF12056 := hF12054.up 396 ((10 + (m 384 1)).toNat) ((m 383 1) - 1) (wMh1_396 (by omega))
            refine y_aload 113 c126_112 rfl rfl rfl ?_
            refine y_getR 116 c126_113 rfl kf376_34 ?_
            refine y_iload 118 c126_116 rfl rfl ?_
            refine y_iconst 119 c126_118 rfl ?_
            refine y_iastore 120 c126_119 rfl ka397 (by omega) (y_nar0 _) ?_
            have hT12057 := hT12055.up 397 ((10 + (m 384 1)).toNat) 0 0 2 rfl (by omega)
            have hF12058 := hF12056.up 397 ((10 + (m 384 1)).toNat) 0 (wMh1_397 (by omega))
            refine y_aload 121 c126_120 rfl rfl rfl ?_
            refine y_getR 124 c126_121 rfl kf376_36 ?_
            refine y_iload 126 c126_124 rfl rfl ?_
            refine y_aload 127 c126_126 rfl rfl rfl ?_
            refine y_getR 130 c126_127 rfl kf376_27 ?_
            refine y_iload 131 c126_130 rfl rfl ?_
            refine y_iaX 132 (m 390 1) c126_131 rfl ka390 (by decide) ((yup_na (by decide)).trans ((yup_na (by decide)).trans ((yup_na (by decide)).trans ((hFq12047 390 1 rfl).trans (hFq11972 390 1 rfl))))) ?_
            refine y_iastore 133 c126_132 rfl ka399 (by omega) (y_nar0 _) ?_
            have hT12059 := hT12057.up 399 ((10 + (m 384 1)).toNat) (m 390 1) 0 125 rfl (by omega)
            have hF12060 := hF12058.up 399 ((10 + (m 384 1)).toNat) (m 390 1) (wMh1_399 (by omega))
            refine y_aload 134 c126_133 rfl rfl rfl ?_
            refine y_aload 135 c126_134 rfl rfl rfl ?_
            refine y_iconst 136 c126_135 rfl ?_
            have es12062 : (yup (yup (yup (yup mq12047 395 ((10 + (m 384 1)).toNat) (mq11972 376 4)) 396 ((10 + (m 384 1)).toNat) ((m 383 1) - 1)) 397 ((10 + (m 384 1)).toNat) 0) 399 ((10 + (m 384 1)).toNat) (m 390 1)) 376 1 = m 376 1 := ((yup_na (by decide)).trans ((yup_na (by decide)).trans ((yup_na (by decide)).trans ((yup_na (by decide)).trans ((hFq12047 376 1 rfl).trans (hFq11972 376 1 rfl))))))
            have es12063 : (yup (yup (yup (yup mq12047 395 ((10 + (m 384 1)).toNat) (mq11972 376 4)) 396 ((10 + (m 384 1)).toNat) ((m 383 1) - 1)) 397 ((10 + (m 384 1)).toNat) 0) 399 ((10 + (m 384 1)).toNat) (m 390 1)) 376 3 = mq12047 376 3 := rfl
            have tb12064 := hTq12047.atp 376 3 0 3 rfl
            have es12065 : (yup (yup (yup (yup mq12047 395 ((10 + (m 384 1)).toNat) (mq11972 376 4)) 396 ((10 + (m 384 1)).toNat) ((m 383 1) - 1)) 397 ((10 + (m 384 1)).toNat) 0) 399 ((10 + (m 384 1)).toNat) (m 390 1)) 376 6 = mq12047 376 6 := rfl
            have tb12066 := hTq12047.atp 376 6 0 320 rfl
            have es12067 : (yup (yup (yup (yup mq12047 395 ((10 + (m 384 1)).toNat) (mq11972 376 4)) 396 ((10 + (m 384 1)).toNat) ((m 383 1) - 1)) 397 ((10 + (m 384 1)).toNat) 0) 399 ((10 + (m 384 1)).toNat) (m 390 1)) 376 8 = mq12047 376 8 := rfl
            have tb12068 := hTq12047.atp 376 8 ((-1)) 320 rfl
            have es12069 : (yup (yup (yup (yup mq12047 395 ((10 + (m 384 1)).toNat) (mq11972 376 4)) 396 ((10 + (m 384 1)).toNat) ((m 383 1) - 1)) 397 ((10 + (m 384 1)).toNat) 0) 399 ((10 + (m 384 1)).toNat) (m 390 1)) 376 18 = m 376 18 := ((yup_na (by decide)).trans ((yup_na (by decide)).trans ((yup_na (by decide)).trans ((yup_na (by decide)).trans ((hFq12047 376 18 rfl).trans (hFq11972 376 18 rfl))))))
            have es12070 : (yup (yup (yup (yup mq12047 395 ((10 + (m 384 1)).toNat) (mq11972 376 4)) 396 ((10 + (m 384 1)).toNat) ((m 383 1) - 1)) 397 ((10 + (m 384 1)).toNat) 0) 399 ((10 + (m 384 1)).toNat) (m 390 1)) 389 1 = m 389 1 := ((yup_na (by decide)).trans ((yup_na (by decide)).trans ((yup_na (by decide)).trans ((yup_na (by decide)).trans ((hFq12047 389 1 rfl).trans (hFq11972 389 1 rfl))))))
            have em12071 : mu (yup (yup (yup (yup mq12047 395 ((10 + (m 384 1)).toNat) (mq11972 376 4)) 396 ((10 + (m 384 1)).toNat) ((m 383 1) - 1)) 397 ((10 + (m 384 1)).toNat) 0) 399 ((10 + (m 384 1)).toNat) (m 390 1)) = mu mq12047 := mu_fr ((yup_na (by decide)).trans ((yup_na (by decide)).trans ((yup_na (by decide)).trans (yup_na (by decide))))) ((yup_na (by decide)).trans ((yup_na (by decide)).trans ((yup_na (by decide)).trans (yup_na (by decide))))) ((yup_na (by decide)).trans ((yup_na (by decide)).trans ((yup_na (by decide)).trans (yup_na (by decide)))))
            refine y_callIB 139 [.ref 376, yI ((-1))] [.ref 376] c126_136 rfl rfl rfl rfl rfl (ycanO km124 ko376) (t124_1 hT12059 (by omega) (by omega) (by omega)) (fun rq12061 mq12061 nq12061 hq12061 => ?_)
            obtain ⟨rfl, hTq12061, hFq12061, hq12061⟩ := hq12061
            have x1q12061 : mq12061 376 1 = m 376 1 := ((hFq12061 376 1 rfl).trans ((yup_na (by decide)).trans ((yup_na (by decide)).trans ((yup_na (by decide)).trans ((yup_na (by decide)).trans ((hFq12047 376 1 rfl).trans (hFq11972 376 1 rfl)))))))
            have hF12072 := hF12060.tr hFq12061 wVp1_wMh1
            refine y_putI 142 c126_139 rfl kf376_14 (y_fit0 _) ?_
            have hT12073 := hTq12061.up 376 14 rq12061 0 46 rfl (by omega)
            have hF12074 := hF12072.up 376 14 rq12061 rfl
            refine y_aload 143 c126_142 rfl rfl rfl ?_
            refine y_getR 146 c126_143 rfl kf376_35 ?_
            refine y_iload 148 c126_146 rfl rfl ?_
            refine y_aload 149 c126_148 rfl rfl rfl ?_
            refine y_getX 152 rq12061 c126_149 rfl kf376_14 rfl ?_
            refine y_iastore 153 c126_152 rfl ka398 (by omega) (y_nar0 _) ?_
            have hT12075 := hT12073.up 398 ((10 + (m 384 1)).toNat) rq12061 0 46 rfl (by omega)
            have hF12076 := hF12074.up 398 ((10 + (m 384 1)).toNat) rq12061 (wMh1_398 (by omega))
            refine y_aload 154 c126_153 rfl rfl rfl ?_
            refine y_iconst 155 c126_154 rfl ?_
            have es12078 : (yup (yup mq12061 376 14 rq12061) 398 ((10 + (m 384 1)).toNat) rq12061) 376 1 = m 376 1 := ((yup_na (by decide)).trans ((yup_nk (by decide)).trans ((hFq12061 376 1 rfl).trans ((yup_na (by decide)).trans ((yup_na (by decide)).trans ((yup_na (by decide)).trans ((yup_na (by decide)).trans ((hFq12047 376 1 rfl).trans (hFq11972 376 1 rfl)))))))))
            have es12079 : (yup (yup mq12061 376 14 rq12061) 398 ((10 + (m 384 1)).toNat) rq12061) 376 3 = mq12047 376 3 := ((yup_na (by decide)).trans ((yup_nk (by decide)).trans ((hFq12061 376 3 rfl).trans ((yup_na (by decide)).trans ((yup_na (by decide)).trans ((yup_na (by decide)).trans (yup_na (by decide))))))))
            have es12080 : (yup (yup mq12061 376 14 rq12061) 398 ((10 + (m 384 1)).toNat) rq12061) 376 6 = mq12047 376 6 := ((yup_na (by decide)).trans ((yup_nk (by decide)).trans ((hFq12061 376 6 rfl).trans ((yup_na (by decide)).trans ((yup_na (by decide)).trans ((yup_na (by decide)).trans (yup_na (by decide))))))))
            have es12081 : (yup (yup mq12061 376 14 rq12061) 398 ((10 + (m 384 1)).toNat) rq12061) 376 8 = mq12047 376 8 := ((yup_na (by decide)).trans ((yup_nk (by decide)).trans ((hFq12061 376 8 rfl).trans ((yup_na (by decide)).trans ((yup_na (by decide)).trans ((yup_na (by decide)).trans (yup_na (by decide))))))))
            have es12082 : (yup (yup mq12061 376 14 rq12061) 398 ((10 + (m 384 1)).toNat) rq12061) 376 18 = m 376 18 := ((yup_na (by decide)).trans ((yup_nk (by decide)).trans ((hFq12061 376 18 rfl).trans ((yup_na (by decide)).trans ((yup_na (by decide)).trans ((yup_na (by decide)).trans ((yup_na (by decide)).trans ((hFq12047 376 18 rfl).trans (hFq11972 376 18 rfl)))))))))
            have es12083 : (yup (yup mq12061 376 14 rq12061) 398 ((10 + (m 384 1)).toNat) rq12061) 389 1 = mq12061 389 1 := rfl
            have tb12084 := hTq12061.atp 389 1 0 48 rfl
            have em12085 : mu (yup (yup mq12061 376 14 rq12061) 398 ((10 + (m 384 1)).toNat) rq12061) = mu mq12047 := mu_fr ((yup_na (by decide)).trans ((yup_nk (by decide)).trans ((hFq12061 376 1 rfl).trans ((yup_na (by decide)).trans ((yup_na (by decide)).trans ((yup_na (by decide)).trans (yup_na (by decide)))))))) ((yup_na (by decide)).trans ((yup_nk (by decide)).trans ((hFq12061 376 3 rfl).trans ((yup_na (by decide)).trans ((yup_na (by decide)).trans ((yup_na (by decide)).trans (yup_na (by decide)))))))) ((yup_na (by decide)).trans ((yup_nk (by decide)).trans ((hFq12061 376 6 rfl).trans ((yup_na (by decide)).trans ((yup_na (by decide)).trans ((yup_na (by decide)).trans (yup_na (by decide))))))))
            refine y_callIB 158 [.ref 376, yI ((-1))] [] c126_155 rfl rfl rfl rfl rfl (ycanO km124 ko376) (t124_1 hT12075 (by omega) (by omega) (by omega)) (fun rq12077 mq12077 nq12077 hq12077 => ?_)
            obtain ⟨rfl, hTq12077, hFq12077, hq12077⟩ := hq12077
            have x1q12077 : mq12077 376 1 = m 376 1 := ((hFq12077 376 1 rfl).trans ((yup_na (by decide)).trans ((yup_nk (by decide)).trans ((hFq12061 376 1 rfl).trans ((yup_na (by decide)).trans ((yup_na (by decide)).trans ((yup_na (by decide)).trans ((yup_na (by decide)).trans ((hFq12047 376 1 rfl).trans (hFq11972 376 1 rfl))))))))))
            have hF12086 := hF12076.tr hFq12077 wVp1_wMh1
            refine y_istore 160 c126_158 rfl rfl ?_
            refine y_aload 161 c126_160 rfl rfl rfl ?_
            refine y_getR 164 c126_161 rfl kf376_21 ?_
            refine y_iload 165 c126_164 rfl rfl ?_
            refine y_dup2 166 c126_165 rfl ⟨rfl, rfl⟩ ?_
            refine y_iaX 167 (m 384 1) c126_166 rfl ka384 (by decide) ((hFq12077 384 1 rfl).trans ((yup_na (by decide)).trans ((yup_na (by decide)).trans ((hFq12061 384 1 rfl).trans ((yup_na (by decide)).trans ((yup_na (by decide)).trans ((yup_na (by decide)).trans ((yup_na (by decide)).trans ((hFq12047 384 1 rfl).trans (hFq11972 384 1 rfl)))))))))) ?_
            refine y_iconst 168 c126_167 rfl ?_
            refine y_iadd 169 c126_168 rfl ?_
            refine y_iastore 170 c126_169 rfl ka384 (by omega) (y_nar0 _) ?_
            have hT12087 := hTq12077.up 384 ((1 : Int).toNat) ((m 384 1) + 1) 0 10 rfl (by omega)
            have hF12088 := hF12086.up 384 ((1 : Int).toNat) ((m 384 1) + 1) rfl
            refine y_aload 171 c126_170 rfl rfl rfl ?_
            refine y_iconst 173 c126_171 rfl ?_
            have es12090 : (yup mq12077 384 ((1 : Int).toNat) ((m 384 1) + 1)) 376 1 = m 376 1 := ((yup_na (by decide)).trans ((hFq12077 376 1 rfl).trans ((yup_na (by decide)).trans ((yup_nk (by decide)).trans ((hFq12061 376 1 rfl).trans ((yup_na (by decide)).trans ((yup_na (by decide)).trans ((yup_na (by decide)).trans ((yup_na (by decide)).trans ((hFq12047 376 1 rfl).trans (hFq11972 376 1 rfl)))))))))))
            have es12091 : (yup mq12077 384 ((1 : Int).toNat) ((m 384 1) + 1)) 376 3 = mq12047 376 3 := ((yup_na (by decide)).trans ((hFq12077 376 3 rfl).trans ((yup_na (by decide)).trans ((yup_nk (by decide)).trans ((hFq12061 376 3 rfl).trans ((yup_na (by decide)).trans ((yup_na (by decide)).trans ((yup_na (by decide)).trans (yup_na (by decide))))))))))
            have es12092 : (yup mq12077 384 ((1 : Int).toNat) ((m 384 1) + 1)) 376 6 = mq12047 376 6 := ((yup_na (by decide)).trans ((hFq12077 376 6 rfl).trans ((yup_na (by decide)).trans ((yup_nk (by decide)).trans ((hFq12061 376 6 rfl).trans ((yup_na (by decide)).trans ((yup_na (by decide)).trans ((yup_na (by decide)).trans (yup_na (by decide))))))))))
            have es12093 : (yup mq12077 384 ((1 : Int).toNat) ((m 384 1) + 1)) 376 8 = mq12047 376 8 := ((yup_na (by decide)).trans ((hFq12077 376 8 rfl).trans ((yup_na (by decide)).trans ((yup_nk (by decide)).trans ((hFq12061 376 8 rfl).trans ((yup_na (by decide)).trans ((yup_na (by decide)).trans ((yup_na (by decide)).trans (yup_na (by decide))))))))))
            have em12094 : mu (yup mq12077 384 ((1 : Int).toNat) ((m 384 1) + 1)) = mu mq12047 := mu_fr ((yup_na (by decide)).trans ((hFq12077 376 1 rfl).trans ((yup_na (by decide)).trans ((yup_nk (by decide)).trans ((hFq12061 376 1 rfl).trans ((yup_na (by decide)).trans ((yup_na (by decide)).trans ((yup_na (by decide)).trans (yup_na (by decide)))))))))) ((yup_na (by decide)).trans ((hFq12077 376 3 rfl).trans ((yup_na (by decide)).trans ((yup_nk (by decide)).trans ((hFq12061 376 3 rfl).trans ((yup_na (by decide)).trans ((yup_na (by decide)).trans ((yup_na (by decide)).trans (yup_na (by decide)))))))))) ((yup_na (by decide)).trans ((hFq12077 376 6 rfl).trans ((yup_na (by decide)).trans ((yup_nk (by decide)).trans ((hFq12061 376 6 rfl).trans ((yup_na (by decide)).trans ((yup_na (by decide)).trans ((yup_na (by decide)).trans (yup_na (by decide))))))))))
            refine y_callIB 176 [.ref 376, yI 40] [] c126_173 rfl rfl rfl rfl rfl (ycanO km118 ko376) (t118 hT12087 (by omega) (by omega)) (fun rq12089 mq12089 nq12089 hq12089 => ?_)
            obtain ⟨rfl, hTq12089, hFq12089, hq12089⟩ := hq12089
            have x1q12089 : mq12089 376 1 = m 376 1 := ((hFq12089 376 1 rfl).trans ((yup_na (by decide)).trans ((hFq12077 376 1 rfl).trans ((yup_na (by decide)).trans ((yup_nk (by decide)).trans ((hFq12061 376 1 rfl).trans ((yup_na (by decide)).trans ((yup_na (by decide)).trans ((yup_na (by decide)).trans ((yup_na (by decide)).trans ((hFq12047 376 1 rfl).trans (hFq11972 376 1 rfl))))))))))))
            have hF12095 := hF12088.tr hFq12089 wNw_wMh1
            refine y_if 180 179 c126_176 rfl rfl (yz_ne (by omega)) (fun hb12096 => ?_) (fun hb12096 => ?_)
            · refine y_aload 181 c126_180 rfl rfl rfl ?_
              have tb12097 := hTq12089.atp 376 3 0 3 rfl
              refine y_callP 184 [.ref 376] [] c126_181 rfl rfl rfl rfl rfl (ycanO km115 ko376) (t115 hTq12089) (fun r12098 hr12098 => ?_)
              refine y_if 193 187 c126_184 rfl rfl (yz_eq (by omega)) (fun hb12099 => ?_) (fun hb12099 => ?_)
              · refine y_aload 194 c126_193 rfl rfl rfl ?_
                refine y_getX 197 (mq12089 376 8) c126_194 rfl kf376_8 rfl ?_
                have tb12100 := hTq12089.atp 376 8 ((-1)) 320 rfl
                refine y_if 209 200 c126_197 rfl rfl (yz_ge (by omega)) (fun hb12101 => ?_) (fun hb12101 => ?_)
                · have es12102 : mq12089 376 1 = m 376 1 := ((hFq12089 376 1 rfl).trans ((yup_na (by decide)).trans ((hFq12077 376 1 rfl).trans ((yup_na (by decide)).trans ((yup_nk (by decide)).trans ((hFq12061 376 1 rfl).trans ((yup_na (by decide)).trans ((yup_na (by decide)).trans ((yup_na (by decide)).trans ((yup_na (by decide)).trans ((hFq12047 376 1 rfl).trans (hFq11972 376 1 rfl))))))))))))
                  have tb12103 := hTq12089.atp 376 6 0 320 rfl
                  have es12104 : mq12089 384 1 = (m 384 1) + 1 := ((hFq12089 384 1 rfl).trans (yup_eq _ _ _ _))
                  have es12105 : mq12089 389 1 = mq12077 389 1 := ((hFq12089 389 1 rfl).trans (yup_na (by decide)))
                  have tb12106 := hTq12077.atp 389 1 0 48 rfl
                  have es12107 : mq12089 376 14 = rq12061 := ((hFq12089 376 14 rfl).trans ((yup_na (by decide)).trans ((hFq12077 376 14 rfl).trans ((yup_na (by decide)).trans (yup_eq _ _ _ _)))))
                  exact y_retU c126_209 ⟨rfl, hTq12089, hF12095, by omega, Or.inl (by omega)⟩
                · refine y_aload 201 c126_200 rfl rfl rfl ?_
                  refine y_iconst 203 c126_201 rfl ?_
                  have es12109 : mq12089 376 1 = m 376 1 := ((hFq12089 376 1 rfl).trans ((yup_na (by decide)).trans ((hFq12077 376 1 rfl).trans ((yup_na (by decide)).trans ((yup_nk (by decide)).trans ((hFq12061 376 1 rfl).trans ((yup_na (by decide)).trans ((yup_na (by decide)).trans ((yup_na (by decide)).trans ((yup_na (by decide)).trans ((hFq12047 376 1 rfl).trans (hFq11972 376 1 rfl))))))))))))
                  have tb12110 := hTq12089.atp 376 6 0 320 rfl
                  refine y_callIB 206 [.ref 376, yI 41] [] c126_203 rfl rfl rfl rfl rfl (ycanO km118 ko376) (t118 hTq12089 (by omega) (by omega)) (fun rq12108 mq12108 nq12108 hq12108 => ?_)
                  obtain ⟨rfl, hTq12108, hFq12108, hq12108⟩ := hq12108
                  have x1q12108 : mq12108 376 1 = m 376 1 := ((hFq12108 376 1 rfl).trans ((hFq12089 376 1 rfl).trans ((yup_na (by decide)).trans ((hFq12077 376 1 rfl).trans ((yup_na (by decide)).trans ((yup_nk (by decide)).trans ((hFq12061 376 1 rfl).trans ((yup_na (by decide)).trans ((yup_na (by decide)).trans ((yup_na (by decide)).trans ((yup_na (by decide)).trans ((hFq12047 376 1 rfl).trans (hFq11972 376 1 rfl)))))))))))))
                  have hF12111 := hF12095.tr hFq12108 wNw_wMh1
                  refine y_if 210 209 c126_206 rfl rfl (yz_ne (by omega)) (fun hb12112 => ?_) (fun hb12112 => ?_)
                  · refine y_aload 211 c126_210 rfl rfl rfl ?_
                    refine y_iconst 213 c126_211 rfl ?_
                    have es12114 : mq12108 376 1 = m 376 1 := ((hFq12108 376 1 rfl).trans ((hFq12089 376 1 rfl).trans ((yup_na (by decide)).trans ((hFq12077 376 1 rfl).trans ((yup_na (by decide)).trans ((yup_nk (by decide)).trans ((hFq12061 376 1 rfl).trans ((yup_na (by decide)).trans ((yup_na (by decide)).trans ((yup_na (by decide)).trans ((yup_na (by decide)).trans ((hFq12047 376 1 rfl).trans (hFq11972 376 1 rfl)))))))))))))
                    have tb12115 := hTq12108.atp 376 3 0 3 rfl
                    have tb12116 := hTq12108.atp 376 6 0 320 rfl
                    have tb12117 := hTq12108.atp 376 8 ((-1)) 320 rfl
                    refine y_callIB 216 [.ref 376, yI 123] [] c126_213 rfl rfl rfl rfl rfl (ycanO km118 ko376) (t118 hTq12108 (by omega) (by omega)) (fun rq12113 mq12113 nq12113 hq12113 => ?_)
                    obtain ⟨rfl, hTq12113, hFq12113, hq12113⟩ := hq12113
                    have x1q12113 : mq12113 376 1 = m 376 1 := ((hFq12113 376 1 rfl).trans ((hFq12108 376 1 rfl).trans ((hFq12089 376 1 rfl).trans ((yup_na (by decide)).trans ((hFq12077 376 1 rfl).trans ((yup_na (by decide)).trans ((yup_nk (by decide)).trans ((hFq12061 376 1 rfl).trans ((yup_na (by decide)).trans ((yup_na (by decide)).trans ((yup_na (by decide)).trans ((yup_na (by decide)).trans ((hFq12047 376 1 rfl).trans (hFq11972 376 1 rfl))))))))))))))
                    have hF12118 := hF12111.tr hFq12113 wNw_wMh1
                    refine y_if 220 219 c126_216 rfl rfl (yz_ne (by omega)) (fun hb12119 => ?_) (fun hb12119 => ?_)
                    · have es12120 : mq12113 376 1 = m 376 1 := ((hFq12113 376 1 rfl).trans ((hFq12108 376 1 rfl).trans ((hFq12089 376 1 rfl).trans ((yup_na (by decide)).trans ((hFq12077 376 1 rfl).trans ((yup_na (by decide)).trans ((yup_nk (by decide)).trans ((hFq12061 376 1 rfl).trans ((yup_na (by decide)).trans ((yup_na (by decide)).trans ((yup_na (by decide)).trans ((yup_na (by decide)).trans ((hFq12047 376 1 rfl).trans (hFq11972 376 1 rfl))))))))))))))
                      have tb12121 := hTq12113.atp 376 3 0 3 rfl
                      have tb12122 := hTq12113.atp 376 6 0 320 rfl
                      have tb12123 := hTq12113.atp 376 8 ((-1)) 320 rfl
                      have es12124 : mq12113 384 1 = (m 384 1) + 1 := ((hFq12113 384 1 rfl).trans ((hFq12108 384 1 rfl).trans ((hFq12089 384 1 rfl).trans (yup_eq _ _ _ _))))
                      have es12125 : mq12113 389 1 = mq12077 389 1 := ((hFq12113 389 1 rfl).trans ((hFq12108 389 1 rfl).trans ((hFq12089 389 1 rfl).trans (yup_na (by decide)))))
                      have tb12126 := hTq12077.atp 389 1 0 48 rfl
                      have es12127 : mq12113 376 14 = rq12061 := ((hFq12113 376 14 rfl).trans ((hFq12108 376 14 rfl).trans ((hFq12089 376 14 rfl).trans ((yup_na (by decide)).trans ((hFq12077 376 14 rfl).trans ((yup_na (by decide)).trans (yup_eq _ _ _ _)))))))
                      have a397 : mq12113 397 (10 * 1 + (m 384 1).toNat) = 0 := by rw [show 10 * 1 + (m 384 1).toNat = (10 + (m 384 1)).toNat by omega]; exact ((hFq12113 397 _ rfl).trans ((hFq12108 397 _ rfl).trans ((hFq12089 397 _ rfl).trans ((yup_na (by decide)).trans ((hFq12077 397 _ rfl).trans ((yup_na (by decide)).trans ((yup_na (by decide)).trans ((hFq12061 397 _ rfl).trans ((yup_na (by decide)).trans (yup_eq _ _ _ _))))))))))
                      have a398 : mq12113 398 (10 * 1 + (m 384 1).toNat) = rq12061 := by rw [show 10 * 1 + (m 384 1).toNat = (10 + (m 384 1)).toNat by omega]; exact ((hFq12113 398 _ rfl).trans ((hFq12108 398 _ rfl).trans ((hFq12089 398 _ rfl).trans ((yup_na (by decide)).trans ((hFq12077 398 _ rfl).trans (yup_eq _ _ _ _))))))
                      have a399 : mq12113 399 (10 * 1 + (m 384 1).toNat) = m 390 1 := by rw [show 10 * 1 + (m 384 1).toNat = (10 + (m 384 1)).toNat by omega]; exact ((hFq12113 399 _ rfl).trans ((hFq12108 399 _ rfl).trans ((hFq12089 399 _ rfl).trans ((yup_na (by decide)).trans ((hFq12077 399 _ rfl).trans ((yup_na (by decide)).trans ((yup_na (by decide)).trans ((hFq12061 399 _ rfl).trans (yup_eq _ _ _ _)))))))))
                      have hx : XD 1 mq12113 := XD.meth hC (by omega) (fun a q ha h1 h2 h3 h4 => hF12118 a q (wMh1_C a q ha h1 h2 h3 h4)) (by omega) (fun k hk => ⟨((hFq12113 397 _ rfl).trans ((hFq12108 397 _ rfl).trans ((hFq12089 397 _ rfl).trans ((yup_na (by decide)).trans ((hFq12077 397 _ rfl).trans ((yup_na (by decide)).trans ((yup_na (by decide)).trans ((hFq12061 397 _ rfl).trans ((yup_na (by decide)).trans ((yup_nk (by omega)).trans ((yup_na (by decide)).trans ((yup_na (by decide)).trans ((hFq12047 397 _ rfl).trans (hFq11972 397 _ rfl)))))))))))))), ((hFq12113 398 _ rfl).trans ((hFq12108 398 _ rfl).trans ((hFq12089 398 _ rfl).trans ((yup_na (by decide)).trans ((hFq12077 398 _ rfl).trans ((yup_nk (by omega)).trans ((yup_na (by decide)).trans ((hFq12061 398 _ rfl).trans ((yup_na (by decide)).trans ((yup_na (by decide)).trans ((yup_na (by decide)).trans ((yup_na (by decide)).trans ((hFq12047 398 _ rfl).trans (hFq11972 398 _ rfl)))))))))))))), ((hFq12113 399 _ rfl).trans ((hFq12108 399 _ rfl).trans ((hFq12089 399 _ rfl).trans ((yup_na (by decide)).trans ((hFq12077 399 _ rfl).trans ((yup_na (by decide)).trans ((yup_na (by decide)).trans ((hFq12061 399 _ rfl).trans ((yup_nk (by omega)).trans ((yup_na (by decide)).trans ((yup_na (by decide)).trans ((yup_na (by decide)).trans ((hFq12047 399 _ rfl).trans (hFq11972 399 _ rfl))))))))))))))⟩) (by omega)
                      exact y_retU c126_220 ⟨rfl, hTq12113, hF12118, by omega, Or.inr ⟨by omega, by omega, by omega, hx⟩⟩
                    · have es12128 : mq12113 376 1 = m 376 1 := ((hFq12113 376 1 rfl).trans ((hFq12108 376 1 rfl).trans ((hFq12089 376 1 rfl).trans ((yup_na (by decide)).trans ((hFq12077 376 1 rfl).trans ((yup_na (by decide)).trans ((yup_nk (by decide)).trans ((hFq12061 376 1 rfl).trans ((yup_na (by decide)).trans ((yup_na (by decide)).trans ((yup_na (by decide)).trans ((yup_na (by decide)).trans ((hFq12047 376 1 rfl).trans (hFq11972 376 1 rfl))))))))))))))
                      have tb12129 := hTq12113.atp 376 3 0 3 rfl
                      have tb12130 := hTq12113.atp 376 6 0 320 rfl
                      have tb12131 := hTq12113.atp 376 8 ((-1)) 320 rfl
                      have es12132 : mq12113 384 1 = (m 384 1) + 1 := ((hFq12113 384 1 rfl).trans ((hFq12108 384 1 rfl).trans ((hFq12089 384 1 rfl).trans (yup_eq _ _ _ _))))
                      have es12133 : mq12113 389 1 = mq12077 389 1 := ((hFq12113 389 1 rfl).trans ((hFq12108 389 1 rfl).trans ((hFq12089 389 1 rfl).trans (yup_na (by decide)))))
                      have tb12134 := hTq12077.atp 389 1 0 48 rfl
                      have es12135 : mq12113 376 14 = rq12061 := ((hFq12113 376 14 rfl).trans ((hFq12108 376 14 rfl).trans ((hFq12089 376 14 rfl).trans ((yup_na (by decide)).trans ((hFq12077 376 14 rfl).trans ((yup_na (by decide)).trans (yup_eq _ _ _ _)))))))
                      exact y_retU c126_219 ⟨rfl, hTq12113, hF12118, by omega, Or.inl (by omega)⟩
                  · have es12136 : mq12108 376 1 = m 376 1 := ((hFq12108 376 1 rfl).trans ((hFq12089 376 1 rfl).trans ((yup_na (by decide)).trans ((hFq12077 376 1 rfl).trans ((yup_na (by decide)).trans ((yup_nk (by decide)).trans ((hFq12061 376 1 rfl).trans ((yup_na (by decide)).trans ((yup_na (by decide)).trans ((yup_na (by decide)).trans ((yup_na (by decide)).trans ((hFq12047 376 1 rfl).trans (hFq11972 376 1 rfl)))))))))))))
                    have tb12137 := hTq12108.atp 376 3 0 3 rfl
                    have tb12138 := hTq12108.atp 376 6 0 320 rfl
                    have tb12139 := hTq12108.atp 376 8 ((-1)) 320 rfl
                    have es12140 : mq12108 384 1 = (m 384 1) + 1 := ((hFq12108 384 1 rfl).trans ((hFq12089 384 1 rfl).trans (yup_eq _ _ _ _)))
                    have es12141 : mq12108 389 1 = mq12077 389 1 := ((hFq12108 389 1 rfl).trans ((hFq12089 389 1 rfl).trans (yup_na (by decide))))
                    have tb12142 := hTq12077.atp 389 1 0 48 rfl
                    have es12143 : mq12108 376 14 = rq12061 := ((hFq12108 376 14 rfl).trans ((hFq12089 376 14 rfl).trans ((yup_na (by decide)).trans ((hFq12077 376 14 rfl).trans ((yup_na (by decide)).trans (yup_eq _ _ _ _))))))
                    exact y_retU c126_209 ⟨rfl, hTq12108, hF12111, by omega, Or.inl (by omega)⟩
              · refine y_aload 188 c126_187 rfl rfl rfl ?_
                refine y_iload 190 c126_188 rfl rfl ?_
                have es12145 : mq12089 376 1 = m 376 1 := ((hFq12089 376 1 rfl).trans ((yup_na (by decide)).trans ((hFq12077 376 1 rfl).trans ((yup_na (by decide)).trans ((yup_nk (by decide)).trans ((hFq12061 376 1 rfl).trans ((yup_na (by decide)).trans ((yup_na (by decide)).trans ((yup_na (by decide)).trans ((yup_na (by decide)).trans ((hFq12047 376 1 rfl).trans (hFq11972 376 1 rfl))))))))))))
                have tb12146 := hTq12089.atp 376 6 0 320 rfl
                have tb12147 := hTq12089.atp 376 8 ((-1)) 320 rfl
                have es12148 : mq12089 389 1 = mq12077 389 1 := ((hFq12089 389 1 rfl).trans (yup_na (by decide)))
                have tb12149 := hTq12077.atp 389 1 0 48 rfl
                have es12150 : mq12089 376 14 = rq12061 := ((hFq12089 376 14 rfl).trans ((yup_na (by decide)).trans ((hFq12077 376 14 rfl).trans ((yup_na (by decide)).trans (yup_eq _ _ _ _)))))
                have es12151 : mq12089 384 1 = (m 384 1) + 1 := ((hFq12089 384 1 rfl).trans (yup_eq _ _ _ _))
                have es12152 : mq12089 376 18 = m 376 18 := ((hFq12089 376 18 rfl).trans ((yup_na (by decide)).trans ((hFq12077 376 18 rfl).trans ((yup_na (by decide)).trans ((yup_nk (by decide)).trans ((hFq12061 376 18 rfl).trans ((yup_na (by decide)).trans ((yup_na (by decide)).trans ((yup_na (by decide)).trans ((yup_na (by decide)).trans ((hFq12047 376 18 rfl).trans (hFq11972 376 18 rfl))))))))))))
                have a398 : mq12089 398 (10 + (m 384 1)).toNat = rq12061 := ((hFq12089 398 _ rfl).trans ((yup_na (by decide)).trans ((hFq12077 398 _ rfl).trans (yup_eq _ _ _ _))))
                have a397 : mq12089 397 (10 + (m 384 1)).toNat = 0 := ((hFq12089 397 _ rfl).trans ((yup_na (by decide)).trans ((hFq12077 397 _ rfl).trans ((yup_na (by decide)).trans ((yup_na (by decide)).trans ((hFq12061 397 _ rfl).trans ((yup_na (by decide)).trans (yup_eq _ _ _ _))))))))
                refine y_callUB 193 [.ref 376, yI (10 + (m 384 1))] [] c126_190 rfl rfl rfl rfl rfl (ycanO km125 ko376) (t125_1 (k := 10 + (m 384 1)) hTq12089 (by omega) (by omega) (by omega) (by omega) (by omega) (by omega)) (fun mq12144 nq12144 hq12144 => ?_)
                obtain ⟨rfl, hTq12144, hFq12144, hlq12144, hq12144, hzq12144⟩ := hq12144
                have x1q12144 : mq12144 376 1 = m 376 1 := ((hFq12144 376 1 rfl).trans ((hFq12089 376 1 rfl).trans ((yup_na (by decide)).trans ((hFq12077 376 1 rfl).trans ((yup_na (by decide)).trans ((yup_nk (by decide)).trans ((hFq12061 376 1 rfl).trans ((yup_na (by decide)).trans ((yup_na (by decide)).trans ((yup_na (by decide)).trans ((yup_na (by decide)).trans ((hFq12047 376 1 rfl).trans (hFq11972 376 1 rfl)))))))))))))
                have hF12153 := hF12095.tr hFq12144 wPz1_wMh1
                refine y_aload 194 c126_193 rfl rfl rfl ?_
                refine y_getX 197 (mq12144 376 8) c126_194 rfl kf376_8 rfl ?_
                have tb12154 := hTq12144.atp 376 8 ((-1)) 320 rfl
                refine y_if 209 200 c126_197 rfl rfl (yz_ge (by omega)) (fun hb12155 => ?_) (fun hb12155 => ?_)
                · have es12156 : mq12144 376 1 = m 376 1 := ((hFq12144 376 1 rfl).trans ((hFq12089 376 1 rfl).trans ((yup_na (by decide)).trans ((hFq12077 376 1 rfl).trans ((yup_na (by decide)).trans ((yup_nk (by decide)).trans ((hFq12061 376 1 rfl).trans ((yup_na (by decide)).trans ((yup_na (by decide)).trans ((yup_na (by decide)).trans ((yup_na (by decide)).trans ((hFq12047 376 1 rfl).trans (hFq11972 376 1 rfl)))))))))))))
                  have tb12157 := hTq12144.atp 376 3 0 3 rfl
                  have tb12158 := hTq12144.atp 376 6 0 320 rfl
                  have es12159 : mq12144 384 1 = (m 384 1) + 1 := ((hFq12144 384 1 rfl).trans ((hFq12089 384 1 rfl).trans (yup_eq _ _ _ _)))
                  have tb12160 := hTq12144.atp 389 1 0 48 rfl
                  have es12161 : mq12144 376 14 = rq12061 := ((hFq12144 376 14 rfl).trans ((hFq12089 376 14 rfl).trans ((yup_na (by decide)).trans ((hFq12077 376 14 rfl).trans ((yup_na (by decide)).trans (yup_eq _ _ _ _))))))
                  exact y_retU c126_209 ⟨rfl, hTq12144, hF12153, by omega, Or.inl (by omega)⟩
                · refine y_aload 201 c126_200 rfl rfl rfl ?_
                  refine y_iconst 203 c126_201 rfl ?_
                  have es12163 : mq12144 376 1 = m 376 1 := ((hFq12144 376 1 rfl).trans ((hFq12089 376 1 rfl).trans ((yup_na (by decide)).trans ((hFq12077 376 1 rfl).trans ((yup_na (by decide)).trans ((yup_nk (by decide)).trans ((hFq12061 376 1 rfl).trans ((yup_na (by decide)).trans ((yup_na (by decide)).trans ((yup_na (by decide)).trans ((yup_na (by decide)).trans ((hFq12047 376 1 rfl).trans (hFq11972 376 1 rfl)))))))))))))
                  have tb12164 := hTq12144.atp 376 3 0 3 rfl
                  have tb12165 := hTq12144.atp 376 6 0 320 rfl
                  refine y_callIB 206 [.ref 376, yI 41] [] c126_203 rfl rfl rfl rfl rfl (ycanO km118 ko376) (t118 hTq12144 (by omega) (by omega)) (fun rq12162 mq12162 nq12162 hq12162 => ?_)
                  obtain ⟨rfl, hTq12162, hFq12162, hq12162⟩ := hq12162
                  have x1q12162 : mq12162 376 1 = m 376 1 := ((hFq12162 376 1 rfl).trans ((hFq12144 376 1 rfl).trans ((hFq12089 376 1 rfl).trans ((yup_na (by decide)).trans ((hFq12077 376 1 rfl).trans ((yup_na (by decide)).trans ((yup_nk (by decide)).trans ((hFq12061 376 1 rfl).trans ((yup_na (by decide)).trans ((yup_na (by decide)).trans ((yup_na (by decide)).trans ((yup_na (by decide)).trans ((hFq12047 376 1 rfl).trans (hFq11972 376 1 rfl))))))))))))))
                  have hF12166 := hF12153.tr hFq12162 wNw_wMh1
                  refine y_if 210 209 c126_206 rfl rfl (yz_ne (by omega)) (fun hb12167 => ?_) (fun hb12167 => ?_)
                  · refine y_aload 211 c126_210 rfl rfl rfl ?_
                    refine y_iconst 213 c126_211 rfl ?_
                    have es12169 : mq12162 376 1 = m 376 1 := ((hFq12162 376 1 rfl).trans ((hFq12144 376 1 rfl).trans ((hFq12089 376 1 rfl).trans ((yup_na (by decide)).trans ((hFq12077 376 1 rfl).trans ((yup_na (by decide)).trans ((yup_nk (by decide)).trans ((hFq12061 376 1 rfl).trans ((yup_na (by decide)).trans ((yup_na (by decide)).trans ((yup_na (by decide)).trans ((yup_na (by decide)).trans ((hFq12047 376 1 rfl).trans (hFq11972 376 1 rfl))))))))))))))
                    have tb12170 := hTq12162.atp 376 3 0 3 rfl
                    have tb12171 := hTq12162.atp 376 6 0 320 rfl
                    have tb12172 := hTq12162.atp 376 8 ((-1)) 320 rfl
                    refine y_callIB 216 [.ref 376, yI 123] [] c126_213 rfl rfl rfl rfl rfl (ycanO km118 ko376) (t118 hTq12162 (by omega) (by omega)) (fun rq12168 mq12168 nq12168 hq12168 => ?_)
                    obtain ⟨rfl, hTq12168, hFq12168, hq12168⟩ := hq12168
                    have x1q12168 : mq12168 376 1 = m 376 1 := ((hFq12168 376 1 rfl).trans ((hFq12162 376 1 rfl).trans ((hFq12144 376 1 rfl).trans ((hFq12089 376 1 rfl).trans ((yup_na (by decide)).trans ((hFq12077 376 1 rfl).trans ((yup_na (by decide)).trans ((yup_nk (by decide)).trans ((hFq12061 376 1 rfl).trans ((yup_na (by decide)).trans ((yup_na (by decide)).trans ((yup_na (by decide)).trans ((yup_na (by decide)).trans ((hFq12047 376 1 rfl).trans (hFq11972 376 1 rfl)))))))))))))))
                    have hF12173 := hF12166.tr hFq12168 wNw_wMh1
                    refine y_if 220 219 c126_216 rfl rfl (yz_ne (by omega)) (fun hb12174 => ?_) (fun hb12174 => ?_)
                    · have es12175 : mq12168 376 1 = m 376 1 := ((hFq12168 376 1 rfl).trans ((hFq12162 376 1 rfl).trans ((hFq12144 376 1 rfl).trans ((hFq12089 376 1 rfl).trans ((yup_na (by decide)).trans ((hFq12077 376 1 rfl).trans ((yup_na (by decide)).trans ((yup_nk (by decide)).trans ((hFq12061 376 1 rfl).trans ((yup_na (by decide)).trans ((yup_na (by decide)).trans ((yup_na (by decide)).trans ((yup_na (by decide)).trans ((hFq12047 376 1 rfl).trans (hFq11972 376 1 rfl)))))))))))))))
                      have tb12176 := hTq12168.atp 376 3 0 3 rfl
                      have tb12177 := hTq12168.atp 376 6 0 320 rfl
                      have tb12178 := hTq12168.atp 376 8 ((-1)) 320 rfl
                      have es12179 : mq12168 384 1 = (m 384 1) + 1 := ((hFq12168 384 1 rfl).trans ((hFq12162 384 1 rfl).trans ((hFq12144 384 1 rfl).trans ((hFq12089 384 1 rfl).trans (yup_eq _ _ _ _)))))
                      have es12180 : mq12168 389 1 = mq12144 389 1 := ((hFq12168 389 1 rfl).trans (hFq12162 389 1 rfl))
                      have tb12181 := hTq12144.atp 389 1 0 48 rfl
                      have es12182 : mq12168 376 14 = rq12061 := ((hFq12168 376 14 rfl).trans ((hFq12162 376 14 rfl).trans ((hFq12144 376 14 rfl).trans ((hFq12089 376 14 rfl).trans ((yup_na (by decide)).trans ((hFq12077 376 14 rfl).trans ((yup_na (by decide)).trans (yup_eq _ _ _ _))))))))
                      have a397 : mq12168 397 (10 * 1 + (m 384 1).toNat) = mq12144 397 (10 + (m 384 1)).toNat := by rw [show 10 * 1 + (m 384 1).toNat = (10 + (m 384 1)).toNat by omega]; exact ((hFq12168 397 _ rfl).trans (hFq12162 397 _ rfl))
                      have a398 : mq12168 398 (10 * 1 + (m 384 1).toNat) = rq12061 := by rw [show 10 * 1 + (m 384 1).toNat = (10 + (m 384 1)).toNat by omega]; exact ((hFq12168 398 _ rfl).trans ((hFq12162 398 _ rfl).trans ((hFq12144 398 _ rfl).trans ((hFq12089 398 _ rfl).trans ((yup_na (by decide)).trans ((hFq12077 398 _ rfl).trans (yup_eq _ _ _ _)))))))
                      have a399 : mq12168 399 (10 * 1 + (m 384 1).toNat) = m 390 1 := by rw [show 10 * 1 + (m 384 1).toNat = (10 + (m 384 1)).toNat by omega]; exact ((hFq12168 399 _ rfl).trans ((hFq12162 399 _ rfl).trans ((hFq12144 399 _ rfl).trans ((hFq12089 399 _ rfl).trans ((yup_na (by decide)).trans ((hFq12077 399 _ rfl).trans ((yup_na (by decide)).trans ((yup_na (by decide)).trans ((hFq12061 399 _ rfl).trans (yup_eq _ _ _ _))))))))))
                      have hx : XD 1 mq12168 := XD.meth hC (by omega) (fun a q ha h1 h2 h3 h4 => hF12173 a q (wMh1_C a q ha h1 h2 h3 h4)) (by omega) (fun k hk => ⟨((hFq12168 397 _ rfl).trans ((hFq12162 397 _ rfl).trans ((hzq12144 _ (by omega)).trans ((hFq12089 397 _ rfl).trans ((yup_na (by decide)).trans ((hFq12077 397 _ rfl).trans ((yup_na (by decide)).trans ((yup_na (by decide)).trans ((hFq12061 397 _ rfl).trans ((yup_na (by decide)).trans ((yup_nk (by omega)).trans ((yup_na (by decide)).trans ((yup_na (by decide)).trans ((hFq12047 397 _ rfl).trans (hFq11972 397 _ rfl))))))))))))))), ((hFq12168 398 _ rfl).trans ((hFq12162 398 _ rfl).trans ((hFq12144 398 _ rfl).trans ((hFq12089 398 _ rfl).trans ((yup_na (by decide)).trans ((hFq12077 398 _ rfl).trans ((yup_nk (by omega)).trans ((yup_na (by decide)).trans ((hFq12061 398 _ rfl).trans ((yup_na (by decide)).trans ((yup_na (by decide)).trans ((yup_na (by decide)).trans ((yup_na (by decide)).trans ((hFq12047 398 _ rfl).trans (hFq11972 398 _ rfl))))))))))))))), ((hFq12168 399 _ rfl).trans ((hFq12162 399 _ rfl).trans ((hFq12144 399 _ rfl).trans ((hFq12089 399 _ rfl).trans ((yup_na (by decide)).trans ((hFq12077 399 _ rfl).trans ((yup_na (by decide)).trans ((yup_na (by decide)).trans ((hFq12061 399 _ rfl).trans ((yup_nk (by omega)).trans ((yup_na (by decide)).trans ((yup_na (by decide)).trans ((yup_na (by decide)).trans ((hFq12047 399 _ rfl).trans (hFq11972 399 _ rfl)))))))))))))))⟩) (by omega)
                      exact y_retU c126_220 ⟨rfl, hTq12168, hF12173, by omega, Or.inr ⟨by omega, by omega, by omega, hx⟩⟩
                    · have es12183 : mq12168 376 1 = m 376 1 := ((hFq12168 376 1 rfl).trans ((hFq12162 376 1 rfl).trans ((hFq12144 376 1 rfl).trans ((hFq12089 376 1 rfl).trans ((yup_na (by decide)).trans ((hFq12077 376 1 rfl).trans ((yup_na (by decide)).trans ((yup_nk (by decide)).trans ((hFq12061 376 1 rfl).trans ((yup_na (by decide)).trans ((yup_na (by decide)).trans ((yup_na (by decide)).trans ((yup_na (by decide)).trans ((hFq12047 376 1 rfl).trans (hFq11972 376 1 rfl)))))))))))))))
                      have tb12184 := hTq12168.atp 376 3 0 3 rfl
                      have tb12185 := hTq12168.atp 376 6 0 320 rfl
                      have tb12186 := hTq12168.atp 376 8 ((-1)) 320 rfl
                      have es12187 : mq12168 384 1 = (m 384 1) + 1 := ((hFq12168 384 1 rfl).trans ((hFq12162 384 1 rfl).trans ((hFq12144 384 1 rfl).trans ((hFq12089 384 1 rfl).trans (yup_eq _ _ _ _)))))
                      have es12188 : mq12168 389 1 = mq12144 389 1 := ((hFq12168 389 1 rfl).trans (hFq12162 389 1 rfl))
                      have tb12189 := hTq12144.atp 389 1 0 48 rfl
                      have es12190 : mq12168 376 14 = rq12061 := ((hFq12168 376 14 rfl).trans ((hFq12162 376 14 rfl).trans ((hFq12144 376 14 rfl).trans ((hFq12089 376 14 rfl).trans ((yup_na (by decide)).trans ((hFq12077 376 14 rfl).trans ((yup_na (by decide)).trans (yup_eq _ _ _ _))))))))
                      exact y_retU c126_219 ⟨rfl, hTq12168, hF12173, by omega, Or.inl (by omega)⟩
                  · have es12191 : mq12162 376 1 = m 376 1 := ((hFq12162 376 1 rfl).trans ((hFq12144 376 1 rfl).trans ((hFq12089 376 1 rfl).trans ((yup_na (by decide)).trans ((hFq12077 376 1 rfl).trans ((yup_na (by decide)).trans ((yup_nk (by decide)).trans ((hFq12061 376 1 rfl).trans ((yup_na (by decide)).trans ((yup_na (by decide)).trans ((yup_na (by decide)).trans ((yup_na (by decide)).trans ((hFq12047 376 1 rfl).trans (hFq11972 376 1 rfl))))))))))))))
                    have tb12192 := hTq12162.atp 376 3 0 3 rfl
                    have tb12193 := hTq12162.atp 376 6 0 320 rfl
                    have tb12194 := hTq12162.atp 376 8 ((-1)) 320 rfl
                    have es12195 : mq12162 384 1 = (m 384 1) + 1 := ((hFq12162 384 1 rfl).trans ((hFq12144 384 1 rfl).trans ((hFq12089 384 1 rfl).trans (yup_eq _ _ _ _))))
                    have es12196 : mq12162 389 1 = mq12144 389 1 := (hFq12162 389 1 rfl)
                    have tb12197 := hTq12144.atp 389 1 0 48 rfl
                    have es12198 : mq12162 376 14 = rq12061 := ((hFq12162 376 14 rfl).trans ((hFq12144 376 14 rfl).trans ((hFq12089 376 14 rfl).trans ((yup_na (by decide)).trans ((hFq12077 376 14 rfl).trans ((yup_na (by decide)).trans (yup_eq _ _ _ _)))))))
                    exact y_retU c126_209 ⟨rfl, hTq12162, hF12166, by omega, Or.inl (by omega)⟩
            · have es12199 : mq12089 376 1 = m 376 1 := ((hFq12089 376 1 rfl).trans ((yup_na (by decide)).trans ((hFq12077 376 1 rfl).trans ((yup_na (by decide)).trans ((yup_nk (by decide)).trans ((hFq12061 376 1 rfl).trans ((yup_na (by decide)).trans ((yup_na (by decide)).trans ((yup_na (by decide)).trans ((yup_na (by decide)).trans ((hFq12047 376 1 rfl).trans (hFq11972 376 1 rfl))))))))))))
              have tb12200 := hTq12089.atp 376 3 0 3 rfl
              have tb12201 := hTq12089.atp 376 6 0 320 rfl
              have tb12202 := hTq12089.atp 376 8 ((-1)) 320 rfl
              have es12203 : mq12089 384 1 = (m 384 1) + 1 := ((hFq12089 384 1 rfl).trans (yup_eq _ _ _ _))
              have es12204 : mq12089 389 1 = mq12077 389 1 := ((hFq12089 389 1 rfl).trans (yup_na (by decide)))
              have tb12205 := hTq12077.atp 389 1 0 48 rfl
              have es12206 : mq12089 376 14 = rq12061 := ((hFq12089 376 14 rfl).trans ((yup_na (by decide)).trans ((hFq12077 376 14 rfl).trans ((yup_na (by decide)).trans (yup_eq _ _ _ _)))))
              exact y_retU c126_179 ⟨rfl, hTq12089, hF12095, by omega, Or.inl (by omega)⟩
          · have es12207 : mq12047 376 1 = m 376 1 := ((hFq12047 376 1 rfl).trans (hFq11972 376 1 rfl))
            have tb12208 := hTq12047.atp 376 3 0 3 rfl
            have tb12209 := hTq12047.atp 376 6 0 320 rfl
            have tb12210 := hTq12047.atp 376 8 ((-1)) 320 rfl
            have es12211 : mq12047 384 1 = m 384 1 := ((hFq12047 384 1 rfl).trans (hFq11972 384 1 rfl))
            have es12212 : mq12047 389 1 = m 389 1 := ((hFq12047 389 1 rfl).trans (hFq11972 389 1 rfl))
            have es12213 : mq12047 376 14 = m 376 14 := ((hFq12047 376 14 rfl).trans (hFq11972 376 14 rfl))
            have tb12214 := hT.atp 376 14 0 46 rfl
            exact y_retU c126_81 ⟨rfl, hTq12047, hF12051, by omega, Or.inl (by omega)⟩
end
