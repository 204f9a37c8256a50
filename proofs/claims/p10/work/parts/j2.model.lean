/-! CONTRACTS: the model, heads. Printed by wip/whole/gen9a.py -/
set_option maxRecDepth 100000 in
theorem t125a_0 {L : Nat} {xs : Nat → Int32} {d nn : Nat} {m : yM} {k : Int} (hT : Ty gT m) (hl : m 376 6 ≤ m 376 1) (hn : m 376 18 = 1) (hk : 0 ≤ k ∧ k < 10) (h8 : m 376 8 < 0) : ∀ (km : Nat) (g : Int) (y4 : Option Value) (y5 : Option Value) (y6 : Option Value) (mi : yM), 3 - mi 397 k.toNat = km → (g = 0 ∨ g = 1) ∧ (g = 1 → mi 397 k.toNat ≤ 1) → Ty gT mi → Fr wPz0 m mi → mi 376 6 ≤ mi 376 1 → mi 376 8 < 0 → mu mi ≤ mu m → m 398 k.toNat + 2 + mi 397 k.toNat = mi 389 0 ∧ m 376 14 = m 398 k.toNat → (∀ q, q ≠ k.toNat → mi 397 q = m 397 q) → YW (gZ L xs) 125 (d + 5) 7 [some (.ref 376), some (yI k), some (yI 0), some (yI g), y4, y5, y6] [] mi nn (qU (fun m' n' => n' = nn ∧ Ty gT m' ∧ Fr wPz0 m m' ∧ m' 376 6 ≤ m' 376 1 ∧ (m 398 k.toNat + 2 + m' 397 k.toNat ≤ 48 ∧ (0 ≤ m' 376 8 ∨ (m' 376 8 < 0 ∧ mu m' ≤ mu m))) ∧ ∀ q, q ≠ k.toNat → m' 397 q = m 397 q)) := by
  intro km
  induction km using Nat.strongRecOn with
  | ind km ih =>
    intro g y4 y5 y6 mi hk hg hTi hFi hli h8i hmu hI hz
    have tc := hTi.atp 389 0 0 48 rfl
    have t97 := hTi.atp 397 k.toNat 0 2 rfl
    have t14 := hTi.atp 376 14 0 46 rfl
    have e14 : mi 376 14 = m 376 14 := hFi 376 14 rfl
    have e18 : mi 376 18 = m 376 18 := hFi 376 18 rfl
    have em1 : mi 376 1 = m 376 1 := hFi 376 1 rfl
    refine y_iload 8 c125_7 rfl rfl ?_
    refine y_if 133 11 c125_8 rfl rfl (yz_eq (by omega)) (fun hb10860 => ?_) (fun hb10860 => ?_)
    · have es10861 : mi 376 1 = m 376 1 := (hFi 376 1 rfl)
      have tb10862 := hT.atp 376 1 0 320 rfl
      have tb10863 := hTi.atp 376 3 0 3 rfl
      have tb10864 := hTi.atp 376 6 0 320 rfl
      have tb10865 := hTi.atp 376 8 ((-1)) 320 rfl
      exact y_retU c125_133 ⟨rfl, hTi, hFi, by omega, by omega, fun q hq => (hz q hq)⟩
    · refine y_aload 12 c125_11 rfl rfl rfl ?_
      have tb10866 := hTi.atp 376 3 0 3 rfl
      refine y_callP 15 [.ref 376] [] c125_12 rfl rfl rfl rfl rfl (ycanO km115 ko376) (t115 hTi) (fun r10867 hr10867 => ?_)
      refine y_if 60 18 c125_15 rfl rfl (yz_eq (by omega)) (fun hb10868 => ?_) (fun hb10868 => ?_)
      · refine y_iconst 61 c125_60 rfl ?_
        refine y_istore 63 c125_61 rfl rfl ?_
        refine y_aload 64 c125_63 rfl rfl rfl ?_
        refine y_getX 67 (mi 376 4) c125_64 rfl kf376_4 rfl ?_
        have tb10869 := hTi.atp 376 4 ((-2147483648)) 2147483647 rfl
        refine y_istore 69 c125_67 rfl rfl ?_
        refine y_aload 70 c125_69 rfl rfl rfl ?_
        refine y_iload 72 c125_70 rfl rfl ?_
        have es10871 : mi 376 1 = m 376 1 := (hFi 376 1 rfl)
        have tb10872 := hT.atp 376 1 0 320 rfl
        have tb10873 := hTi.atp 376 6 0 320 rfl
        have tb10874 := hTi.atp 376 8 ((-1)) 320 rfl
        refine y_callIB 75 [.ref 376, yI 0] [] c125_72 rfl rfl rfl rfl rfl (ycanO km105 ko376) (t105 (g := 0) hTi (by omega) (by omega)) (fun rq10870 mq10870 nq10870 hq10870 => ?_)
        obtain ⟨rfl, hTq10870, hFq10870, hq10870⟩ := hq10870
        have x1q10870 : mq10870 376 1 = m 376 1 := ((hFq10870 376 1 rfl).trans (hFi 376 1 rfl))
        have hF10875 := hFi.tr hFq10870 wNw_wPz0
        refine y_if 79 78 c125_75 rfl rfl (yz_ne (by omega)) (fun hb10876 => ?_) (fun hb10876 => ?_)
        · exfalso; omega
        · have es10877 : mq10870 376 1 = m 376 1 := ((hFq10870 376 1 rfl).trans (hFi 376 1 rfl))
          have tb10878 := hTq10870.atp 376 3 0 3 rfl
          have tb10879 := hTq10870.atp 376 6 0 320 rfl
          have tb10880 := hTq10870.atp 376 8 ((-1)) 320 rfl
          have es10881 : mq10870 389 0 = mi 389 0 := (hFq10870 389 0 rfl)
          have e9710882 : mq10870 397 k.toNat = mi 397 k.toNat := (hFq10870 397 _ rfl)
          exact y_retU c125_78 ⟨rfl, hTq10870, hF10875, by omega, by omega, fun q hq => ((hFq10870 397 q rfl).trans (hz q hq))⟩
      · refine y_aload 19 c125_18 rfl rfl rfl ?_
        refine y_getR 22 c125_19 rfl kf376_26 ?_
        refine y_iload 23 c125_22 rfl rfl ?_
        refine y_iaX 24 (mi 389 0) c125_23 rfl ka389 (by decide) rfl ?_
        refine y_iconst 26 c125_24 rfl ?_
        refine y_icmp 60 29 c125_26 rfl rfl (yc_ge (by omega) (by omega)) (fun hb10883 => ?_) (fun hb10883 => ?_)
        · refine y_iconst 61 c125_60 rfl ?_
          refine y_istore 63 c125_61 rfl rfl ?_
          refine y_aload 64 c125_63 rfl rfl rfl ?_
          refine y_getX 67 (mi 376 4) c125_64 rfl kf376_4 rfl ?_
          have tb10884 := hTi.atp 376 4 ((-2147483648)) 2147483647 rfl
          refine y_istore 69 c125_67 rfl rfl ?_
          refine y_aload 70 c125_69 rfl rfl rfl ?_
          refine y_iload 72 c125_70 rfl rfl ?_
          have es10886 : mi 376 1 = m 376 1 := (hFi 376 1 rfl)
          have tb10887 := hT.atp 376 1 0 320 rfl
          have tb10888 := hTi.atp 376 6 0 320 rfl
          have tb10889 := hTi.atp 376 8 ((-1)) 320 rfl
          refine y_callIB 75 [.ref 376, yI 0] [] c125_72 rfl rfl rfl rfl rfl (ycanO km105 ko376) (t105 (g := 0) hTi (by omega) (by omega)) (fun rq10885 mq10885 nq10885 hq10885 => ?_)
          obtain ⟨rfl, hTq10885, hFq10885, hq10885⟩ := hq10885
          have x1q10885 : mq10885 376 1 = m 376 1 := ((hFq10885 376 1 rfl).trans (hFi 376 1 rfl))
          have hF10890 := hFi.tr hFq10885 wNw_wPz0
          refine y_if 79 78 c125_75 rfl rfl (yz_ne (by omega)) (fun hb10891 => ?_) (fun hb10891 => ?_)
          · exfalso; omega
          · have es10892 : mq10885 376 1 = m 376 1 := ((hFq10885 376 1 rfl).trans (hFi 376 1 rfl))
            have tb10893 := hTq10885.atp 376 3 0 3 rfl
            have tb10894 := hTq10885.atp 376 6 0 320 rfl
            have tb10895 := hTq10885.atp 376 8 ((-1)) 320 rfl
            have es10896 : mq10885 389 0 = mi 389 0 := (hFq10885 389 0 rfl)
            have e9710897 : mq10885 397 k.toNat = mi 397 k.toNat := (hFq10885 397 _ rfl)
            exact y_retU c125_78 ⟨rfl, hTq10885, hF10890, by omega, by omega, fun q hq => ((hFq10885 397 q rfl).trans (hz q hq))⟩
        · refine y_aload 30 c125_29 rfl rfl rfl ?_
          refine y_getR 33 c125_30 rfl kf376_34 ?_
          refine y_iload 34 c125_33 rfl rfl ?_
          refine y_iaT 35 0 2 c125_34 rfl ka397 (by omega) hTi rfl (fun v10898 hv10898 gv10898 => ?_)
          have w9710899 : v10898 = mi 397 k.toNat := hv10898.symm.trans rfl
          refine y_if 56 38 c125_35 rfl rfl (yz_eq (by omega)) (fun hb10900 => ?_) (fun hb10900 => ?_)
          · refine y_iconst 57 c125_56 rfl ?_
            refine y_goto 61 c125_57 rfl ?_
            refine y_istore 63 c125_61 rfl rfl ?_
            refine y_aload 64 c125_63 rfl rfl rfl ?_
            refine y_getX 67 (mi 376 4) c125_64 rfl kf376_4 rfl ?_
            have tb10901 := hTi.atp 376 4 ((-2147483648)) 2147483647 rfl
            refine y_istore 69 c125_67 rfl rfl ?_
            refine y_aload 70 c125_69 rfl rfl rfl ?_
            refine y_iload 72 c125_70 rfl rfl ?_
            have es10903 : mi 376 1 = m 376 1 := (hFi 376 1 rfl)
            have tb10904 := hT.atp 376 1 0 320 rfl
            have tb10905 := hTi.atp 376 6 0 320 rfl
            have tb10906 := hTi.atp 376 8 ((-1)) 320 rfl
            refine y_callIB 75 [.ref 376, yI 1] [] c125_72 rfl rfl rfl rfl rfl (ycanO km105 ko376) (t105 (g := 1) hTi (by omega) (by omega)) (fun rq10902 mq10902 nq10902 hq10902 => ?_)
            obtain ⟨rfl, hTq10902, hFq10902, hq10902⟩ := hq10902
            have x1q10902 : mq10902 376 1 = m 376 1 := ((hFq10902 376 1 rfl).trans (hFi 376 1 rfl))
            have hF10907 := hFi.tr hFq10902 wNw_wPz0
            refine y_if 79 78 c125_75 rfl rfl (yz_ne (by omega)) (fun hb10908 => ?_) (fun hb10908 => ?_)
            · refine y_aload 80 c125_79 rfl rfl rfl ?_
              refine y_iload 82 c125_80 rfl rfl ?_
              have es10910 : mq10902 376 1 = m 376 1 := ((hFq10902 376 1 rfl).trans (hFi 376 1 rfl))
              have tb10911 := hTq10902.atp 376 3 0 3 rfl
              have tb10912 := hTq10902.atp 376 6 0 320 rfl
              have tb10913 := hTq10902.atp 376 8 ((-1)) 320 rfl
              have es10914 : mq10902 376 18 = m 376 18 := ((hFq10902 376 18 rfl).trans (hFi 376 18 rfl))
              have tb10915 := hT.atp 376 18 0 1 rfl
              have es10916 : mq10902 389 0 = mi 389 0 := (hFq10902 389 0 rfl)
              refine y_callIB 85 [.ref 376, yI (mi 376 4)] [] c125_82 rfl rfl rfl rfl rfl (ycanO km124 ko376) (t124_0 hTq10902 (by omega) (by omega) (by omega)) (fun rq10909 mq10909 nq10909 hq10909 => ?_)
              obtain ⟨rfl, hTq10909, hFq10909, hq10909⟩ := hq10909
              have x1q10909 : mq10909 376 1 = m 376 1 := ((hFq10909 376 1 rfl).trans ((hFq10902 376 1 rfl).trans (hFi 376 1 rfl)))
              have hF10917 := hF10907.tr hFq10909 wVp0_wPz0
              refine y_istore 87 c125_85 rfl rfl ?_
              refine y_aload 88 c125_87 rfl rfl rfl ?_
              refine y_getR 91 c125_88 rfl kf376_34 ?_
              refine y_iload 92 c125_91 rfl rfl ?_
              refine y_dup2 93 c125_92 rfl ⟨rfl, rfl⟩ ?_
              refine y_iaT 94 0 2 c125_93 rfl ka397 (by omega) hTq10909 rfl (fun v10918 hv10918 gv10918 => ?_)
              have w9710919 : v10918 = mi 397 k.toNat := hv10918.symm.trans ((hFq10909 397 _ rfl).trans (hFq10902 397 _ rfl))
              refine y_iconst 95 c125_94 rfl ?_
              refine y_iadd 96 c125_95 rfl ?_
              refine y_iastore 97 c125_96 rfl ka397 (by omega) (y_nar0 _) ?_
              have hT10920 := hTq10909.up 397 k.toNat (v10918 + 1) 0 2 rfl (by omega)
              have hF10921 := hF10917.up 397 k.toNat (v10918 + 1) (wPz0_397 (by omega))
              refine y_aload 98 c125_97 rfl rfl rfl ?_
              refine y_getR 101 c125_98 rfl kf376_34 ?_
              refine y_iload 102 c125_101 rfl rfl ?_
              refine y_iaT 103 0 2 c125_102 rfl ka397 (by omega) hT10920 rfl (fun v10922 hv10922 gv10922 => ?_)
              have w9710923 : v10922 = v10918 + 1 := hv10922.symm.trans (yup_eq _ _ _ _)
              refine y_iconst 104 c125_103 rfl ?_
              refine y_icmp 120 107 c125_104 rfl rfl (yc_ne (by omega) (by omega)) (fun hb10924 => ?_) (fun hb10924 => ?_)
              · refine y_iconst 121 c125_120 rfl ?_
                refine y_istore 122 c125_121 rfl rfl ?_
                refine y_iload 123 c125_122 rfl rfl ?_
                refine y_if 130 126 c125_123 rfl rfl (yz_eq (by omega)) (fun hb10925 => ?_) (fun hb10925 => ?_)
                · refine y_goto 7 c125_130 rfl ?_
                  have es10926 : (yup mq10909 397 k.toNat (v10918 + 1)) 376 1 = m 376 1 := ((yup_na (by decide)).trans ((hFq10909 376 1 rfl).trans ((hFq10902 376 1 rfl).trans (hFi 376 1 rfl))))
                  have es10927 : (yup mq10909 397 k.toNat (v10918 + 1)) 376 3 = mq10902 376 3 := ((yup_na (by decide)).trans (hFq10909 376 3 rfl))
                  have es10928 : (yup mq10909 397 k.toNat (v10918 + 1)) 376 6 = mq10902 376 6 := ((yup_na (by decide)).trans (hFq10909 376 6 rfl))
                  have es10929 : (yup mq10909 397 k.toNat (v10918 + 1)) 376 8 = mq10902 376 8 := ((yup_na (by decide)).trans (hFq10909 376 8 rfl))
                  have es10930 : (yup mq10909 397 k.toNat (v10918 + 1)) 389 0 = mq10909 389 0 := rfl
                  have tb10931 := hTq10909.atp 389 0 0 48 rfl
                  have em10932 : mu (yup mq10909 397 k.toNat (v10918 + 1)) = mu mq10902 := mu_fr ((yup_na (by decide)).trans (hFq10909 376 1 rfl)) ((yup_na (by decide)).trans (hFq10909 376 3 rfl)) ((yup_na (by decide)).trans (hFq10909 376 6 rfl))
                  have e9710933 : (yup mq10909 397 k.toNat (v10918 + 1)) 397 k.toNat = v10918 + 1 := (yup_eq _ _ _ _)
                  exact ih (3 - (yup mq10909 397 k.toNat (v10918 + 1)) 397 k.toNat).toNat (by omega) 0 _ _ _ _ (by omega) (by omega) hT10920 hF10921 (by omega) (by omega) (by omega) (by omega) (fun q hq => ((yup_nk hq).trans ((hFq10909 397 q rfl).trans ((hFq10902 397 q rfl).trans (hz q hq)))))
                · exfalso; omega
              · refine y_aload 108 c125_107 rfl rfl rfl ?_
                refine y_iconst 110 c125_108 rfl ?_
                have es10934 : (yup mq10909 397 k.toNat (v10918 + 1)) 376 3 = mq10902 376 3 := ((yup_na (by decide)).trans (hFq10909 376 3 rfl))
                refine y_callP 113 [.ref 376, yI 44] [] c125_110 rfl rfl rfl rfl rfl (ycanO km117 ko376) (t117 hT10920 (by omega)) (fun r10935 hr10935 => ?_)
                refine y_if 120 116 c125_113 rfl rfl (yz_eq (by omega)) (fun hb10936 => ?_) (fun hb10936 => ?_)
                · refine y_iconst 121 c125_120 rfl ?_
                  refine y_istore 122 c125_121 rfl rfl ?_
                  refine y_iload 123 c125_122 rfl rfl ?_
                  refine y_if 130 126 c125_123 rfl rfl (yz_eq (by omega)) (fun hb10937 => ?_) (fun hb10937 => ?_)
                  · refine y_goto 7 c125_130 rfl ?_
                    have es10938 : (yup mq10909 397 k.toNat (v10918 + 1)) 376 1 = m 376 1 := ((yup_na (by decide)).trans ((hFq10909 376 1 rfl).trans ((hFq10902 376 1 rfl).trans (hFi 376 1 rfl))))
                    have es10939 : (yup mq10909 397 k.toNat (v10918 + 1)) 376 3 = mq10902 376 3 := ((yup_na (by decide)).trans (hFq10909 376 3 rfl))
                    have es10940 : (yup mq10909 397 k.toNat (v10918 + 1)) 376 6 = mq10902 376 6 := ((yup_na (by decide)).trans (hFq10909 376 6 rfl))
                    have es10941 : (yup mq10909 397 k.toNat (v10918 + 1)) 376 8 = mq10902 376 8 := ((yup_na (by decide)).trans (hFq10909 376 8 rfl))
                    have es10942 : (yup mq10909 397 k.toNat (v10918 + 1)) 389 0 = mq10909 389 0 := rfl
                    have tb10943 := hTq10909.atp 389 0 0 48 rfl
                    have em10944 : mu (yup mq10909 397 k.toNat (v10918 + 1)) = mu mq10902 := mu_fr ((yup_na (by decide)).trans (hFq10909 376 1 rfl)) ((yup_na (by decide)).trans (hFq10909 376 3 rfl)) ((yup_na (by decide)).trans (hFq10909 376 6 rfl))
                    have e9710945 : (yup mq10909 397 k.toNat (v10918 + 1)) 397 k.toNat = v10918 + 1 := (yup_eq _ _ _ _)
                    exact ih (3 - (yup mq10909 397 k.toNat (v10918 + 1)) 397 k.toNat).toNat (by omega) 0 _ _ _ _ (by omega) (by omega) hT10920 hF10921 (by omega) (by omega) (by omega) (by omega) (fun q hq => ((yup_nk hq).trans ((hFq10909 397 q rfl).trans ((hFq10902 397 q rfl).trans (hz q hq)))))
                  · exfalso; omega
                · refine y_iconst 117 c125_116 rfl ?_
                  refine y_goto 121 c125_117 rfl ?_
                  refine y_istore 122 c125_121 rfl rfl ?_
                  refine y_iload 123 c125_122 rfl rfl ?_
                  refine y_if 130 126 c125_123 rfl rfl (yz_eq (by omega)) (fun hb10946 => ?_) (fun hb10946 => ?_)
                  · exfalso; omega
                  · refine y_aload 127 c125_126 rfl rfl rfl ?_
                    have es10948 : (yup mq10909 397 k.toNat (v10918 + 1)) 376 1 = m 376 1 := ((yup_na (by decide)).trans ((hFq10909 376 1 rfl).trans ((hFq10902 376 1 rfl).trans (hFi 376 1 rfl))))
                    have es10949 : (yup mq10909 397 k.toNat (v10918 + 1)) 376 3 = mq10902 376 3 := ((yup_na (by decide)).trans (hFq10909 376 3 rfl))
                    have es10950 : (yup mq10909 397 k.toNat (v10918 + 1)) 376 6 = mq10902 376 6 := ((yup_na (by decide)).trans (hFq10909 376 6 rfl))
                    have es10951 : (yup mq10909 397 k.toNat (v10918 + 1)) 376 8 = mq10902 376 8 := ((yup_na (by decide)).trans (hFq10909 376 8 rfl))
                    have em10952 : mu (yup mq10909 397 k.toNat (v10918 + 1)) = mu mq10902 := mu_fr ((yup_na (by decide)).trans (hFq10909 376 1 rfl)) ((yup_na (by decide)).trans (hFq10909 376 3 rfl)) ((yup_na (by decide)).trans (hFq10909 376 6 rfl))
                    refine y_callUB 130 [.ref 376] [] c125_127 rfl rfl rfl rfl rfl (ycanO km99 ko376) (t99u hT10920 (by omega)) (fun mq10947 nq10947 hq10947 => ?_)
                    obtain ⟨rfl, hTq10947, hFq10947, hq10947⟩ := hq10947
                    have x1q10947 : mq10947 376 1 = m 376 1 := ((hFq10947 376 1 rfl).trans ((yup_na (by decide)).trans ((hFq10909 376 1 rfl).trans ((hFq10902 376 1 rfl).trans (hFi 376 1 rfl)))))
                    have hF10953 := hF10921.tr hFq10947 wNx_wPz0
                    refine y_goto 7 c125_130 rfl ?_
                    have es10954 : mq10947 376 1 = m 376 1 := ((hFq10947 376 1 rfl).trans ((yup_na (by decide)).trans ((hFq10909 376 1 rfl).trans ((hFq10902 376 1 rfl).trans (hFi 376 1 rfl)))))
                    have tb10955 := hTq10947.atp 376 3 0 3 rfl
                    have tb10956 := hTq10947.atp 376 6 0 320 rfl
                    have es10957 : mq10947 376 8 = mq10902 376 8 := ((hFq10947 376 8 rfl).trans ((yup_na (by decide)).trans (hFq10909 376 8 rfl)))
                    have es10958 : mq10947 389 0 = mq10909 389 0 := ((hFq10947 389 0 rfl).trans (yup_na (by decide)))
                    have tb10959 := hTq10909.atp 389 0 0 48 rfl
                    have e9710960 : mq10947 397 k.toNat = v10918 + 1 := ((hFq10947 397 _ rfl).trans (yup_eq _ _ _ _))
                    exact ih (3 - mq10947 397 k.toNat).toNat (by omega) 1 _ _ _ _ (by omega) (by omega) hTq10947 hF10953 (by omega) (by omega) (by omega) (by omega) (fun q hq => ((hFq10947 397 q rfl).trans ((yup_nk hq).trans ((hFq10909 397 q rfl).trans ((hFq10902 397 q rfl).trans (hz q hq))))))
            · have es10961 : mq10902 376 1 = m 376 1 := ((hFq10902 376 1 rfl).trans (hFi 376 1 rfl))
              have tb10962 := hTq10902.atp 376 3 0 3 rfl
              have tb10963 := hTq10902.atp 376 6 0 320 rfl
              have tb10964 := hTq10902.atp 376 8 ((-1)) 320 rfl
              have es10965 : mq10902 389 0 = mi 389 0 := (hFq10902 389 0 rfl)
              have e9710966 : mq10902 397 k.toNat = mi 397 k.toNat := (hFq10902 397 _ rfl)
              exact y_retU c125_78 ⟨rfl, hTq10902, hF10907, by omega, by omega, fun q hq => ((hFq10902 397 q rfl).trans (hz q hq))⟩
          · refine y_aload 39 c125_38 rfl rfl rfl ?_
            refine y_getR 42 c125_39 rfl kf376_13 ?_
            refine y_aload 43 c125_42 rfl rfl rfl ?_
            refine y_getX 46 (m 376 14) c125_43 rfl kf376_14 (hFi 376 14 rfl) ?_
            have tb10967 := hT.atp 376 14 0 46 rfl
            refine y_iconst 47 c125_46 rfl ?_
            refine y_iadd 48 c125_47 rfl ?_
            refine y_iaT 49 ((-2147483648)) 2147483647 c125_48 rfl ka380 (by omega) hTi rfl (fun v10968 hv10968 gv10968 => ?_)
            refine y_aload 50 c125_49 rfl rfl rfl ?_
            refine y_getX 53 (mi 376 4) c125_50 rfl kf376_4 rfl ?_
            have tb10969 := hTi.atp 376 4 ((-2147483648)) 2147483647 rfl
            refine y_icmp 60 56 c125_53 rfl rfl (yc_eq (by omega) (by omega)) (fun hb10970 => ?_) (fun hb10970 => ?_)
            · refine y_iconst 61 c125_60 rfl ?_
              refine y_istore 63 c125_61 rfl rfl ?_
              refine y_aload 64 c125_63 rfl rfl rfl ?_
              refine y_getX 67 (mi 376 4) c125_64 rfl kf376_4 rfl ?_
              refine y_istore 69 c125_67 rfl rfl ?_
              refine y_aload 70 c125_69 rfl rfl rfl ?_
              refine y_iload 72 c125_70 rfl rfl ?_
              have es10972 : mi 376 1 = m 376 1 := (hFi 376 1 rfl)
              have tb10973 := hT.atp 376 1 0 320 rfl
              have tb10974 := hTi.atp 376 6 0 320 rfl
              have tb10975 := hTi.atp 376 8 ((-1)) 320 rfl
              refine y_callIB 75 [.ref 376, yI 0] [] c125_72 rfl rfl rfl rfl rfl (ycanO km105 ko376) (t105 (g := 0) hTi (by omega) (by omega)) (fun rq10971 mq10971 nq10971 hq10971 => ?_)
              obtain ⟨rfl, hTq10971, hFq10971, hq10971⟩ := hq10971
              have x1q10971 : mq10971 376 1 = m 376 1 := ((hFq10971 376 1 rfl).trans (hFi 376 1 rfl))
              have hF10976 := hFi.tr hFq10971 wNw_wPz0
              refine y_if 79 78 c125_75 rfl rfl (yz_ne (by omega)) (fun hb10977 => ?_) (fun hb10977 => ?_)
              · exfalso; omega
              · have es10978 : mq10971 376 1 = m 376 1 := ((hFq10971 376 1 rfl).trans (hFi 376 1 rfl))
                have tb10979 := hTq10971.atp 376 3 0 3 rfl
                have tb10980 := hTq10971.atp 376 6 0 320 rfl
                have tb10981 := hTq10971.atp 376 8 ((-1)) 320 rfl
                have es10982 : mq10971 389 0 = mi 389 0 := (hFq10971 389 0 rfl)
                have e9710983 : mq10971 397 k.toNat = mi 397 k.toNat := (hFq10971 397 _ rfl)
                exact y_retU c125_78 ⟨rfl, hTq10971, hF10976, by omega, by omega, fun q hq => ((hFq10971 397 q rfl).trans (hz q hq))⟩
            · refine y_iconst 57 c125_56 rfl ?_
              refine y_goto 61 c125_57 rfl ?_
              refine y_istore 63 c125_61 rfl rfl ?_
              refine y_aload 64 c125_63 rfl rfl rfl ?_
              refine y_getX 67 (mi 376 4) c125_64 rfl kf376_4 rfl ?_
              refine y_istore 69 c125_67 rfl rfl ?_
              refine y_aload 70 c125_69 rfl rfl rfl ?_
              refine y_iload 72 c125_70 rfl rfl ?_
              have es10985 : mi 376 1 = m 376 1 := (hFi 376 1 rfl)
              have tb10986 := hT.atp 376 1 0 320 rfl
              have tb10987 := hTi.atp 376 6 0 320 rfl
              have tb10988 := hTi.atp 376 8 ((-1)) 320 rfl
              refine y_callIB 75 [.ref 376, yI 1] [] c125_72 rfl rfl rfl rfl rfl (ycanO km105 ko376) (t105 (g := 1) hTi (by omega) (by omega)) (fun rq10984 mq10984 nq10984 hq10984 => ?_)
              obtain ⟨rfl, hTq10984, hFq10984, hq10984⟩ := hq10984
              have x1q10984 : mq10984 376 1 = m 376 1 := ((hFq10984 376 1 rfl).trans (hFi 376 1 rfl))
              have hF10989 := hFi.tr hFq10984 wNw_wPz0
              refine y_if 79 78 c125_75 rfl rfl (yz_ne (by omega)) (fun hb10990 => ?_) (fun hb10990 => ?_)
              · refine y_aload 80 c125_79 rfl rfl rfl ?_
                refine y_iload 82 c125_80 rfl rfl ?_
                have es10992 : mq10984 376 1 = m 376 1 := ((hFq10984 376 1 rfl).trans (hFi 376 1 rfl))
                have tb10993 := hTq10984.atp 376 3 0 3 rfl
                have tb10994 := hTq10984.atp 376 6 0 320 rfl
                have tb10995 := hTq10984.atp 376 8 ((-1)) 320 rfl
                have es10996 : mq10984 376 18 = m 376 18 := ((hFq10984 376 18 rfl).trans (hFi 376 18 rfl))
                have tb10997 := hT.atp 376 18 0 1 rfl
                have es10998 : mq10984 389 0 = mi 389 0 := (hFq10984 389 0 rfl)
                refine y_callIB 85 [.ref 376, yI (mi 376 4)] [] c125_82 rfl rfl rfl rfl rfl (ycanO km124 ko376) (t124_0 hTq10984 (by omega) (by omega) (by omega)) (fun rq10991 mq10991 nq10991 hq10991 => ?_)
                obtain ⟨rfl, hTq10991, hFq10991, hq10991⟩ := hq10991
                have x1q10991 : mq10991 376 1 = m 376 1 := ((hFq10991 376 1 rfl).trans ((hFq10984 376 1 rfl).trans (hFi 376 1 rfl)))
                have hF10999 := hF10989.tr hFq10991 wVp0_wPz0
                refine y_istore 87 c125_85 rfl rfl ?_
                refine y_aload 88 c125_87 rfl rfl rfl ?_
                refine y_getR 91 c125_88 rfl kf376_34 ?_
                refine y_iload 92 c125_91 rfl rfl ?_
                refine y_dup2 93 c125_92 rfl ⟨rfl, rfl⟩ ?_
                refine y_iaT 94 0 2 c125_93 rfl ka397 (by omega) hTq10991 rfl (fun v11000 hv11000 gv11000 => ?_)
                have w9711001 : v11000 = mi 397 k.toNat := hv11000.symm.trans ((hFq10991 397 _ rfl).trans (hFq10984 397 _ rfl))
                refine y_iconst 95 c125_94 rfl ?_
                refine y_iadd 96 c125_95 rfl ?_
                refine y_iastore 97 c125_96 rfl ka397 (by omega) (y_nar0 _) ?_
                have hT11002 := hTq10991.up 397 k.toNat (v11000 + 1) 0 2 rfl (by omega)
                have hF11003 := hF10999.up 397 k.toNat (v11000 + 1) (wPz0_397 (by omega))
                refine y_aload 98 c125_97 rfl rfl rfl ?_
                refine y_getR 101 c125_98 rfl kf376_34 ?_
                refine y_iload 102 c125_101 rfl rfl ?_
                refine y_iaT 103 0 2 c125_102 rfl ka397 (by omega) hT11002 rfl (fun v11004 hv11004 gv11004 => ?_)
                have w9711005 : v11004 = v11000 + 1 := hv11004.symm.trans (yup_eq _ _ _ _)
                refine y_iconst 104 c125_103 rfl ?_
                refine y_icmp 120 107 c125_104 rfl rfl (yc_ne (by omega) (by omega)) (fun hb11006 => ?_) (fun hb11006 => ?_)
                · refine y_iconst 121 c125_120 rfl ?_
                  refine y_istore 122 c125_121 rfl rfl ?_
                  refine y_iload 123 c125_122 rfl rfl ?_
                  refine y_if 130 126 c125_123 rfl rfl (yz_eq (by omega)) (fun hb11007 => ?_) (fun hb11007 => ?_)
                  · refine y_goto 7 c125_130 rfl ?_
                    have es11008 : (yup mq10991 397 k.toNat (v11000 + 1)) 376 1 = m 376 1 := ((yup_na (by decide)).trans ((hFq10991 376 1 rfl).trans ((hFq10984 376 1 rfl).trans (hFi 376 1 rfl))))
                    have es11009 : (yup mq10991 397 k.toNat (v11000 + 1)) 376 3 = mq10984 376 3 := ((yup_na (by decide)).trans (hFq10991 376 3 rfl))
                    have es11010 : (yup mq10991 397 k.toNat (v11000 + 1)) 376 6 = mq10984 376 6 := ((yup_na (by decide)).trans (hFq10991 376 6 rfl))
                    have es11011 : (yup mq10991 397 k.toNat (v11000 + 1)) 376 8 = mq10984 376 8 := ((yup_na (by decide)).trans (hFq10991 376 8 rfl))
                    have es11012 : (yup mq10991 397 k.toNat (v11000 + 1)) 389 0 = mq10991 389 0 := rfl
                    have tb11013 := hTq10991.atp 389 0 0 48 rfl
                    have em11014 : mu (yup mq10991 397 k.toNat (v11000 + 1)) = mu mq10984 := mu_fr ((yup_na (by decide)).trans (hFq10991 376 1 rfl)) ((yup_na (by decide)).trans (hFq10991 376 3 rfl)) ((yup_na (by decide)).trans (hFq10991 376 6 rfl))
                    have e9711015 : (yup mq10991 397 k.toNat (v11000 + 1)) 397 k.toNat = v11000 + 1 := (yup_eq _ _ _ _)
                    exact ih (3 - (yup mq10991 397 k.toNat (v11000 + 1)) 397 k.toNat).toNat (by omega) 0 _ _ _ _ (by omega) (by omega) hT11002 hF11003 (by omega) (by omega) (by omega) (by omega) (fun q hq => ((yup_nk hq).trans ((hFq10991 397 q rfl).trans ((hFq10984 397 q rfl).trans (hz q hq)))))
                  · exfalso; omega
                · refine y_aload 108 c125_107 rfl rfl rfl ?_
                  refine y_iconst 110 c125_108 rfl ?_
                  have es11016 : (yup mq10991 397 k.toNat (v11000 + 1)) 376 3 = mq10984 376 3 := ((yup_na (by decide)).trans (hFq10991 376 3 rfl))
                  refine y_callP 113 [.ref 376, yI 44] [] c125_110 rfl rfl rfl rfl rfl (ycanO km117 ko376) (t117 hT11002 (by omega)) (fun r11017 hr11017 => ?_)
                  refine y_if 120 116 c125_113 rfl rfl (yz_eq (by omega)) (fun hb11018 => ?_) (fun hb11018 => ?_)
                  · refine y_iconst 121 c125_120 rfl ?_
                    refine y_istore 122 c125_121 rfl rfl ?_
                    refine y_iload 123 c125_122 rfl rfl ?_
                    refine y_if 130 126 c125_123 rfl rfl (yz_eq (by omega)) (fun hb11019 => ?_) (fun hb11019 => ?_)
                    · refine y_goto 7 c125_130 rfl ?_
                      have es11020 : (yup mq10991 397 k.toNat (v11000 + 1)) 376 1 = m 376 1 := ((yup_na (by decide)).trans ((hFq10991 376 1 rfl).trans ((hFq10984 376 1 rfl).trans (hFi 376 1 rfl))))
                      have es11021 : (yup mq10991 397 k.toNat (v11000 + 1)) 376 3 = mq10984 376 3 := ((yup_na (by decide)).trans (hFq10991 376 3 rfl))
                      have es11022 : (yup mq10991 397 k.toNat (v11000 + 1)) 376 6 = mq10984 376 6 := ((yup_na (by decide)).trans (hFq10991 376 6 rfl))
                      have es11023 : (yup mq10991 397 k.toNat (v11000 + 1)) 376 8 = mq10984 376 8 := ((yup_na (by decide)).trans (hFq10991 376 8 rfl))
                      have es11024 : (yup mq10991 397 k.toNat (v11000 + 1)) 389 0 = mq10991 389 0 := rfl
                      have tb11025 := hTq10991.atp 389 0 0 48 rfl
                      have em11026 : mu (yup mq10991 397 k.toNat (v11000 + 1)) = mu mq10984 := mu_fr ((yup_na (by decide)).trans (hFq10991 376 1 rfl)) ((yup_na (by decide)).trans (hFq10991 376 3 rfl)) ((yup_na (by decide)).trans (hFq10991 376 6 rfl))
                      have e9711027 : (yup mq10991 397 k.toNat (v11000 + 1)) 397 k.toNat = v11000 + 1 := (yup_eq _ _ _ _)
                      exact ih (3 - (yup mq10991 397 k.toNat (v11000 + 1)) 397 k.toNat).toNat (by omega) 0 _ _ _ _ (by omega) (by omega) hT11002 hF11003 (by omega) (by omega) (by omega) (by omega) (fun q hq => ((yup_nk hq).trans ((hFq10991 397 q rfl).trans ((hFq10984 397 q rfl).trans (hz q hq)))))
                    · exfalso; omega
                  · refine y_iconst 117 c125_116 rfl ?_
                    refine y_goto 121 c125_117 rfl ?_
                    refine y_istore 122 c125_121 rfl rfl ?_
                    refine y_iload 123 c125_122 rfl rfl ?_
                    refine y_if 130 126 c125_123 rfl rfl (yz_eq (by omega)) (fun hb11028 => ?_) (fun hb11028 => ?_)
                    · exfalso; omega
                    · refine y_aload 127 c125_126 rfl rfl rfl ?_
                      have es11030 : (yup mq10991 397 k.toNat (v11000 + 1)) 376 1 = m 376 1 := ((yup_na (by decide)).trans ((hFq10991 376 1 rfl).trans ((hFq10984 376 1 rfl).trans (hFi 376 1 rfl))))
                      have es11031 : (yup mq10991 397 k.toNat (v11000 + 1)) 376 3 = mq10984 376 3 := ((yup_na (by decide)).trans (hFq10991 376 3 rfl))
                      have es11032 : (yup mq10991 397 k.toNat (v11000 + 1)) 376 6 = mq10984 376 6 := ((yup_na (by decide)).trans (hFq10991 376 6 rfl))
                      have es11033 : (yup mq10991 397 k.toNat (v11000 + 1)) 376 8 = mq10984 376 8 := ((yup_na (by decide)).trans (hFq10991 376 8 rfl))
                      have em11034 : mu (yup mq10991 397 k.toNat (v11000 + 1)) = mu mq10984 := mu_fr ((yup_na (by decide)).trans (hFq10991 376 1 rfl)) ((yup_na (by decide)).trans (hFq10991 376 3 rfl)) ((yup_na (by decide)).trans (hFq10991 376 6 rfl))
                      refine y_callUB 130 [.ref 376] [] c125_127 rfl rfl rfl rfl rfl (ycanO km99 ko376) (t99u hT11002 (by omega)) (fun mq11029 nq11029 hq11029 => ?_)
                      obtain ⟨rfl, hTq11029, hFq11029, hq11029⟩ := hq11029
                      have x1q11029 : mq11029 376 1 = m 376 1 := ((hFq11029 376 1 rfl).trans ((yup_na (by decide)).trans ((hFq10991 376 1 rfl).trans ((hFq10984 376 1 rfl).trans (hFi 376 1 rfl)))))
                      have hF11035 := hF11003.tr hFq11029 wNx_wPz0
                      refine y_goto 7 c125_130 rfl ?_
                      have es11036 : mq11029 376 1 = m 376 1 := ((hFq11029 376 1 rfl).trans ((yup_na (by decide)).trans ((hFq10991 376 1 rfl).trans ((hFq10984 376 1 rfl).trans (hFi 376 1 rfl)))))
                      have tb11037 := hTq11029.atp 376 3 0 3 rfl
                      have tb11038 := hTq11029.atp 376 6 0 320 rfl
                      have es11039 : mq11029 376 8 = mq10984 376 8 := ((hFq11029 376 8 rfl).trans ((yup_na (by decide)).trans (hFq10991 376 8 rfl)))
                      have es11040 : mq11029 389 0 = mq10991 389 0 := ((hFq11029 389 0 rfl).trans (yup_na (by decide)))
                      have tb11041 := hTq10991.atp 389 0 0 48 rfl
                      have e9711042 : mq11029 397 k.toNat = v11000 + 1 := ((hFq11029 397 _ rfl).trans (yup_eq _ _ _ _))
                      exact ih (3 - mq11029 397 k.toNat).toNat (by omega) 1 _ _ _ _ (by omega) (by omega) hTq11029 hF11035 (by omega) (by omega) (by omega) (by omega) (fun q hq => ((hFq11029 397 q rfl).trans ((yup_nk hq).trans ((hFq10991 397 q rfl).trans ((hFq10984 397 q rfl).trans (hz q hq))))))
              · have es11043 : mq10984 376 1 = m 376 1 := ((hFq10984 376 1 rfl).trans (hFi 376 1 rfl))
                have tb11044 := hTq10984.atp 376 3 0 3 rfl
                have tb11045 := hTq10984.atp 376 6 0 320 rfl
                have tb11046 := hTq10984.atp 376 8 ((-1)) 320 rfl
                have es11047 : mq10984 389 0 = mi 389 0 := (hFq10984 389 0 rfl)
                have e9711048 : mq10984 397 k.toNat = mi 397 k.toNat := (hFq10984 397 _ rfl)
                exact y_retU c125_78 ⟨rfl, hTq10984, hF10989, by omega, by omega, fun q hq => ((hFq10984 397 q rfl).trans (hz q hq))⟩
set_option maxRecDepth 100000 in
theorem t125_0 {L : Nat} {xs : Nat → Int32} {d nn : Nat} {m : yM} {k : Int} (hT : Ty gT m) (hl : m 376 6 ≤ m 376 1) (hn : m 376 18 = 1) (hk : 0 ≤ k ∧ k < 10) (h8 : m 376 8 < 0) (hI : m 398 k.toNat + 2 + m 397 k.toNat = m 389 0 ∧ m 376 14 = m 398 k.toNat) (hs : m 397 k.toNat ≤ 1) : YC (gZ L xs) (d + 5) 125 [.ref 376, yI k] m nn (qU (fun m' n' => n' = nn ∧ Ty gT m' ∧ Fr wPz0 m m' ∧ m' 376 6 ≤ m' 376 1 ∧ (m 398 k.toNat + 2 + m' 397 k.toNat ≤ 48 ∧ (0 ≤ m' 376 8 ∨ (m' 376 8 < 0 ∧ mu m' ≤ mu m))) ∧ ∀ q, q ≠ k.toNat → m' 397 q = m 397 q)) := by
  have t97 := hT.atp 397 k.toNat 0 2 rfl
  refine YC.mkB [some (.ref 376), some (yI k), none, none, none, none, none] kn125 rfl rfl ?_
  refine y_aload 1 c125_0 rfl rfl rfl ?_
  have tb11050 := hT.atp 376 18 0 1 rfl
  refine y_callP 4 [.ref 376] [] c125_1 rfl rfl rfl rfl rfl (ycanO km96 ko376) (t96_0 (by omega)) (fun r11049 hr11049 => ?_)
  subst hr11049
  refine y_istore 5 c125_4 rfl rfl ?_
  refine y_iconst 6 c125_5 rfl ?_
  refine y_istore 7 c125_6 rfl rfl ?_
  exact t125a_0 hT hl hn hk h8 (3 - m 397 k.toNat).toNat 1 _ _ _ _ (by omega) (by omega) hT Fr.rf hl h8 (by omega) hI (fun q hq => rfl)
set_option maxRecDepth 100000 in
theorem t125a_1 {L : Nat} {xs : Nat → Int32} {d nn : Nat} {m : yM} {k : Int} (hT : Ty gT m) (hl : m 376 6 ≤ m 376 1) (hn : m 376 18 = 0) (hk : 10 ≤ k ∧ k < 20) (h8 : m 376 8 < 0) : ∀ (km : Nat) (g : Int) (y4 : Option Value) (y5 : Option Value) (y6 : Option Value) (mi : yM), 3 - mi 397 k.toNat = km → (g = 0 ∨ g = 1) ∧ (g = 1 → mi 397 k.toNat ≤ 1) → Ty gT mi → Fr wPz1 m mi → mi 376 6 ≤ mi 376 1 → mi 376 8 < 0 → mu mi ≤ mu m → m 398 k.toNat + 2 + mi 397 k.toNat = mi 389 1 ∧ m 376 14 = m 398 k.toNat → (∀ q, q ≠ k.toNat → mi 397 q = m 397 q) → YW (gZ L xs) 125 (d + 5) 7 [some (.ref 376), some (yI k), some (yI 1), some (yI g), y4, y5, y6] [] mi nn (qU (fun m' n' => n' = nn ∧ Ty gT m' ∧ Fr wPz1 m m' ∧ m' 376 6 ≤ m' 376 1 ∧ (m 398 k.toNat + 2 + m' 397 k.toNat ≤ 48 ∧ (0 ≤ m' 376 8 ∨ (m' 376 8 < 0 ∧ mu m' ≤ mu m))) ∧ ∀ q, q ≠ k.toNat → m' 397 q = m 397 q)) := by
  intro km
  induction km using Nat.strongRecOn with
  | ind km ih =>
    intro g y4 y5 y6 mi hk hg hTi hFi hli h8i hmu hI hz
    have tc := hTi.atp 389 1 0 48 rfl
    have t97 := hTi.atp 397 k.toNat 0 2 rfl
    have t14 := hTi.atp 376 14 0 46 rfl
    have e14 : mi 376 14 = m 376 14 := hFi 376 14 rfl
    have e18 : mi 376 18 = m 376 18 := hFi 376 18 rfl
    have em1 : mi 376 1 = m 376 1 := hFi 376 1 rfl
    refine y_iload 8 c125_7 rfl rfl ?_
    refine y_if 133 11 c125_8 rfl rfl (yz_eq (by omega)) (fun hb11433 => ?_) (fun hb11433 => ?_)
    · have es11434 : mi 376 1 = m 376 1 := (hFi 376 1 rfl)
      have tb11435 := hT.atp 376 1 0 320 rfl
      have tb11436 := hTi.atp 376 3 0 3 rfl
      have tb11437 := hTi.atp 376 6 0 320 rfl
      have tb11438 := hTi.atp 376 8 ((-1)) 320 rfl
      exact y_retU c125_133 ⟨rfl, hTi, hFi, by omega, by omega, fun q hq => (hz q hq)⟩
    · refine y_aload 12 c125_11 rfl rfl rfl ?_
      have tb11439 := hTi.atp 376 3 0 3 rfl
      refine y_callP 15 [.ref 376] [] c125_12 rfl rfl rfl rfl rfl (ycanO km115 ko376) (t115 hTi) (fun r11440 hr11440 => ?_)
      refine y_if 60 18 c125_15 rfl rfl (yz_eq (by omega)) (fun hb11441 => ?_) (fun hb11441 => ?_)
      · refine y_iconst 61 c125_60 rfl ?_
        refine y_istore 63 c125_61 rfl rfl ?_
        refine y_aload 64 c125_63 rfl rfl rfl ?_
        refine y_getX 67 (mi 376 4) c125_64 rfl kf376_4 rfl ?_
        have tb11442 := hTi.atp 376 4 ((-2147483648)) 2147483647 rfl
        refine y_istore 69 c125_67 rfl rfl ?_
        refine y_aload 70 c125_69 rfl rfl rfl ?_
        refine y_iload 72 c125_70 rfl rfl ?_
        have es11444 : mi 376 1 = m 376 1 := (hFi 376 1 rfl)
        have tb11445 := hT.atp 376 1 0 320 rfl
        have tb11446 := hTi.atp 376 6 0 320 rfl
        have tb11447 := hTi.atp 376 8 ((-1)) 320 rfl
        refine y_callIB 75 [.ref 376, yI 0] [] c125_72 rfl rfl rfl rfl rfl (ycanO km105 ko376) (t105 (g := 0) hTi (by omega) (by omega)) (fun rq11443 mq11443 nq11443 hq11443 => ?_)
        obtain ⟨rfl, hTq11443, hFq11443, hq11443⟩ := hq11443
        have x1q11443 : mq11443 376 1 = m 376 1 := ((hFq11443 376 1 rfl).trans (hFi 376 1 rfl))
        have hF11448 := hFi.tr hFq11443 wNw_wPz1
        refine y_if 79 78 c125_75 rfl rfl (yz_ne (by omega)) (fun hb11449 => ?_) (fun hb11449 => ?_)
        · exfalso; omega
        · have es11450 : mq11443 376 1 = m 376 1 := ((hFq11443 376 1 rfl).trans (hFi 376 1 rfl))
          have tb11451 := hTq11443.atp 376 3 0 3 rfl
          have tb11452 := hTq11443.atp 376 6 0 320 rfl
          have tb11453 := hTq11443.atp 376 8 ((-1)) 320 rfl
          have es11454 : mq11443 389 1 = mi 389 1 := (hFq11443 389 1 rfl)
          have e9711455 : mq11443 397 k.toNat = mi 397 k.toNat := (hFq11443 397 _ rfl)
          exact y_retU c125_78 ⟨rfl, hTq11443, hF11448, by omega, by omega, fun q hq => ((hFq11443 397 q rfl).trans (hz q hq))⟩
      · refine y_aload 19 c125_18 rfl rfl rfl ?_
        refine y_getR 22 c125_19 rfl kf376_26 ?_
        refine y_iload 23 c125_22 rfl rfl ?_
        refine y_iaX 24 (mi 389 1) c125_23 rfl ka389 (by decide) rfl ?_
        refine y_iconst 26 c125_24 rfl ?_
        refine y_icmp 60 29 c125_26 rfl rfl (yc_ge (by omega) (by omega)) (fun hb11456 => ?_) (fun hb11456 => ?_)
        · refine y_iconst 61 c125_60 rfl ?_
          refine y_istore 63 c125_61 rfl rfl ?_
          refine y_aload 64 c125_63 rfl rfl rfl ?_
          refine y_getX 67 (mi 376 4) c125_64 rfl kf376_4 rfl ?_
          have tb11457 := hTi.atp 376 4 ((-2147483648)) 2147483647 rfl
          refine y_istore 69 c125_67 rfl rfl ?_
          refine y_aload 70 c125_69 rfl rfl rfl ?_
          refine y_iload 72 c125_70 rfl rfl ?_
          have es11459 : mi 376 1 = m 376 1 := (hFi 376 1 rfl)
          have tb11460 := hT.atp 376 1 0 320 rfl
          have tb11461 := hTi.atp 376 6 0 320 rfl
          have tb11462 := hTi.atp 376 8 ((-1)) 320 rfl
          refine y_callIB 75 [.ref 376, yI 0] [] c125_72 rfl rfl rfl rfl rfl (ycanO km105 ko376) (t105 (g := 0) hTi (by omega) (by omega)) (fun rq11458 mq11458 nq11458 hq11458 => ?_)
          obtain ⟨rfl, hTq11458, hFq11458, hq11458⟩ := hq11458
          have x1q11458 : mq11458 376 1 = m 376 1 := ((hFq11458 376 1 rfl).trans (hFi 376 1 rfl))
          have hF11463 := hFi.tr hFq11458 wNw_wPz1
          refine y_if 79 78 c125_75 rfl rfl (yz_ne (by omega)) (fun hb11464 => ?_) (fun hb11464 => ?_)
          · exfalso; omega
          · have es11465 : mq11458 376 1 = m 376 1 := ((hFq11458 376 1 rfl).trans (hFi 376 1 rfl))
            have tb11466 := hTq11458.atp 376 3 0 3 rfl
            have tb11467 := hTq11458.atp 376 6 0 320 rfl
            have tb11468 := hTq11458.atp 376 8 ((-1)) 320 rfl
            have es11469 : mq11458 389 1 = mi 389 1 := (hFq11458 389 1 rfl)
            have e9711470 : mq11458 397 k.toNat = mi 397 k.toNat := (hFq11458 397 _ rfl)
            exact y_retU c125_78 ⟨rfl, hTq11458, hF11463, by omega, by omega, fun q hq => ((hFq11458 397 q rfl).trans (hz q hq))⟩
        · refine y_aload 30 c125_29 rfl rfl rfl ?_
          refine y_getR 33 c125_30 rfl kf376_34 ?_
          refine y_iload 34 c125_33 rfl rfl ?_
          refine y_iaT 35 0 2 c125_34 rfl ka397 (by omega) hTi rfl (fun v11471 hv11471 gv11471 => ?_)
          have w9711472 : v11471 = mi 397 k.toNat := hv11471.symm.trans rfl
          refine y_if 56 38 c125_35 rfl rfl (yz_eq (by omega)) (fun hb11473 => ?_) (fun hb11473 => ?_)
          · refine y_iconst 57 c125_56 rfl ?_
            refine y_goto 61 c125_57 rfl ?_
            refine y_istore 63 c125_61 rfl rfl ?_
            refine y_aload 64 c125_63 rfl rfl rfl ?_
            refine y_getX 67 (mi 376 4) c125_64 rfl kf376_4 rfl ?_
            have tb11474 := hTi.atp 376 4 ((-2147483648)) 2147483647 rfl
            refine y_istore 69 c125_67 rfl rfl ?_
            refine y_aload 70 c125_69 rfl rfl rfl ?_
            refine y_iload 72 c125_70 rfl rfl ?_
            have es11476 : mi 376 1 = m 376 1 := (hFi 376 1 rfl)
            have tb11477 := hT.atp 376 1 0 320 rfl
            have tb11478 := hTi.atp 376 6 0 320 rfl
            have tb11479 := hTi.atp 376 8 ((-1)) 320 rfl
            refine y_callIB 75 [.ref 376, yI 1] [] c125_72 rfl rfl rfl rfl rfl (ycanO km105 ko376) (t105 (g := 1) hTi (by omega) (by omega)) (fun rq11475 mq11475 nq11475 hq11475 => ?_)
            obtain ⟨rfl, hTq11475, hFq11475, hq11475⟩ := hq11475
            have x1q11475 : mq11475 376 1 = m 376 1 := ((hFq11475 376 1 rfl).trans (hFi 376 1 rfl))
            have hF11480 := hFi.tr hFq11475 wNw_wPz1
            refine y_if 79 78 c125_75 rfl rfl (yz_ne (by omega)) (fun hb11481 => ?_) (fun hb11481 => ?_)
            · refine y_aload 80 c125_79 rfl rfl rfl ?_
              refine y_iload 82 c125_80 rfl rfl ?_
              have es11483 : mq11475 376 1 = m 376 1 := ((hFq11475 376 1 rfl).trans (hFi 376 1 rfl))
              have tb11484 := hTq11475.atp 376 3 0 3 rfl
              have tb11485 := hTq11475.atp 376 6 0 320 rfl
              have tb11486 := hTq11475.atp 376 8 ((-1)) 320 rfl
              have es11487 : mq11475 376 18 = m 376 18 := ((hFq11475 376 18 rfl).trans (hFi 376 18 rfl))
              have tb11488 := hT.atp 376 18 0 1 rfl
              have es11489 : mq11475 389 1 = mi 389 1 := (hFq11475 389 1 rfl)
              refine y_callIB 85 [.ref 376, yI (mi 376 4)] [] c125_82 rfl rfl rfl rfl rfl (ycanO km124 ko376) (t124_1 hTq11475 (by omega) (by omega) (by omega)) (fun rq11482 mq11482 nq11482 hq11482 => ?_)
              obtain ⟨rfl, hTq11482, hFq11482, hq11482⟩ := hq11482
              have x1q11482 : mq11482 376 1 = m 376 1 := ((hFq11482 376 1 rfl).trans ((hFq11475 376 1 rfl).trans (hFi 376 1 rfl)))
              have hF11490 := hF11480.tr hFq11482 wVp1_wPz1
              refine y_istore 87 c125_85 rfl rfl ?_
              refine y_aload 88 c125_87 rfl rfl rfl ?_
              refine y_getR 91 c125_88 rfl kf376_34 ?_
              refine y_iload 92 c125_91 rfl rfl ?_
              refine y_dup2 93 c125_92 rfl ⟨rfl, rfl⟩ ?_
              refine y_iaT 94 0 2 c125_93 rfl ka397 (by omega) hTq11482 rfl (fun v11491 hv11491 gv11491 => ?_)
              have w9711492 : v11491 = mi 397 k.toNat := hv11491.symm.trans ((hFq11482 397 _ rfl).trans (hFq11475 397 _ rfl))
              refine y_iconst 95 c125_94 rfl ?_
              refine y_iadd 96 c125_95 rfl ?_
              refine y_iastore 97 c125_96 rfl ka397 (by omega) (y_nar0 _) ?_
              have hT11493 := hTq11482.up 397 k.toNat (v11491 + 1) 0 2 rfl (by omega)
              have hF11494 := hF11490.up 397 k.toNat (v11491 + 1) (wPz1_397 (by omega))
              refine y_aload 98 c125_97 rfl rfl rfl ?_
              refine y_getR 101 c125_98 rfl kf376_34 ?_
              refine y_iload 102 c125_101 rfl rfl ?_
              refine y_iaT 103 0 2 c125_102 rfl ka397 (by omega) hT11493 rfl (fun v11495 hv11495 gv11495 => ?_)
              have w9711496 : v11495 = v11491 + 1 := hv11495.symm.trans (yup_eq _ _ _ _)
              refine y_iconst 104 c125_103 rfl ?_
              refine y_icmp 120 107 c125_104 rfl rfl (yc_ne (by omega) (by omega)) (fun hb11497 => ?_) (fun hb11497 => ?_)
              · refine y_iconst 121 c125_120 rfl ?_
                refine y_istore 122 c125_121 rfl rfl ?_
                refine y_iload 123 c125_122 rfl rfl ?_
                refine y_if 130 126 c125_123 rfl rfl (yz_eq (by omega)) (fun hb11498 => ?_) (fun hb11498 => ?_)
                · refine y_goto 7 c125_130 rfl ?_
                  have es11499 : (yup mq11482 397 k.toNat (v11491 + 1)) 376 1 = m 376 1 := ((yup_na (by decide)).trans ((hFq11482 376 1 rfl).trans ((hFq11475 376 1 rfl).trans (hFi 376 1 rfl))))
                  have es11500 : (yup mq11482 397 k.toNat (v11491 + 1)) 376 3 = mq11475 376 3 := ((yup_na (by decide)).trans (hFq11482 376 3 rfl))
                  have es11501 : (yup mq11482 397 k.toNat (v11491 + 1)) 376 6 = mq11475 376 6 := ((yup_na (by decide)).trans (hFq11482 376 6 rfl))
                  have es11502 : (yup mq11482 397 k.toNat (v11491 + 1)) 376 8 = mq11475 376 8 := ((yup_na (by decide)).trans (hFq11482 376 8 rfl))
                  have es11503 : (yup mq11482 397 k.toNat (v11491 + 1)) 389 1 = mq11482 389 1 := rfl
                  have tb11504 := hTq11482.atp 389 1 0 48 rfl
                  have em11505 : mu (yup mq11482 397 k.toNat (v11491 + 1)) = mu mq11475 := mu_fr ((yup_na (by decide)).trans (hFq11482 376 1 rfl)) ((yup_na (by decide)).trans (hFq11482 376 3 rfl)) ((yup_na (by decide)).trans (hFq11482 376 6 rfl))
                  have e9711506 : (yup mq11482 397 k.toNat (v11491 + 1)) 397 k.toNat = v11491 + 1 := (yup_eq _ _ _ _)
                  exact ih (3 - (yup mq11482 397 k.toNat (v11491 + 1)) 397 k.toNat).toNat (by omega) 0 _ _ _ _ (by omega) (by omega) hT11493 hF11494 (by omega) (by omega) (by omega) (by omega) (fun q hq => ((yup_nk hq).trans ((hFq11482 397 q rfl).trans ((hFq11475 397 q rfl).trans (hz q hq)))))
                · exfalso; omega
              · refine y_aload 108 c125_107 rfl rfl rfl ?_
                refine y_iconst 110 c125_108 rfl ?_
                have es11507 : (yup mq11482 397 k.toNat (v11491 + 1)) 376 3 = mq11475 376 3 := ((yup_na (by decide)).trans (hFq11482 376 3 rfl))
                refine y_callP 113 [.ref 376, yI 44] [] c125_110 rfl rfl rfl rfl rfl (ycanO km117 ko376) (t117 hT11493 (by omega)) (fun r11508 hr11508 => ?_)
                refine y_if 120 116 c125_113 rfl rfl (yz_eq (by omega)) (fun hb11509 => ?_) (fun hb11509 => ?_)
                · refine y_iconst 121 c125_120 rfl ?_
                  refine y_istore 122 c125_121 rfl rfl ?_
                  refine y_iload 123 c125_122 rfl rfl ?_
                  refine y_if 130 126 c125_123 rfl rfl (yz_eq (by omega)) (fun hb11510 => ?_) (fun hb11510 => ?_)
                  · refine y_goto 7 c125_130 rfl ?_
                    have es11511 : (yup mq11482 397 k.toNat (v11491 + 1)) 376 1 = m 376 1 := ((yup_na (by decide)).trans ((hFq11482 376 1 rfl).trans ((hFq11475 376 1 rfl).trans (hFi 376 1 rfl))))
                    have es11512 : (yup mq11482 397 k.toNat (v11491 + 1)) 376 3 = mq11475 376 3 := ((yup_na (by decide)).trans (hFq11482 376 3 rfl))
                    have es11513 : (yup mq11482 397 k.toNat (v11491 + 1)) 376 6 = mq11475 376 6 := ((yup_na (by decide)).trans (hFq11482 376 6 rfl))
                    have es11514 : (yup mq11482 397 k.toNat (v11491 + 1)) 376 8 = mq11475 376 8 := ((yup_na (by decide)).trans (hFq11482 376 8 rfl))
                    have es11515 : (yup mq11482 397 k.toNat (v11491 + 1)) 389 1 = mq11482 389 1 := rfl
                    have tb11516 := hTq11482.atp 389 1 0 48 rfl
                    have em11517 : mu (yup mq11482 397 k.toNat (v11491 + 1)) = mu mq11475 := mu_fr ((yup_na (by decide)).trans (hFq11482 376 1 rfl)) ((yup_na (by decide)).trans (hFq11482 376 3 rfl)) ((yup_na (by decide)).trans (hFq11482 376 6 rfl))
                    have e9711518 : (yup mq11482 397 k.toNat (v11491 + 1)) 397 k.toNat = v11491 + 1 := (yup_eq _ _ _ _)
                    exact ih (3 - (yup mq11482 397 k.toNat (v11491 + 1)) 397 k.toNat).toNat (by omega) 0 _ _ _ _ (by omega) (by omega) hT11493 hF11494 (by omega) (by omega) (by omega) (by omega) (fun q hq => ((yup_nk hq).trans ((hFq11482 397 q rfl).trans ((hFq11475 397 q rfl).trans (hz q hq)))))
                  · exfalso; omega
                · refine y_iconst 117 c125_116 rfl ?_
                  refine y_goto 121 c125_117 rfl ?_
                  refine y_istore 122 c125_121 rfl rfl ?_
                  refine y_iload 123 c125_122 rfl rfl ?_
                  refine y_if 130 126 c125_123 rfl rfl (yz_eq (by omega)) (fun hb11519 => ?_) (fun hb11519 => ?_)
                  · exfalso; omega
                  · refine y_aload 127 c125_126 rfl rfl rfl ?_
                    have es11521 : (yup mq11482 397 k.toNat (v11491 + 1)) 376 1 = m 376 1 := ((yup_na (by decide)).trans ((hFq11482 376 1 rfl).trans ((hFq11475 376 1 rfl).trans (hFi 376 1 rfl))))
                    have es11522 : (yup mq11482 397 k.toNat (v11491 + 1)) 376 3 = mq11475 376 3 := ((yup_na (by decide)).trans (hFq11482 376 3 rfl))
                    have es11523 : (yup mq11482 397 k.toNat (v11491 + 1)) 376 6 = mq11475 376 6 := ((yup_na (by decide)).trans (hFq11482 376 6 rfl))
                    have es11524 : (yup mq11482 397 k.toNat (v11491 + 1)) 376 8 = mq11475 376 8 := ((yup_na (by decide)).trans (hFq11482 376 8 rfl))
                    have em11525 : mu (yup mq11482 397 k.toNat (v11491 + 1)) = mu mq11475 := mu_fr ((yup_na (by decide)).trans (hFq11482 376 1 rfl)) ((yup_na (by decide)).trans (hFq11482 376 3 rfl)) ((yup_na (by decide)).trans (hFq11482 376 6 rfl))
                    refine y_callUB 130 [.ref 376] [] c125_127 rfl rfl rfl rfl rfl (ycanO km99 ko376) (t99u hT11493 (by omega)) (fun mq11520 nq11520 hq11520 => ?_)
                    obtain ⟨rfl, hTq11520, hFq11520, hq11520⟩ := hq11520
                    have x1q11520 : mq11520 376 1 = m 376 1 := ((hFq11520 376 1 rfl).trans ((yup_na (by decide)).trans ((hFq11482 376 1 rfl).trans ((hFq11475 376 1 rfl).trans (hFi 376 1 rfl)))))
                    have hF11526 := hF11494.tr hFq11520 wNx_wPz1
                    refine y_goto 7 c125_130 rfl ?_
                    have es11527 : mq11520 376 1 = m 376 1 := ((hFq11520 376 1 rfl).trans ((yup_na (by decide)).trans ((hFq11482 376 1 rfl).trans ((hFq11475 376 1 rfl).trans (hFi 376 1 rfl)))))
                    have tb11528 := hTq11520.atp 376 3 0 3 rfl
                    have tb11529 := hTq11520.atp 376 6 0 320 rfl
                    have es11530 : mq11520 376 8 = mq11475 376 8 := ((hFq11520 376 8 rfl).trans ((yup_na (by decide)).trans (hFq11482 376 8 rfl)))
                    have es11531 : mq11520 389 1 = mq11482 389 1 := ((hFq11520 389 1 rfl).trans (yup_na (by decide)))
                    have tb11532 := hTq11482.atp 389 1 0 48 rfl
                    have e9711533 : mq11520 397 k.toNat = v11491 + 1 := ((hFq11520 397 _ rfl).trans (yup_eq _ _ _ _))
                    exact ih (3 - mq11520 397 k.toNat).toNat (by omega) 1 _ _ _ _ (by omega) (by omega) hTq11520 hF11526 (by omega) (by omega) (by omega) (by omega) (fun q hq => ((hFq11520 397 q rfl).trans ((yup_nk hq).trans ((hFq11482 397 q rfl).trans ((hFq11475 397 q rfl).trans (hz q hq))))))
            · have es11534 : mq11475 376 1 = m 376 1 := ((hFq11475 376 1 rfl).trans (hFi 376 1 rfl))
              have tb11535 := hTq11475.atp 376 3 0 3 rfl
              have tb11536 := hTq11475.atp 376 6 0 320 rfl
              have tb11537 := hTq11475.atp 376 8 ((-1)) 320 rfl
              have es11538 : mq11475 389 1 = mi 389 1 := (hFq11475 389 1 rfl)
              have e9711539 : mq11475 397 k.toNat = mi 397 k.toNat := (hFq11475 397 _ rfl)
              exact y_retU c125_78 ⟨rfl, hTq11475, hF11480, by omega, by omega, fun q hq => ((hFq11475 397 q rfl).trans (hz q hq))⟩
          · refine y_aload 39 c125_38 rfl rfl rfl ?_
            refine y_getR 42 c125_39 rfl kf376_13 ?_
            refine y_aload 43 c125_42 rfl rfl rfl ?_
            refine y_getX 46 (m 376 14) c125_43 rfl kf376_14 (hFi 376 14 rfl) ?_
            have tb11540 := hT.atp 376 14 0 46 rfl
            refine y_iconst 47 c125_46 rfl ?_
            refine y_iadd 48 c125_47 rfl ?_
            refine y_iaT 49 ((-2147483648)) 2147483647 c125_48 rfl ka380 (by omega) hTi rfl (fun v11541 hv11541 gv11541 => ?_)
            refine y_aload 50 c125_49 rfl rfl rfl ?_
            refine y_getX 53 (mi 376 4) c125_50 rfl kf376_4 rfl ?_
            have tb11542 := hTi.atp 376 4 ((-2147483648)) 2147483647 rfl
            refine y_icmp 60 56 c125_53 rfl rfl (yc_eq (by omega) (by omega)) (fun hb11543 => ?_) (fun hb11543 => ?_)
            · refine y_iconst 61 c125_60 rfl ?_
              refine y_istore 63 c125_61 rfl rfl ?_
              refine y_aload 64 c125_63 rfl rfl rfl ?_
              refine y_getX 67 (mi 376 4) c125_64 rfl kf376_4 rfl ?_
              refine y_istore 69 c125_67 rfl rfl ?_
              refine y_aload 70 c125_69 rfl rfl rfl ?_
              refine y_iload 72 c125_70 rfl rfl ?_
              have es11545 : mi 376 1 = m 376 1 := (hFi 376 1 rfl)
              have tb11546 := hT.atp 376 1 0 320 rfl
              have tb11547 := hTi.atp 376 6 0 320 rfl
              have tb11548 := hTi.atp 376 8 ((-1)) 320 rfl
              refine y_callIB 75 [.ref 376, yI 0] [] c125_72 rfl rfl rfl rfl rfl (ycanO km105 ko376) (t105 (g := 0) hTi (by omega) (by omega)) (fun rq11544 mq11544 nq11544 hq11544 => ?_)
              obtain ⟨rfl, hTq11544, hFq11544, hq11544⟩ := hq11544
              have x1q11544 : mq11544 376 1 = m 376 1 := ((hFq11544 376 1 rfl).trans (hFi 376 1 rfl))
              have hF11549 := hFi.tr hFq11544 wNw_wPz1
              refine y_if 79 78 c125_75 rfl rfl (yz_ne (by omega)) (fun hb11550 => ?_) (fun hb11550 => ?_)
              · exfalso; omega
              · have es11551 : mq11544 376 1 = m 376 1 := ((hFq11544 376 1 rfl).trans (hFi 376 1 rfl))
                have tb11552 := hTq11544.atp 376 3 0 3 rfl
                have tb11553 := hTq11544.atp 376 6 0 320 rfl
                have tb11554 := hTq11544.atp 376 8 ((-1)) 320 rfl
                have es11555 : mq11544 389 1 = mi 389 1 := (hFq11544 389 1 rfl)
                have e9711556 : mq11544 397 k.toNat = mi 397 k.toNat := (hFq11544 397 _ rfl)
                exact y_retU c125_78 ⟨rfl, hTq11544, hF11549, by omega, by omega, fun q hq => ((hFq11544 397 q rfl).trans (hz q hq))⟩
            · refine y_iconst 57 c125_56 rfl ?_
              refine y_goto 61 c125_57 rfl ?_
              refine y_istore 63 c125_61 rfl rfl ?_
              refine y_aload 64 c125_63 rfl rfl rfl ?_
              refine y_getX 67 (mi 376 4) c125_64 rfl kf376_4 rfl ?_
              refine y_istore 69 c125_67 rfl rfl ?_
              refine y_aload 70 c125_69 rfl rfl rfl ?_
              refine y_iload 72 c125_70 rfl rfl ?_
              have es11558 : mi 376 1 = m 376 1 := (hFi 376 1 rfl)
              have tb11559 := hT.atp 376 1 0 320 rfl
              have tb11560 := hTi.atp 376 6 0 320 rfl
              have tb11561 := hTi.atp 376 8 ((-1)) 320 rfl
              refine y_callIB 75 [.ref 376, yI 1] [] c125_72 rfl rfl rfl rfl rfl (ycanO km105 ko376) (t105 (g := 1) hTi (by omega) (by omega)) (fun rq11557 mq11557 nq11557 hq11557 => ?_)
              obtain ⟨rfl, hTq11557, hFq11557, hq11557⟩ := hq11557
              have x1q11557 : mq11557 376 1 = m 376 1 := ((hFq11557 376 1 rfl).trans (hFi 376 1 rfl))
              have hF11562 := hFi.tr hFq11557 wNw_wPz1
              refine y_if 79 78 c125_75 rfl rfl (yz_ne (by omega)) (fun hb11563 => ?_) (fun hb11563 => ?_)
              · refine y_aload 80 c125_79 rfl rfl rfl ?_
                refine y_iload 82 c125_80 rfl rfl ?_
                have es11565 : mq11557 376 1 = m 376 1 := ((hFq11557 376 1 rfl).trans (hFi 376 1 rfl))
                have tb11566 := hTq11557.atp 376 3 0 3 rfl
                have tb11567 := hTq11557.atp 376 6 0 320 rfl
                have tb11568 := hTq11557.atp 376 8 ((-1)) 320 rfl
                have es11569 : mq11557 376 18 = m 376 18 := ((hFq11557 376 18 rfl).trans (hFi 376 18 rfl))
                have tb11570 := hT.atp 376 18 0 1 rfl
                have es11571 : mq11557 389 1 = mi 389 1 := (hFq11557 389 1 rfl)
                refine y_callIB 85 [.ref 376, yI (mi 376 4)] [] c125_82 rfl rfl rfl rfl rfl (ycanO km124 ko376) (t124_1 hTq11557 (by omega) (by omega) (by omega)) (fun rq11564 mq11564 nq11564 hq11564 => ?_)
                obtain ⟨rfl, hTq11564, hFq11564, hq11564⟩ := hq11564
                have x1q11564 : mq11564 376 1 = m 376 1 := ((hFq11564 376 1 rfl).trans ((hFq11557 376 1 rfl).trans (hFi 376 1 rfl)))
                have hF11572 := hF11562.tr hFq11564 wVp1_wPz1
                refine y_istore 87 c125_85 rfl rfl ?_
                refine y_aload 88 c125_87 rfl rfl rfl ?_
                refine y_getR 91 c125_88 rfl kf376_34 ?_
                refine y_iload 92 c125_91 rfl rfl ?_
                refine y_dup2 93 c125_92 rfl ⟨rfl, rfl⟩ ?_
                refine y_iaT 94 0 2 c125_93 rfl ka397 (by omega) hTq11564 rfl (fun v11573 hv11573 gv11573 => ?_)
                have w9711574 : v11573 = mi 397 k.toNat := hv11573.symm.trans ((hFq11564 397 _ rfl).trans (hFq11557 397 _ rfl))
                refine y_iconst 95 c125_94 rfl ?_
                refine y_iadd 96 c125_95 rfl ?_
                refine y_iastore 97 c125_96 rfl ka397 (by omega) (y_nar0 _) ?_
                have hT11575 := hTq11564.up 397 k.toNat (v11573 + 1) 0 2 rfl (by omega)
                have hF11576 := hF11572.up 397 k.toNat (v11573 + 1) (wPz1_397 (by omega))
                refine y_aload 98 c125_97 rfl rfl rfl ?_
                refine y_getR 101 c125_98 rfl kf376_34 ?_
                refine y_iload 102 c125_101 rfl rfl ?_
                refine y_iaT 103 0 2 c125_102 rfl ka397 (by omega) hT11575 rfl (fun v11577 hv11577 gv11577 => ?_)
                have w9711578 : v11577 = v11573 + 1 := hv11577.symm.trans (yup_eq _ _ _ _)
                refine y_iconst 104 c125_103 rfl ?_
                refine y_icmp 120 107 c125_104 rfl rfl (yc_ne (by omega) (by omega)) (fun hb11579 => ?_) (fun hb11579 => ?_)
                · refine y_iconst 121 c125_120 rfl ?_
                  refine y_istore 122 c125_121 rfl rfl ?_
                  refine y_iload 123 c125_122 rfl rfl ?_
                  refine y_if 130 126 c125_123 rfl rfl (yz_eq (by omega)) (fun hb11580 => ?_) (fun hb11580 => ?_)
                  · refine y_goto 7 c125_130 rfl ?_
                    have es11581 : (yup mq11564 397 k.toNat (v11573 + 1)) 376 1 = m 376 1 := ((yup_na (by decide)).trans ((hFq11564 376 1 rfl).trans ((hFq11557 376 1 rfl).trans (hFi 376 1 rfl))))
                    have es11582 : (yup mq11564 397 k.toNat (v11573 + 1)) 376 3 = mq11557 376 3 := ((yup_na (by decide)).trans (hFq11564 376 3 rfl))
                    have es11583 : (yup mq11564 397 k.toNat (v11573 + 1)) 376 6 = mq11557 376 6 := ((yup_na (by decide)).trans (hFq11564 376 6 rfl))
                    have es11584 : (yup mq11564 397 k.toNat (v11573 + 1)) 376 8 = mq11557 376 8 := ((yup_na (by decide)).trans (hFq11564 376 8 rfl))
                    have es11585 : (yup mq11564 397 k.toNat (v11573 + 1)) 389 1 = mq11564 389 1 := rfl
                    have tb11586 := hTq11564.atp 389 1 0 48 rfl
                    have em11587 : mu (yup mq11564 397 k.toNat (v11573 + 1)) = mu mq11557 := mu_fr ((yup_na (by decide)).trans (hFq11564 376 1 rfl)) ((yup_na (by decide)).trans (hFq11564 376 3 rfl)) ((yup_na (by decide)).trans (hFq11564 376 6 rfl))
                    have e9711588 : (yup mq11564 397 k.toNat (v11573 + 1)) 397 k.toNat = v11573 + 1 := (yup_eq _ _ _ _)
                    exact ih (3 - (yup mq11564 397 k.toNat (v11573 + 1)) 397 k.toNat).toNat (by omega) 0 _ _ _ _ (by omega) (by omega) hT11575 hF11576 (by omega) (by omega) (by omega) (by omega) (fun q hq => ((yup_nk hq).trans ((hFq11564 397 q rfl).trans ((hFq11557 397 q rfl).trans (hz q hq)))))
                  · exfalso; omega
                · refine y_aload 108 c125_107 rfl rfl rfl ?_
                  refine y_iconst 110 c125_108 rfl ?_
                  have es11589 : (yup mq11564 397 k.toNat (v11573 + 1)) 376 3 = mq11557 376 3 := ((yup_na (by decide)).trans (hFq11564 376 3 rfl))
                  refine y_callP 113 [.ref 376, yI 44] [] c125_110 rfl rfl rfl rfl rfl (ycanO km117 ko376) (t117 hT11575 (by omega)) (fun r11590 hr11590 => ?_)
                  refine y_if 120 116 c125_113 rfl rfl (yz_eq (by omega)) (fun hb11591 => ?_) (fun hb11591 => ?_)
                  · refine y_iconst 121 c125_120 rfl ?_
                    refine y_istore 122 c125_121 rfl rfl ?_
                    refine y_iload 123 c125_122 rfl rfl ?_
                    refine y_if 130 126 c125_123 rfl rfl (yz_eq (by omega)) (fun hb11592 => ?_) (fun hb11592 => ?_)
                    · refine y_goto 7 c125_130 rfl ?_
                      have es11593 : (yup mq11564 397 k.toNat (v11573 + 1)) 376 1 = m 376 1 := ((yup_na (by decide)).trans ((hFq11564 376 1 rfl).trans ((hFq11557 376 1 rfl).trans (hFi 376 1 rfl))))
                      have es11594 : (yup mq11564 397 k.toNat (v11573 + 1)) 376 3 = mq11557 376 3 := ((yup_na (by decide)).trans (hFq11564 376 3 rfl))
                      have es11595 : (yup mq11564 397 k.toNat (v11573 + 1)) 376 6 = mq11557 376 6 := ((yup_na (by decide)).trans (hFq11564 376 6 rfl))
                      have es11596 : (yup mq11564 397 k.toNat (v11573 + 1)) 376 8 = mq11557 376 8 := ((yup_na (by decide)).trans (hFq11564 376 8 rfl))
                      have es11597 : (yup mq11564 397 k.toNat (v11573 + 1)) 389 1 = mq11564 389 1 := rfl
                      have tb11598 := hTq11564.atp 389 1 0 48 rfl
                      have em11599 : mu (yup mq11564 397 k.toNat (v11573 + 1)) = mu mq11557 := mu_fr ((yup_na (by decide)).trans (hFq11564 376 1 rfl)) ((yup_na (by decide)).trans (hFq11564 376 3 rfl)) ((yup_na (by decide)).trans (hFq11564 376 6 rfl))
                      have e9711600 : (yup mq11564 397 k.toNat (v11573 + 1)) 397 k.toNat = v11573 + 1 := (yup_eq _ _ _ _)
                      exact ih (3 - (yup mq11564 397 k.toNat (v11573 + 1)) 397 k.toNat).toNat (by omega) 0 _ _ _ _ (by omega) (by omega) hT11575 hF11576 (by omega) (by omega) (by omega) (by omega) (fun q hq => ((yup_nk hq).trans ((hFq11564 397 q rfl).trans ((hFq11557 397 q rfl).trans (hz q hq)))))
                    · exfalso; omega
                  · refine y_iconst 117 c125_116 rfl ?_
                    refine y_goto 121 c125_117 rfl ?_
                    refine y_istore 122 c125_121 rfl rfl ?_
                    refine y_iload 123 c125_122 rfl rfl ?_
                    refine y_if 130 126 c125_123 rfl rfl (yz_eq (by omega)) (fun hb11601 => ?_) (fun hb11601 => ?_)
                    · exfalso; omega
                    · refine y_aload 127 c125_126 rfl rfl rfl ?_
                      have es11603 : (yup mq11564 397 k.toNat (v11573 + 1)) 376 1 = m 376 1 := ((yup_na (by decide)).trans ((hFq11564 376 1 rfl).trans ((hFq11557 376 1 rfl).trans (hFi 376 1 rfl))))
                      have es11604 : (yup mq11564 397 k.toNat (v11573 + 1)) 376 3 = mq11557 376 3 := ((yup_na (by decide)).trans (hFq11564 376 3 rfl))
                      have es11605 : (yup mq11564 397 k.toNat (v11573 + 1)) 376 6 = mq11557 376 6 := ((yup_na (by decide)).trans (hFq11564 376 6 rfl))
                      have es11606 : (yup mq11564 397 k.toNat (v11573 + 1)) 376 8 = mq11557 376 8 := ((yup_na (by decide)).trans (hFq11564 376 8 rfl))
                      have em11607 : mu (yup mq11564 397 k.toNat (v11573 + 1)) = mu mq11557 := mu_fr ((yup_na (by decide)).trans (hFq11564 376 1 rfl)) ((yup_na (by decide)).trans (hFq11564 376 3 rfl)) ((yup_na (by decide)).trans (hFq11564 376 6 rfl))
                      refine y_callUB 130 [.ref 376] [] c125_127 rfl rfl rfl rfl rfl (ycanO km99 ko376) (t99u hT11575 (by omega)) (fun mq11602 nq11602 hq11602 => ?_)
                      obtain ⟨rfl, hTq11602, hFq11602, hq11602⟩ := hq11602
                      have x1q11602 : mq11602 376 1 = m 376 1 := ((hFq11602 376 1 rfl).trans ((yup_na (by decide)).trans ((hFq11564 376 1 rfl).trans ((hFq11557 376 1 rfl).trans (hFi 376 1 rfl)))))
                      have hF11608 := hF11576.tr hFq11602 wNx_wPz1
                      refine y_goto 7 c125_130 rfl ?_
                      have es11609 : mq11602 376 1 = m 376 1 := ((hFq11602 376 1 rfl).trans ((yup_na (by decide)).trans ((hFq11564 376 1 rfl).trans ((hFq11557 376 1 rfl).trans (hFi 376 1 rfl)))))
                      have tb11610 := hTq11602.atp 376 3 0 3 rfl
                      have tb11611 := hTq11602.atp 376 6 0 320 rfl
                      have es11612 : mq11602 376 8 = mq11557 376 8 := ((hFq11602 376 8 rfl).trans ((yup_na (by decide)).trans (hFq11564 376 8 rfl)))
                      have es11613 : mq11602 389 1 = mq11564 389 1 := ((hFq11602 389 1 rfl).trans (yup_na (by decide)))
                      have tb11614 := hTq11564.atp 389 1 0 48 rfl
                      have e9711615 : mq11602 397 k.toNat = v11573 + 1 := ((hFq11602 397 _ rfl).trans (yup_eq _ _ _ _))
                      exact ih (3 - mq11602 397 k.toNat).toNat (by omega) 1 _ _ _ _ (by omega) (by omega) hTq11602 hF11608 (by omega) (by omega) (by omega) (by omega) (fun q hq => ((hFq11602 397 q rfl).trans ((yup_nk hq).trans ((hFq11564 397 q rfl).trans ((hFq11557 397 q rfl).trans (hz q hq))))))
              · have es11616 : mq11557 376 1 = m 376 1 := ((hFq11557 376 1 rfl).trans (hFi 376 1 rfl))
                have tb11617 := hTq11557.atp 376 3 0 3 rfl
                have tb11618 := hTq11557.atp 376 6 0 320 rfl
                have tb11619 := hTq11557.atp 376 8 ((-1)) 320 rfl
                have es11620 : mq11557 389 1 = mi 389 1 := (hFq11557 389 1 rfl)
                have e9711621 : mq11557 397 k.toNat = mi 397 k.toNat := (hFq11557 397 _ rfl)
                exact y_retU c125_78 ⟨rfl, hTq11557, hF11562, by omega, by omega, fun q hq => ((hFq11557 397 q rfl).trans (hz q hq))⟩
set_option maxRecDepth 100000 in
theorem t125_1 {L : Nat} {xs : Nat → Int32} {d nn : Nat} {m : yM} {k : Int} (hT : Ty gT m) (hl : m 376 6 ≤ m 376 1) (hn : m 376 18 = 0) (hk : 10 ≤ k ∧ k < 20) (h8 : m 376 8 < 0) (hI : m 398 k.toNat + 2 + m 397 k.toNat = m 389 1 ∧ m 376 14 = m 398 k.toNat) (hs : m 397 k.toNat ≤ 1) : YC (gZ L xs) (d + 5) 125 [.ref 376, yI k] m nn (qU (fun m' n' => n' = nn ∧ Ty gT m' ∧ Fr wPz1 m m' ∧ m' 376 6 ≤ m' 376 1 ∧ (m 398 k.toNat + 2 + m' 397 k.toNat ≤ 48 ∧ (0 ≤ m' 376 8 ∨ (m' 376 8 < 0 ∧ mu m' ≤ mu m))) ∧ ∀ q, q ≠ k.toNat → m' 397 q = m 397 q)) := by
  have t97 := hT.atp 397 k.toNat 0 2 rfl
  refine YC.mkB [some (.ref 376), some (yI k), none, none, none, none, none] kn125 rfl rfl ?_
  refine y_aload 1 c125_0 rfl rfl rfl ?_
  have tb11623 := hT.atp 376 18 0 1 rfl
  refine y_callP 4 [.ref 376] [] c125_1 rfl rfl rfl rfl rfl (ycanO km96 ko376) (t96_1 (by omega)) (fun r11622 hr11622 => ?_)
  subst hr11622
  refine y_istore 5 c125_4 rfl rfl ?_
  refine y_iconst 6 c125_5 rfl ?_
  refine y_istore 7 c125_6 rfl rfl ?_
  exact t125a_1 hT hl hn hk h8 (3 - m 397 k.toNat).toNat 1 _ _ _ _ (by omega) (by omega) hT Fr.rf hl h8 (by omega) hI (fun q hq => rfl)
