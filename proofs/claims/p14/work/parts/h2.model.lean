/-! CONTRACTS: the model, statements. Printed by wip/whole/gen97.py -/
set_option maxRecDepth 100000 in
theorem t132_0 {L : Nat} {xs : Nat → Int32} {d nn : Nat} {m : yM} {v u b e : Int} (hT : Ty gT m) (hl : m 376 6 ≤ m 376 1) (hn : m 376 18 = 1) (h8 : m 376 8 < 0) (hX : XS 0 m) (h84 : 1 ≤ m 384 0) (h90 : m 390 0 ≤ 100) (hv : -1 ≤ v ∧ v ≤ 47) (hu : 0 ≤ u ∧ u ≤ 47) (hb : -2147483648 ≤ b ∧ b < 2147483648) (he : 0 ≤ e ∧ e ≤ 320) : YC (gZ L xs) (d + 5) 132 [.ref 376, yI v, yI u, yI b, yI e] m nn (qU (fun m' n' => n' = nn ∧ Ty gT m' ∧ Fr wSt0 m m' ∧ m' 376 6 ≤ m' 376 1 ∧ (0 ≤ m' 376 8 ∨ (m' 376 8 < 0 ∧ mu m' ≤ mu m ∧ m' 390 0 = m 390 0 + 1 ∧ XS 0 m')))) := by
  have tb8 := hT.atp 376 8 (-1) 320 rfl
  have tc384 := hT.atp 384 0 0 10 rfl
  have tc386 := hT.atp 386 0 0 12 rfl
  have tc387 := hT.atp 387 0 0 8 rfl
  have tc388 := hT.atp 388 0 0 12 rfl
  have tc389 := hT.atp 389 0 0 48 rfl
  have tc390 := hT.atp 390 0 0 125 rfl
  have hsc := hX.2.2.2.2.2
  have hCV := hX.2.2.2.2.2.2.2.1
  refine YC.mkB [some (.ref 376), some (yI v), some (yI u), some (yI b), some (yI e), none, none, none, none, none, none] kn132 rfl rfl ?_
  have hF : Fr wSt0 m m := Fr.rf
  refine y_aload 1 c132_0 rfl rfl rfl ?_
  have tb6887 := hT.atp 376 18 0 1 rfl
  refine y_callP 4 [.ref 376] [] c132_1 rfl rfl rfl rfl rfl (ycanO km96 ko376) (t96_0 (by omega)) (fun r6886 hr6886 => ?_)
  subst hr6886
  refine y_istore 6 c132_4 rfl rfl ?_
  refine y_aload 7 c132_6 rfl rfl rfl ?_
  refine y_getR 10 c132_7 rfl kf376_23 ?_
  refine y_iload 12 c132_10 rfl rfl ?_
  refine y_iaX 13 (m 386 0) c132_12 rfl ka386 (by decide) rfl ?_
  refine y_iconst 15 c132_13 rfl ?_
  refine y_icmp 25 18 c132_15 rfl rfl (yc_ne (by omega) (by omega)) (fun hb6888 => ?_) (fun hb6888 => ?_)
  · refine y_aload 26 c132_25 rfl rfl rfl ?_
    refine y_getR 29 c132_26 rfl kf376_23 ?_
    refine y_iload 31 c132_29 rfl rfl ?_
    refine y_iaX 32 (m 386 0) c132_31 rfl ka386 (by decide) rfl ?_
    refine y_istore 34 c132_32 rfl rfl ?_
    refine y_aload 35 c132_34 rfl rfl rfl ?_
    refine y_getR 38 c132_35 rfl kf376_23 ?_
    refine y_iload 40 c132_38 rfl rfl ?_
    refine y_dup2 41 c132_40 rfl ⟨rfl, rfl⟩ ?_
    refine y_iaX 42 (m 386 0) c132_41 rfl ka386 (by decide) rfl ?_
    refine y_iconst 43 c132_42 rfl ?_
    refine y_iadd 44 c132_43 rfl ?_
    refine y_iastore 45 c132_44 rfl ka386 (by omega) (y_nar0 _) ?_
    have hT6889 := hT.up 386 ((0 : Int).toNat) ((m 386 0) + 1) 0 12 rfl (by omega)
    have hF6890 := hF.up 386 ((0 : Int).toNat) ((m 386 0) + 1) rfl
    refine y_aload 46 c132_45 rfl rfl rfl ?_
    have es6892 : (yup m 386 ((0 : Int).toNat) ((m 386 0) + 1)) 376 1 = m 376 1 := rfl
    have tb6893 := hT.atp 376 1 0 320 rfl
    have es6894 : (yup m 386 ((0 : Int).toNat) ((m 386 0) + 1)) 376 3 = m 376 3 := rfl
    have tb6895 := hT.atp 376 3 0 3 rfl
    have es6896 : (yup m 386 ((0 : Int).toNat) ((m 386 0) + 1)) 376 6 = m 376 6 := rfl
    have tb6897 := hT.atp 376 6 0 320 rfl
    have es6898 : (yup m 386 ((0 : Int).toNat) ((m 386 0) + 1)) 376 8 = m 376 8 := rfl
    have tb6899 := hT.atp 376 8 ((-1)) 320 rfl
    have em6900 : mu (yup m 386 ((0 : Int).toNat) ((m 386 0) + 1)) = mu m := mu_fr (yup_na (by decide)) (yup_na (by decide)) (yup_na (by decide))
    refine y_callUB 49 [.ref 376] [] c132_46 rfl rfl rfl rfl rfl (ycanO km99 ko376) (t99u hT6889 (by omega)) (fun mq6891 nq6891 hq6891 => ?_)
    obtain ⟨rfl, hTq6891, hFq6891, hq6891⟩ := hq6891
    have x1q6891 : mq6891 376 1 = m 376 1 := ((hFq6891 376 1 rfl).trans (yup_na (by decide)))
    have hF6901 := hF6890.tr hFq6891 wNx_wSt0
    refine y_iconst 50 c132_49 rfl ?_
    refine y_istore 52 c132_50 rfl rfl ?_
    refine y_iconst 53 c132_52 rfl ?_
    refine y_istore 55 c132_53 rfl rfl ?_
    refine y_iconst 56 c132_55 rfl ?_
    refine y_istore 58 c132_56 rfl rfl ?_
    refine y_aload 59 c132_58 rfl rfl rfl ?_
    refine y_iconst 61 c132_59 rfl ?_
    have tb6902 := hTq6891.atp 376 3 0 3 rfl
    refine y_callP 64 [.ref 376, yI 41] [] c132_61 rfl rfl rfl rfl rfl (ycanO km117 ko376) (t117 hTq6891 (by omega)) (fun r6903 hr6903 => ?_)
    refine y_if 105 67 c132_64 rfl rfl (yz_ne (by omega)) (fun hb6904 => ?_) (fun hb6904 => ?_)
    · refine y_aload 106 c132_105 rfl rfl rfl ?_
      refine y_getX 109 (m 376 8) c132_106 rfl kf376_8 ((hFq6891 376 8 rfl).trans (yup_na (by decide))) ?_
      refine y_if 121 112 c132_109 rfl rfl (yz_ge (by omega)) (fun hb6905 => ?_) (fun hb6905 => ?_)
      · have es6906 : mq6891 376 1 = m 376 1 := ((hFq6891 376 1 rfl).trans (yup_na (by decide)))
        have tb6907 := hTq6891.atp 376 6 0 320 rfl
        have es6908 : mq6891 376 8 = m 376 8 := ((hFq6891 376 8 rfl).trans (yup_na (by decide)))
        exact y_retU c132_121 ⟨rfl, hTq6891, hF6901, by omega, Or.inl (by omega)⟩
      · refine y_aload 113 c132_112 rfl rfl rfl ?_
        refine y_iconst 115 c132_113 rfl ?_
        have es6910 : mq6891 376 1 = m 376 1 := ((hFq6891 376 1 rfl).trans (yup_na (by decide)))
        have tb6911 := hTq6891.atp 376 6 0 320 rfl
        have es6912 : mq6891 376 8 = m 376 8 := ((hFq6891 376 8 rfl).trans (yup_na (by decide)))
        refine y_callIB 118 [.ref 376, yI 41] [] c132_115 rfl rfl rfl rfl rfl (ycanO km118 ko376) (t118 hTq6891 (by omega) (by omega)) (fun rq6909 mq6909 nq6909 hq6909 => ?_)
        obtain ⟨rfl, hTq6909, hFq6909, hq6909⟩ := hq6909
        have x1q6909 : mq6909 376 1 = m 376 1 := ((hFq6909 376 1 rfl).trans ((hFq6891 376 1 rfl).trans (yup_na (by decide))))
        have hF6913 := hF6901.tr hFq6909 wNw_wSt0
        refine y_if 122 121 c132_118 rfl rfl (yz_ne (by omega)) (fun hb6914 => ?_) (fun hb6914 => ?_)
        · refine y_iconst 125 c132_122 rfl ?_
          refine y_iload 127 c132_125 rfl rfl ?_
          refine y_imul 128 c132_127 rfl ?_
          refine y_top 0 (by decide) ?_
          refine y_iconst 130 c132_128 rfl ?_
          refine y_aload 131 c132_130 rfl rfl rfl ?_
          refine y_iconst 133 c132_131 rfl ?_
          refine y_iload 134 c132_133 rfl rfl ?_
          refine y_iload 135 c132_134 rfl rfl ?_
          refine y_iload 136 c132_135 rfl rfl ?_
          have es6916 : mq6909 376 1 = m 376 1 := ((hFq6909 376 1 rfl).trans ((hFq6891 376 1 rfl).trans (yup_na (by decide))))
          have tb6917 := hTq6909.atp 376 3 0 3 rfl
          have tb6918 := hTq6909.atp 376 6 0 320 rfl
          have tb6919 := hTq6909.atp 376 8 ((-1)) 320 rfl
          have es6920 : mq6909 376 18 = m 376 18 := ((hFq6909 376 18 rfl).trans ((hFq6891 376 18 rfl).trans (yup_na (by decide))))
          have es6921 : mq6909 390 0 = m 390 0 := ((hFq6909 390 0 rfl).trans ((hFq6891 390 0 rfl).trans (yup_na (by decide))))
          have es6922 : mq6909 386 0 = (m 386 0) + 1 := ((hFq6909 386 0 rfl).trans ((hFq6891 386 0 rfl).trans (yup_eq _ _ _ _)))
          have es6923 : mq6909 387 0 = m 387 0 := ((hFq6909 387 0 rfl).trans ((hFq6891 387 0 rfl).trans (yup_na (by decide))))
          have es6924 : mq6909 388 0 = m 388 0 := ((hFq6909 388 0 rfl).trans ((hFq6891 388 0 rfl).trans (yup_na (by decide))))
          have es6925 : mq6909 376 17 = m 376 17 := ((hFq6909 376 17 rfl).trans ((hFq6891 376 17 rfl).trans (yup_na (by decide))))
          have tb6926 := hT.atp 376 17 0 20 rfl
          have es6927 : mq6909 384 0 = m 384 0 := ((hFq6909 384 0 rfl).trans ((hFq6891 384 0 rfl).trans (yup_na (by decide))))
          refine y_callIB 139 [.ref 376, yI 7, yI v, yI u, yI b] [yI 8, yI 0] c132_136 rfl rfl rfl rfl rfl (ycanO km127 ko376) (t127_0 hTq6909 (by omega) (by omega) (by omega) (by omega) (by omega) (by omega)) (fun rq6915 mq6915 nq6915 hq6915 => ?_)
          obtain ⟨rfl, hTq6915, hFq6915, hq6915, hE⟩ := hq6915
          unfold EM at hE
          rw [show mq6909 390 0 = m 390 0 from ((hFq6909 390 0 rfl).trans ((hFq6891 390 0 rfl).trans (yup_na (by decide))))] at hE
          obtain ⟨k1, k2, k3, k4, k5, k6, k7⟩ := hE
          have k8 : ∀ q, q < 1000 * 0 + 8 * (m 390 0).toNat ∨ 1000 * 0 + 8 * (m 390 0).toNat + 8 ≤ q → mq6915 403 q = m 403 q := fun q hq => (k7 q hq).trans (((hFq6909 403 q rfl).trans ((hFq6891 403 q rfl).trans (yup_na (by decide)))))
          have x1q6915 : mq6915 376 1 = m 376 1 := ((hFq6915 376 1 rfl).trans ((hFq6909 376 1 rfl).trans ((hFq6891 376 1 rfl).trans (yup_na (by decide)))))
          have hF6928 := hF6913.tr hFq6915 wEm0_wSt0
          refine y_imul 140 c132_139 rfl ?_
          refine y_iadd 141 c132_140 rfl ?_
          refine y_istore 143 c132_141 rfl rfl ?_
          refine y_aload 144 c132_143 rfl rfl rfl ?_
          refine y_getR 147 c132_144 rfl kf376_40 ?_
          refine y_iload 149 c132_147 rfl rfl ?_
          refine y_iconst 150 c132_149 rfl ?_
          refine y_iadd 151 c132_150 rfl ?_
          refine y_iconst 153 c132_151 rfl ?_
          refine y_iload 155 c132_153 rfl rfl ?_
          refine y_imul 156 c132_155 rfl ?_
          refine y_iload 158 c132_156 rfl rfl ?_
          refine y_iadd 159 c132_158 rfl ?_
          refine y_iastore 160 c132_159 rfl ka403 (by omega) (y_nar0 _) ?_
          have hT6929 := hTq6915.up 403 (((0 + (8 * rq6915)) + 5).toNat) ((16 * (m 386 0)) + 0) ((-2147483648)) 2147483647 rfl (by omega)
          have hF6930 := hF6928.up 403 (((0 + (8 * rq6915)) + 5).toNat) ((16 * (m 386 0)) + 0) (wSt0_403 (by omega))
          refine y_aload 161 c132_160 rfl rfl rfl ?_
          refine y_getR 164 c132_161 rfl kf376_40 ?_
          refine y_iload 166 c132_164 rfl rfl ?_
          refine y_iconst 168 c132_166 rfl ?_
          refine y_iadd 169 c132_168 rfl ?_
          refine y_iload 171 c132_169 rfl rfl ?_
          refine y_iastore 172 c132_171 rfl ka403 (by omega) (y_nar0 _) ?_
          have hT6931 := hT6929.up 403 (((0 + (8 * rq6915)) + 6).toNat) ((-1)) ((-2147483648)) 2147483647 rfl (by omega)
          have hF6932 := hF6930.up 403 (((0 + (8 * rq6915)) + 6).toNat) ((-1)) (wSt0_403 (by omega))
          refine y_aload 173 c132_172 rfl rfl rfl ?_
          refine y_getR 176 c132_173 rfl kf376_40 ?_
          refine y_iload 178 c132_176 rfl rfl ?_
          refine y_iconst 180 c132_178 rfl ?_
          refine y_iadd 181 c132_180 rfl ?_
          refine y_iload 183 c132_181 rfl rfl ?_
          refine y_iastore 184 c132_183 rfl ka403 (by omega) (y_nar0 _) ?_
          have hT6933 := hT6931.up 403 (((0 + (8 * rq6915)) + 7).toNat) ((-1)) ((-2147483648)) 2147483647 rfl (by omega)
          have hF6934 := hF6932.up 403 (((0 + (8 * rq6915)) + 7).toNat) ((-1)) (wSt0_403 (by omega))
          have es6935 : (yup (yup (yup mq6915 403 (((0 + (8 * rq6915)) + 5).toNat) ((16 * (m 386 0)) + 0)) 403 (((0 + (8 * rq6915)) + 6).toNat) ((-1))) 403 (((0 + (8 * rq6915)) + 7).toNat) ((-1))) 376 1 = m 376 1 := ((yup_na (by decide)).trans ((yup_na (by decide)).trans ((yup_na (by decide)).trans ((hFq6915 376 1 rfl).trans ((hFq6909 376 1 rfl).trans ((hFq6891 376 1 rfl).trans (yup_na (by decide))))))))
          have es6936 : (yup (yup (yup mq6915 403 (((0 + (8 * rq6915)) + 5).toNat) ((16 * (m 386 0)) + 0)) 403 (((0 + (8 * rq6915)) + 6).toNat) ((-1))) 403 (((0 + (8 * rq6915)) + 7).toNat) ((-1))) 376 3 = mq6909 376 3 := ((yup_na (by decide)).trans ((yup_na (by decide)).trans ((yup_na (by decide)).trans (hFq6915 376 3 rfl))))
          have es6937 : (yup (yup (yup mq6915 403 (((0 + (8 * rq6915)) + 5).toNat) ((16 * (m 386 0)) + 0)) 403 (((0 + (8 * rq6915)) + 6).toNat) ((-1))) 403 (((0 + (8 * rq6915)) + 7).toNat) ((-1))) 376 6 = mq6909 376 6 := ((yup_na (by decide)).trans ((yup_na (by decide)).trans ((yup_na (by decide)).trans (hFq6915 376 6 rfl))))
          have es6938 : (yup (yup (yup mq6915 403 (((0 + (8 * rq6915)) + 5).toNat) ((16 * (m 386 0)) + 0)) 403 (((0 + (8 * rq6915)) + 6).toNat) ((-1))) 403 (((0 + (8 * rq6915)) + 7).toNat) ((-1))) 376 8 = mq6909 376 8 := ((yup_na (by decide)).trans ((yup_na (by decide)).trans ((yup_na (by decide)).trans (hFq6915 376 8 rfl))))
          have es6939 : (yup (yup (yup mq6915 403 (((0 + (8 * rq6915)) + 5).toNat) ((16 * (m 386 0)) + 0)) 403 (((0 + (8 * rq6915)) + 6).toNat) ((-1))) 403 (((0 + (8 * rq6915)) + 7).toNat) ((-1))) 390 0 = mq6915 390 0 := rfl
          have tb6940 := hTq6915.atp 390 0 0 125 rfl
          have es6941 : (yup (yup (yup mq6915 403 (((0 + (8 * rq6915)) + 5).toNat) ((16 * (m 386 0)) + 0)) 403 (((0 + (8 * rq6915)) + 6).toNat) ((-1))) 403 (((0 + (8 * rq6915)) + 7).toNat) ((-1))) 386 0 = (m 386 0) + 1 := ((yup_na (by decide)).trans ((yup_na (by decide)).trans ((yup_na (by decide)).trans ((hFq6915 386 0 rfl).trans ((hFq6909 386 0 rfl).trans ((hFq6891 386 0 rfl).trans (yup_eq _ _ _ _)))))))
          have es6942 : (yup (yup (yup mq6915 403 (((0 + (8 * rq6915)) + 5).toNat) ((16 * (m 386 0)) + 0)) 403 (((0 + (8 * rq6915)) + 6).toNat) ((-1))) 403 (((0 + (8 * rq6915)) + 7).toNat) ((-1))) 387 0 = m 387 0 := ((yup_na (by decide)).trans ((yup_na (by decide)).trans ((yup_na (by decide)).trans ((hFq6915 387 0 rfl).trans ((hFq6909 387 0 rfl).trans ((hFq6891 387 0 rfl).trans (yup_na (by decide))))))))
          have es6943 : (yup (yup (yup mq6915 403 (((0 + (8 * rq6915)) + 5).toNat) ((16 * (m 386 0)) + 0)) 403 (((0 + (8 * rq6915)) + 6).toNat) ((-1))) 403 (((0 + (8 * rq6915)) + 7).toNat) ((-1))) 388 0 = m 388 0 := ((yup_na (by decide)).trans ((yup_na (by decide)).trans ((yup_na (by decide)).trans ((hFq6915 388 0 rfl).trans ((hFq6909 388 0 rfl).trans ((hFq6891 388 0 rfl).trans (yup_na (by decide))))))))
          have es6944 : (yup (yup (yup mq6915 403 (((0 + (8 * rq6915)) + 5).toNat) ((16 * (m 386 0)) + 0)) 403 (((0 + (8 * rq6915)) + 6).toNat) ((-1))) 403 (((0 + (8 * rq6915)) + 7).toNat) ((-1))) 376 17 = m 376 17 := ((yup_na (by decide)).trans ((yup_na (by decide)).trans ((yup_na (by decide)).trans ((hFq6915 376 17 rfl).trans ((hFq6909 376 17 rfl).trans ((hFq6891 376 17 rfl).trans (yup_na (by decide))))))))
          have es6945 : (yup (yup (yup mq6915 403 (((0 + (8 * rq6915)) + 5).toNat) ((16 * (m 386 0)) + 0)) 403 (((0 + (8 * rq6915)) + 6).toNat) ((-1))) 403 (((0 + (8 * rq6915)) + 7).toNat) ((-1))) 384 0 = m 384 0 := ((yup_na (by decide)).trans ((yup_na (by decide)).trans ((yup_na (by decide)).trans ((hFq6915 384 0 rfl).trans ((hFq6909 384 0 rfl).trans ((hFq6891 384 0 rfl).trans (yup_na (by decide))))))))
          have em6946 : mu (yup (yup (yup mq6915 403 (((0 + (8 * rq6915)) + 5).toNat) ((16 * (m 386 0)) + 0)) 403 (((0 + (8 * rq6915)) + 6).toNat) ((-1))) 403 (((0 + (8 * rq6915)) + 7).toNat) ((-1))) = mu mq6909 := mu_fr ((yup_na (by decide)).trans ((yup_na (by decide)).trans ((yup_na (by decide)).trans (hFq6915 376 1 rfl)))) ((yup_na (by decide)).trans ((yup_na (by decide)).trans ((yup_na (by decide)).trans (hFq6915 376 3 rfl)))) ((yup_na (by decide)).trans ((yup_na (by decide)).trans ((yup_na (by decide)).trans (hFq6915 376 6 rfl))))
          have f0 : (yup (yup (yup mq6915 403 (((0 + (8 * rq6915)) + 5).toNat) ((16 * (m 386 0)) + 0)) 403 (((0 + (8 * rq6915)) + 6).toNat) ((-1))) 403 (((0 + (8 * rq6915)) + 7).toNat) ((-1))) 403 (1000 * 0 + 8 * (m 390 0).toNat) = _ := ((yup_nk (by omega)).trans ((yup_nk (by omega)).trans (yup_nk (by omega)))).trans k2
          have f1 : (yup (yup (yup mq6915 403 (((0 + (8 * rq6915)) + 5).toNat) ((16 * (m 386 0)) + 0)) 403 (((0 + (8 * rq6915)) + 6).toNat) ((-1))) 403 (((0 + (8 * rq6915)) + 7).toNat) ((-1))) 403 (1000 * 0 + 8 * (m 390 0).toNat + 1) = _ := ((yup_nk (by omega)).trans ((yup_nk (by omega)).trans (yup_nk (by omega)))).trans k3
          have f2 : (yup (yup (yup mq6915 403 (((0 + (8 * rq6915)) + 5).toNat) ((16 * (m 386 0)) + 0)) 403 (((0 + (8 * rq6915)) + 6).toNat) ((-1))) 403 (((0 + (8 * rq6915)) + 7).toNat) ((-1))) 403 (1000 * 0 + 8 * (m 390 0).toNat + 2) = _ := ((yup_nk (by omega)).trans ((yup_nk (by omega)).trans (yup_nk (by omega)))).trans k4
          have f3 : (yup (yup (yup mq6915 403 (((0 + (8 * rq6915)) + 5).toNat) ((16 * (m 386 0)) + 0)) 403 (((0 + (8 * rq6915)) + 6).toNat) ((-1))) 403 (((0 + (8 * rq6915)) + 7).toNat) ((-1))) 403 (1000 * 0 + 8 * (m 390 0).toNat + 3) = _ := ((yup_nk (by omega)).trans ((yup_nk (by omega)).trans (yup_nk (by omega)))).trans k5
          have f4 : (yup (yup (yup mq6915 403 (((0 + (8 * rq6915)) + 5).toNat) ((16 * (m 386 0)) + 0)) 403 (((0 + (8 * rq6915)) + 6).toNat) ((-1))) 403 (((0 + (8 * rq6915)) + 7).toNat) ((-1))) 403 (1000 * 0 + 8 * (m 390 0).toNat + 4) = _ := ((yup_nk (by omega)).trans ((yup_nk (by omega)).trans (yup_nk (by omega)))).trans k6
          have f5 : (yup (yup (yup mq6915 403 (((0 + (8 * rq6915)) + 5).toNat) ((16 * (m 386 0)) + 0)) 403 (((0 + (8 * rq6915)) + 6).toNat) ((-1))) 403 (((0 + (8 * rq6915)) + 7).toNat) ((-1))) 403 (1000 * 0 + 8 * (m 390 0).toNat + 5) = (16 * (m 386 0)) + 0 := by rw [show 1000 * 0 + 8 * (m 390 0).toNat + 5 = (0 + 8 * rq6915 + 5).toNat by omega]; repeat (first | rw [yup_eq] | rw [yup_na (by omega)] | rw [yup_nk (by omega)])
          have f6 : (yup (yup (yup mq6915 403 (((0 + (8 * rq6915)) + 5).toNat) ((16 * (m 386 0)) + 0)) 403 (((0 + (8 * rq6915)) + 6).toNat) ((-1))) 403 (((0 + (8 * rq6915)) + 7).toNat) ((-1))) 403 (1000 * 0 + 8 * (m 390 0).toNat + 6) = (-1) := by rw [show 1000 * 0 + 8 * (m 390 0).toNat + 6 = (0 + 8 * rq6915 + 6).toNat by omega]; repeat (first | rw [yup_eq] | rw [yup_na (by omega)] | rw [yup_nk (by omega)])
          have f7 : (yup (yup (yup mq6915 403 (((0 + (8 * rq6915)) + 5).toNat) ((16 * (m 386 0)) + 0)) 403 (((0 + (8 * rq6915)) + 6).toNat) ((-1))) 403 (((0 + (8 * rq6915)) + 7).toNat) ((-1))) 403 (1000 * 0 + 8 * (m 390 0).toNat + 7) = (-1) := by rw [show 1000 * 0 + 8 * (m 390 0).toNat + 7 = (0 + 8 * rq6915 + 7).toNat by omega]; repeat (first | rw [yup_eq] | rw [yup_na (by omega)] | rw [yup_nk (by omega)])
          have hw : OW (yup (yup (yup mq6915 403 (((0 + (8 * rq6915)) + 5).toNat) ((16 * (m 386 0)) + 0)) 403 (((0 + (8 * rq6915)) + 6).toNat) ((-1))) 403 (((0 + (8 * rq6915)) + 7).toNat) ((-1))) (1000 * 0 + 8 * (m 390 0).toNat) := by unfold OW; omega
          have hx : XS 0 (yup (yup (yup mq6915 403 (((0 + (8 * rq6915)) + 5).toNat) ((16 * (m 386 0)) + 0)) 403 (((0 + (8 * rq6915)) + 6).toNat) ((-1))) 403 (((0 + (8 * rq6915)) + 7).toNat) ((-1))) := XS.add hX (by omega) (fun a q ha => hF6934 a q (wSt0_Y a q ha)) (fun q hq => ((yup_nk (by omega)).trans ((yup_nk (by omega)).trans (yup_nk (by omega)))).trans (k8 q hq)) hw (by omega) (by omega) (by omega) (by omega) (by omega) (by omega) (by omega) (fun c hc => by rw [show (yup (yup (yup mq6915 403 (((0 + (8 * rq6915)) + 5).toNat) ((16 * (m 386 0)) + 0)) 403 (((0 + (8 * rq6915)) + 6).toNat) ((-1))) 403 (((0 + (8 * rq6915)) + 7).toNat) ((-1))) 401 (8 * 0 + c) = m 401 (8 * 0 + c) from ((yup_na (by decide)).trans ((yup_na (by decide)).trans ((yup_na (by decide)).trans ((hFq6915 401 _ rfl).trans ((hFq6909 401 _ rfl).trans ((hFq6891 401 _ rfl).trans (yup_na (by decide))))))))]; exact hCV c (by omega)) (by omega) (by omega)
          exact y_retU c132_184 ⟨rfl, hT6933, hF6934, by omega, Or.inr ⟨by omega, by omega, by omega, hx⟩⟩
        · have es6947 : mq6909 376 1 = m 376 1 := ((hFq6909 376 1 rfl).trans ((hFq6891 376 1 rfl).trans (yup_na (by decide))))
          have tb6948 := hTq6909.atp 376 3 0 3 rfl
          have tb6949 := hTq6909.atp 376 6 0 320 rfl
          have tb6950 := hTq6909.atp 376 8 ((-1)) 320 rfl
          exact y_retU c132_121 ⟨rfl, hTq6909, hF6913, by omega, Or.inl (by omega)⟩
    · refine y_aload 68 c132_67 rfl rfl rfl ?_
      have es6952 : mq6891 376 1 = m 376 1 := ((hFq6891 376 1 rfl).trans (yup_na (by decide)))
      have tb6953 := hTq6891.atp 376 6 0 320 rfl
      have es6954 : mq6891 376 8 = m 376 8 := ((hFq6891 376 8 rfl).trans (yup_na (by decide)))
      have es6955 : mq6891 376 18 = m 376 18 := ((hFq6891 376 18 rfl).trans (yup_na (by decide)))
      refine y_callIB 71 [.ref 376] [] c132_68 rfl rfl rfl rfl rfl (ycanO km130 ko376) (t130_0 hTq6891 (by omega) (by omega) (by omega)) (fun rq6951 mq6951 nq6951 hq6951 => ?_)
      obtain ⟨rfl, hTq6951, hFq6951, hq6951⟩ := hq6951
      have x1q6951 : mq6951 376 1 = m 376 1 := ((hFq6951 376 1 rfl).trans ((hFq6891 376 1 rfl).trans (yup_na (by decide))))
      have hF6956 := hF6901.tr hFq6951 wVr0_wSt0
      refine y_istore 73 c132_71 rfl rfl ?_
      refine y_iconst 74 c132_73 rfl ?_
      refine y_istore 76 c132_74 rfl rfl ?_
      refine y_aload 77 c132_76 rfl rfl rfl ?_
      refine y_getX 80 (mq6951 376 8) c132_77 rfl kf376_8 rfl ?_
      have tb6957 := hTq6951.atp 376 8 ((-1)) 320 rfl
      refine y_if 105 83 c132_80 rfl rfl (yz_ge (by omega)) (fun hb6958 => ?_) (fun hb6958 => ?_)
      · refine y_aload 106 c132_105 rfl rfl rfl ?_
        refine y_getX 109 (mq6951 376 8) c132_106 rfl kf376_8 rfl ?_
        refine y_if 121 112 c132_109 rfl rfl (yz_ge (by omega)) (fun hb6959 => ?_) (fun hb6959 => ?_)
        · have es6960 : mq6951 376 1 = m 376 1 := ((hFq6951 376 1 rfl).trans ((hFq6891 376 1 rfl).trans (yup_na (by decide))))
          have tb6961 := hTq6951.atp 376 3 0 3 rfl
          have tb6962 := hTq6951.atp 376 6 0 320 rfl
          exact y_retU c132_121 ⟨rfl, hTq6951, hF6956, by omega, Or.inl (by omega)⟩
        · exfalso; omega
      · refine y_aload 84 c132_83 rfl rfl rfl ?_
        refine y_iconst 86 c132_84 rfl ?_
        have tb6963 := hTq6951.atp 376 3 0 3 rfl
        refine y_callP 89 [.ref 376, yI 44] [] c132_86 rfl rfl rfl rfl rfl (ycanO km117 ko376) (t117 hTq6951 (by omega)) (fun r6964 hr6964 => ?_)
        refine y_if 105 92 c132_89 rfl rfl (yz_eq (by omega)) (fun hb6965 => ?_) (fun hb6965 => ?_)
        · refine y_aload 106 c132_105 rfl rfl rfl ?_
          refine y_getX 109 (mq6951 376 8) c132_106 rfl kf376_8 rfl ?_
          refine y_top ((-1)) (by omega) ?_
          refine y_if 121 112 c132_109 rfl rfl (yz_ge (by omega)) (fun hb6966 => ?_) (fun hb6966 => ?_)
          · exfalso; omega
          · refine y_aload 113 c132_112 rfl rfl rfl ?_
            refine y_iconst 115 c132_113 rfl ?_
            have es6968 : mq6951 376 1 = m 376 1 := ((hFq6951 376 1 rfl).trans ((hFq6891 376 1 rfl).trans (yup_na (by decide))))
            have tb6969 := hTq6951.atp 376 6 0 320 rfl
            refine y_callIB 118 [.ref 376, yI 41] [] c132_115 rfl rfl rfl rfl rfl (ycanO km118 ko376) (t118 hTq6951 (by omega) (by omega)) (fun rq6967 mq6967 nq6967 hq6967 => ?_)
            obtain ⟨rfl, hTq6967, hFq6967, hq6967⟩ := hq6967
            have x1q6967 : mq6967 376 1 = m 376 1 := ((hFq6967 376 1 rfl).trans ((hFq6951 376 1 rfl).trans ((hFq6891 376 1 rfl).trans (yup_na (by decide)))))
            have hF6970 := hF6956.tr hFq6967 wNw_wSt0
            refine y_if 122 121 c132_118 rfl rfl (yz_ne (by omega)) (fun hb6971 => ?_) (fun hb6971 => ?_)
            · refine y_iconst 125 c132_122 rfl ?_
              refine y_iload 127 c132_125 rfl rfl ?_
              refine y_imul 128 c132_127 rfl ?_
              refine y_top 0 (by decide) ?_
              refine y_iconst 130 c132_128 rfl ?_
              refine y_aload 131 c132_130 rfl rfl rfl ?_
              refine y_iconst 133 c132_131 rfl ?_
              refine y_iload 134 c132_133 rfl rfl ?_
              refine y_iload 135 c132_134 rfl rfl ?_
              refine y_iload 136 c132_135 rfl rfl ?_
              have es6973 : mq6967 376 1 = m 376 1 := ((hFq6967 376 1 rfl).trans ((hFq6951 376 1 rfl).trans ((hFq6891 376 1 rfl).trans (yup_na (by decide)))))
              have tb6974 := hTq6967.atp 376 3 0 3 rfl
              have tb6975 := hTq6967.atp 376 6 0 320 rfl
              have tb6976 := hTq6967.atp 376 8 ((-1)) 320 rfl
              have es6977 : mq6967 376 18 = m 376 18 := ((hFq6967 376 18 rfl).trans ((hFq6951 376 18 rfl).trans ((hFq6891 376 18 rfl).trans (yup_na (by decide)))))
              have es6978 : mq6967 390 0 = m 390 0 := ((hFq6967 390 0 rfl).trans ((hFq6951 390 0 rfl).trans ((hFq6891 390 0 rfl).trans (yup_na (by decide)))))
              have es6979 : mq6967 386 0 = (m 386 0) + 1 := ((hFq6967 386 0 rfl).trans ((hFq6951 386 0 rfl).trans ((hFq6891 386 0 rfl).trans (yup_eq _ _ _ _))))
              have es6980 : mq6967 387 0 = m 387 0 := ((hFq6967 387 0 rfl).trans ((hFq6951 387 0 rfl).trans ((hFq6891 387 0 rfl).trans (yup_na (by decide)))))
              have es6981 : mq6967 388 0 = m 388 0 := ((hFq6967 388 0 rfl).trans ((hFq6951 388 0 rfl).trans ((hFq6891 388 0 rfl).trans (yup_na (by decide)))))
              have es6982 : mq6967 376 17 = m 376 17 := ((hFq6967 376 17 rfl).trans ((hFq6951 376 17 rfl).trans ((hFq6891 376 17 rfl).trans (yup_na (by decide)))))
              have tb6983 := hT.atp 376 17 0 20 rfl
              have es6984 : mq6967 384 0 = m 384 0 := ((hFq6967 384 0 rfl).trans ((hFq6951 384 0 rfl).trans ((hFq6891 384 0 rfl).trans (yup_na (by decide)))))
              refine y_callIB 139 [.ref 376, yI 7, yI v, yI u, yI b] [yI 8, yI 0] c132_136 rfl rfl rfl rfl rfl (ycanO km127 ko376) (t127_0 hTq6967 (by omega) (by omega) (by omega) (by omega) (by omega) (by omega)) (fun rq6972 mq6972 nq6972 hq6972 => ?_)
              obtain ⟨rfl, hTq6972, hFq6972, hq6972, hE⟩ := hq6972
              unfold EM at hE
              rw [show mq6967 390 0 = m 390 0 from ((hFq6967 390 0 rfl).trans ((hFq6951 390 0 rfl).trans ((hFq6891 390 0 rfl).trans (yup_na (by decide)))))] at hE
              obtain ⟨k1, k2, k3, k4, k5, k6, k7⟩ := hE
              have k8 : ∀ q, q < 1000 * 0 + 8 * (m 390 0).toNat ∨ 1000 * 0 + 8 * (m 390 0).toNat + 8 ≤ q → mq6972 403 q = m 403 q := fun q hq => (k7 q hq).trans (((hFq6967 403 q rfl).trans ((hFq6951 403 q rfl).trans ((hFq6891 403 q rfl).trans (yup_na (by decide))))))
              have x1q6972 : mq6972 376 1 = m 376 1 := ((hFq6972 376 1 rfl).trans ((hFq6967 376 1 rfl).trans ((hFq6951 376 1 rfl).trans ((hFq6891 376 1 rfl).trans (yup_na (by decide))))))
              have hF6985 := hF6970.tr hFq6972 wEm0_wSt0
              refine y_imul 140 c132_139 rfl ?_
              refine y_iadd 141 c132_140 rfl ?_
              refine y_istore 143 c132_141 rfl rfl ?_
              refine y_aload 144 c132_143 rfl rfl rfl ?_
              refine y_getR 147 c132_144 rfl kf376_40 ?_
              refine y_iload 149 c132_147 rfl rfl ?_
              refine y_iconst 150 c132_149 rfl ?_
              refine y_iadd 151 c132_150 rfl ?_
              refine y_iconst 153 c132_151 rfl ?_
              refine y_iload 155 c132_153 rfl rfl ?_
              refine y_imul 156 c132_155 rfl ?_
              refine y_iload 158 c132_156 rfl rfl ?_
              refine y_iadd 159 c132_158 rfl ?_
              refine y_iastore 160 c132_159 rfl ka403 (by omega) (y_nar0 _) ?_
              have hT6986 := hTq6972.up 403 (((0 + (8 * rq6972)) + 5).toNat) ((16 * (m 386 0)) + 1) ((-2147483648)) 2147483647 rfl (by omega)
              have hF6987 := hF6985.up 403 (((0 + (8 * rq6972)) + 5).toNat) ((16 * (m 386 0)) + 1) (wSt0_403 (by omega))
              refine y_aload 161 c132_160 rfl rfl rfl ?_
              refine y_getR 164 c132_161 rfl kf376_40 ?_
              refine y_iload 166 c132_164 rfl rfl ?_
              refine y_iconst 168 c132_166 rfl ?_
              refine y_iadd 169 c132_168 rfl ?_
              refine y_iload 171 c132_169 rfl rfl ?_
              refine y_iastore 172 c132_171 rfl ka403 (by omega) (y_nar0 _) ?_
              have hT6988 := hT6986.up 403 (((0 + (8 * rq6972)) + 6).toNat) rq6951 ((-2147483648)) 2147483647 rfl (by omega)
              have hF6989 := hF6987.up 403 (((0 + (8 * rq6972)) + 6).toNat) rq6951 (wSt0_403 (by omega))
              refine y_aload 173 c132_172 rfl rfl rfl ?_
              refine y_getR 176 c132_173 rfl kf376_40 ?_
              refine y_iload 178 c132_176 rfl rfl ?_
              refine y_iconst 180 c132_178 rfl ?_
              refine y_iadd 181 c132_180 rfl ?_
              refine y_iload 183 c132_181 rfl rfl ?_
              refine y_iastore 184 c132_183 rfl ka403 (by omega) (y_nar0 _) ?_
              have hT6990 := hT6988.up 403 (((0 + (8 * rq6972)) + 7).toNat) ((-1)) ((-2147483648)) 2147483647 rfl (by omega)
              have hF6991 := hF6989.up 403 (((0 + (8 * rq6972)) + 7).toNat) ((-1)) (wSt0_403 (by omega))
              have es6992 : (yup (yup (yup mq6972 403 (((0 + (8 * rq6972)) + 5).toNat) ((16 * (m 386 0)) + 1)) 403 (((0 + (8 * rq6972)) + 6).toNat) rq6951) 403 (((0 + (8 * rq6972)) + 7).toNat) ((-1))) 376 1 = m 376 1 := ((yup_na (by decide)).trans ((yup_na (by decide)).trans ((yup_na (by decide)).trans ((hFq6972 376 1 rfl).trans ((hFq6967 376 1 rfl).trans ((hFq6951 376 1 rfl).trans ((hFq6891 376 1 rfl).trans (yup_na (by decide)))))))))
              have es6993 : (yup (yup (yup mq6972 403 (((0 + (8 * rq6972)) + 5).toNat) ((16 * (m 386 0)) + 1)) 403 (((0 + (8 * rq6972)) + 6).toNat) rq6951) 403 (((0 + (8 * rq6972)) + 7).toNat) ((-1))) 376 3 = mq6967 376 3 := ((yup_na (by decide)).trans ((yup_na (by decide)).trans ((yup_na (by decide)).trans (hFq6972 376 3 rfl))))
              have es6994 : (yup (yup (yup mq6972 403 (((0 + (8 * rq6972)) + 5).toNat) ((16 * (m 386 0)) + 1)) 403 (((0 + (8 * rq6972)) + 6).toNat) rq6951) 403 (((0 + (8 * rq6972)) + 7).toNat) ((-1))) 376 6 = mq6967 376 6 := ((yup_na (by decide)).trans ((yup_na (by decide)).trans ((yup_na (by decide)).trans (hFq6972 376 6 rfl))))
              have es6995 : (yup (yup (yup mq6972 403 (((0 + (8 * rq6972)) + 5).toNat) ((16 * (m 386 0)) + 1)) 403 (((0 + (8 * rq6972)) + 6).toNat) rq6951) 403 (((0 + (8 * rq6972)) + 7).toNat) ((-1))) 376 8 = mq6967 376 8 := ((yup_na (by decide)).trans ((yup_na (by decide)).trans ((yup_na (by decide)).trans (hFq6972 376 8 rfl))))
              have es6996 : (yup (yup (yup mq6972 403 (((0 + (8 * rq6972)) + 5).toNat) ((16 * (m 386 0)) + 1)) 403 (((0 + (8 * rq6972)) + 6).toNat) rq6951) 403 (((0 + (8 * rq6972)) + 7).toNat) ((-1))) 390 0 = mq6972 390 0 := rfl
              have tb6997 := hTq6972.atp 390 0 0 125 rfl
              have es6998 : (yup (yup (yup mq6972 403 (((0 + (8 * rq6972)) + 5).toNat) ((16 * (m 386 0)) + 1)) 403 (((0 + (8 * rq6972)) + 6).toNat) rq6951) 403 (((0 + (8 * rq6972)) + 7).toNat) ((-1))) 386 0 = (m 386 0) + 1 := ((yup_na (by decide)).trans ((yup_na (by decide)).trans ((yup_na (by decide)).trans ((hFq6972 386 0 rfl).trans ((hFq6967 386 0 rfl).trans ((hFq6951 386 0 rfl).trans ((hFq6891 386 0 rfl).trans (yup_eq _ _ _ _))))))))
              have es6999 : (yup (yup (yup mq6972 403 (((0 + (8 * rq6972)) + 5).toNat) ((16 * (m 386 0)) + 1)) 403 (((0 + (8 * rq6972)) + 6).toNat) rq6951) 403 (((0 + (8 * rq6972)) + 7).toNat) ((-1))) 387 0 = m 387 0 := ((yup_na (by decide)).trans ((yup_na (by decide)).trans ((yup_na (by decide)).trans ((hFq6972 387 0 rfl).trans ((hFq6967 387 0 rfl).trans ((hFq6951 387 0 rfl).trans ((hFq6891 387 0 rfl).trans (yup_na (by decide)))))))))
              have es7000 : (yup (yup (yup mq6972 403 (((0 + (8 * rq6972)) + 5).toNat) ((16 * (m 386 0)) + 1)) 403 (((0 + (8 * rq6972)) + 6).toNat) rq6951) 403 (((0 + (8 * rq6972)) + 7).toNat) ((-1))) 388 0 = m 388 0 := ((yup_na (by decide)).trans ((yup_na (by decide)).trans ((yup_na (by decide)).trans ((hFq6972 388 0 rfl).trans ((hFq6967 388 0 rfl).trans ((hFq6951 388 0 rfl).trans ((hFq6891 388 0 rfl).trans (yup_na (by decide)))))))))
              have es7001 : (yup (yup (yup mq6972 403 (((0 + (8 * rq6972)) + 5).toNat) ((16 * (m 386 0)) + 1)) 403 (((0 + (8 * rq6972)) + 6).toNat) rq6951) 403 (((0 + (8 * rq6972)) + 7).toNat) ((-1))) 376 17 = m 376 17 := ((yup_na (by decide)).trans ((yup_na (by decide)).trans ((yup_na (by decide)).trans ((hFq6972 376 17 rfl).trans ((hFq6967 376 17 rfl).trans ((hFq6951 376 17 rfl).trans ((hFq6891 376 17 rfl).trans (yup_na (by decide)))))))))
              have es7002 : (yup (yup (yup mq6972 403 (((0 + (8 * rq6972)) + 5).toNat) ((16 * (m 386 0)) + 1)) 403 (((0 + (8 * rq6972)) + 6).toNat) rq6951) 403 (((0 + (8 * rq6972)) + 7).toNat) ((-1))) 384 0 = m 384 0 := ((yup_na (by decide)).trans ((yup_na (by decide)).trans ((yup_na (by decide)).trans ((hFq6972 384 0 rfl).trans ((hFq6967 384 0 rfl).trans ((hFq6951 384 0 rfl).trans ((hFq6891 384 0 rfl).trans (yup_na (by decide)))))))))
              have em7003 : mu (yup (yup (yup mq6972 403 (((0 + (8 * rq6972)) + 5).toNat) ((16 * (m 386 0)) + 1)) 403 (((0 + (8 * rq6972)) + 6).toNat) rq6951) 403 (((0 + (8 * rq6972)) + 7).toNat) ((-1))) = mu mq6967 := mu_fr ((yup_na (by decide)).trans ((yup_na (by decide)).trans ((yup_na (by decide)).trans (hFq6972 376 1 rfl)))) ((yup_na (by decide)).trans ((yup_na (by decide)).trans ((yup_na (by decide)).trans (hFq6972 376 3 rfl)))) ((yup_na (by decide)).trans ((yup_na (by decide)).trans ((yup_na (by decide)).trans (hFq6972 376 6 rfl))))
              have f0 : (yup (yup (yup mq6972 403 (((0 + (8 * rq6972)) + 5).toNat) ((16 * (m 386 0)) + 1)) 403 (((0 + (8 * rq6972)) + 6).toNat) rq6951) 403 (((0 + (8 * rq6972)) + 7).toNat) ((-1))) 403 (1000 * 0 + 8 * (m 390 0).toNat) = _ := ((yup_nk (by omega)).trans ((yup_nk (by omega)).trans (yup_nk (by omega)))).trans k2
              have f1 : (yup (yup (yup mq6972 403 (((0 + (8 * rq6972)) + 5).toNat) ((16 * (m 386 0)) + 1)) 403 (((0 + (8 * rq6972)) + 6).toNat) rq6951) 403 (((0 + (8 * rq6972)) + 7).toNat) ((-1))) 403 (1000 * 0 + 8 * (m 390 0).toNat + 1) = _ := ((yup_nk (by omega)).trans ((yup_nk (by omega)).trans (yup_nk (by omega)))).trans k3
              have f2 : (yup (yup (yup mq6972 403 (((0 + (8 * rq6972)) + 5).toNat) ((16 * (m 386 0)) + 1)) 403 (((0 + (8 * rq6972)) + 6).toNat) rq6951) 403 (((0 + (8 * rq6972)) + 7).toNat) ((-1))) 403 (1000 * 0 + 8 * (m 390 0).toNat + 2) = _ := ((yup_nk (by omega)).trans ((yup_nk (by omega)).trans (yup_nk (by omega)))).trans k4
              have f3 : (yup (yup (yup mq6972 403 (((0 + (8 * rq6972)) + 5).toNat) ((16 * (m 386 0)) + 1)) 403 (((0 + (8 * rq6972)) + 6).toNat) rq6951) 403 (((0 + (8 * rq6972)) + 7).toNat) ((-1))) 403 (1000 * 0 + 8 * (m 390 0).toNat + 3) = _ := ((yup_nk (by omega)).trans ((yup_nk (by omega)).trans (yup_nk (by omega)))).trans k5
              have f4 : (yup (yup (yup mq6972 403 (((0 + (8 * rq6972)) + 5).toNat) ((16 * (m 386 0)) + 1)) 403 (((0 + (8 * rq6972)) + 6).toNat) rq6951) 403 (((0 + (8 * rq6972)) + 7).toNat) ((-1))) 403 (1000 * 0 + 8 * (m 390 0).toNat + 4) = _ := ((yup_nk (by omega)).trans ((yup_nk (by omega)).trans (yup_nk (by omega)))).trans k6
              have f5 : (yup (yup (yup mq6972 403 (((0 + (8 * rq6972)) + 5).toNat) ((16 * (m 386 0)) + 1)) 403 (((0 + (8 * rq6972)) + 6).toNat) rq6951) 403 (((0 + (8 * rq6972)) + 7).toNat) ((-1))) 403 (1000 * 0 + 8 * (m 390 0).toNat + 5) = (16 * (m 386 0)) + 1 := by rw [show 1000 * 0 + 8 * (m 390 0).toNat + 5 = (0 + 8 * rq6972 + 5).toNat by omega]; repeat (first | rw [yup_eq] | rw [yup_na (by omega)] | rw [yup_nk (by omega)])
              have f6 : (yup (yup (yup mq6972 403 (((0 + (8 * rq6972)) + 5).toNat) ((16 * (m 386 0)) + 1)) 403 (((0 + (8 * rq6972)) + 6).toNat) rq6951) 403 (((0 + (8 * rq6972)) + 7).toNat) ((-1))) 403 (1000 * 0 + 8 * (m 390 0).toNat + 6) = rq6951 := by rw [show 1000 * 0 + 8 * (m 390 0).toNat + 6 = (0 + 8 * rq6972 + 6).toNat by omega]; repeat (first | rw [yup_eq] | rw [yup_na (by omega)] | rw [yup_nk (by omega)])
              have f7 : (yup (yup (yup mq6972 403 (((0 + (8 * rq6972)) + 5).toNat) ((16 * (m 386 0)) + 1)) 403 (((0 + (8 * rq6972)) + 6).toNat) rq6951) 403 (((0 + (8 * rq6972)) + 7).toNat) ((-1))) 403 (1000 * 0 + 8 * (m 390 0).toNat + 7) = (-1) := by rw [show 1000 * 0 + 8 * (m 390 0).toNat + 7 = (0 + 8 * rq6972 + 7).toNat by omega]; repeat (first | rw [yup_eq] | rw [yup_na (by omega)] | rw [yup_nk (by omega)])
              have hw : OW (yup (yup (yup mq6972 403 (((0 + (8 * rq6972)) + 5).toNat) ((16 * (m 386 0)) + 1)) 403 (((0 + (8 * rq6972)) + 6).toNat) rq6951) 403 (((0 + (8 * rq6972)) + 7).toNat) ((-1))) (1000 * 0 + 8 * (m 390 0).toNat) := by unfold OW; omega
              have hx : XS 0 (yup (yup (yup mq6972 403 (((0 + (8 * rq6972)) + 5).toNat) ((16 * (m 386 0)) + 1)) 403 (((0 + (8 * rq6972)) + 6).toNat) rq6951) 403 (((0 + (8 * rq6972)) + 7).toNat) ((-1))) := XS.add hX (by omega) (fun a q ha => hF6991 a q (wSt0_Y a q ha)) (fun q hq => ((yup_nk (by omega)).trans ((yup_nk (by omega)).trans (yup_nk (by omega)))).trans (k8 q hq)) hw (by omega) (by omega) (by omega) (by omega) (by omega) (by omega) (by omega) (fun c hc => by rw [show (yup (yup (yup mq6972 403 (((0 + (8 * rq6972)) + 5).toNat) ((16 * (m 386 0)) + 1)) 403 (((0 + (8 * rq6972)) + 6).toNat) rq6951) 403 (((0 + (8 * rq6972)) + 7).toNat) ((-1))) 401 (8 * 0 + c) = m 401 (8 * 0 + c) from ((yup_na (by decide)).trans ((yup_na (by decide)).trans ((yup_na (by decide)).trans ((hFq6972 401 _ rfl).trans ((hFq6967 401 _ rfl).trans ((hFq6951 401 _ rfl).trans ((hFq6891 401 _ rfl).trans (yup_na (by decide)))))))))]; exact hCV c (by omega)) (by omega) (by omega)
              exact y_retU c132_184 ⟨rfl, hT6990, hF6991, by omega, Or.inr ⟨by omega, by omega, by omega, hx⟩⟩
            · have es7004 : mq6967 376 1 = m 376 1 := ((hFq6967 376 1 rfl).trans ((hFq6951 376 1 rfl).trans ((hFq6891 376 1 rfl).trans (yup_na (by decide)))))
              have tb7005 := hTq6967.atp 376 3 0 3 rfl
              have tb7006 := hTq6967.atp 376 6 0 320 rfl
              have tb7007 := hTq6967.atp 376 8 ((-1)) 320 rfl
              exact y_retU c132_121 ⟨rfl, hTq6967, hF6970, by omega, Or.inl (by omega)⟩
        · refine y_aload 93 c132_92 rfl rfl rfl ?_
          have es7009 : mq6951 376 1 = m 376 1 := ((hFq6951 376 1 rfl).trans ((hFq6891 376 1 rfl).trans (yup_na (by decide))))
          have tb7010 := hTq6951.atp 376 6 0 320 rfl
          refine y_callUB 96 [.ref 376] [] c132_93 rfl rfl rfl rfl rfl (ycanO km99 ko376) (t99u hTq6951 (by omega)) (fun mq7008 nq7008 hq7008 => ?_)
          obtain ⟨rfl, hTq7008, hFq7008, hq7008⟩ := hq7008
          have x1q7008 : mq7008 376 1 = m 376 1 := ((hFq7008 376 1 rfl).trans ((hFq6951 376 1 rfl).trans ((hFq6891 376 1 rfl).trans (yup_na (by decide)))))
          have hF7011 := hF6956.tr hFq7008 wNx_wSt0
          refine y_aload 97 c132_96 rfl rfl rfl ?_
          have es7013 : mq7008 376 1 = m 376 1 := ((hFq7008 376 1 rfl).trans ((hFq6951 376 1 rfl).trans ((hFq6891 376 1 rfl).trans (yup_na (by decide)))))
          have tb7014 := hTq7008.atp 376 3 0 3 rfl
          have tb7015 := hTq7008.atp 376 6 0 320 rfl
          have es7016 : mq7008 376 8 = mq6951 376 8 := (hFq7008 376 8 rfl)
          have es7017 : mq7008 376 18 = m 376 18 := ((hFq7008 376 18 rfl).trans ((hFq6951 376 18 rfl).trans ((hFq6891 376 18 rfl).trans (yup_na (by decide)))))
          refine y_callIB 100 [.ref 376] [] c132_97 rfl rfl rfl rfl rfl (ycanO km130 ko376) (t130_0 hTq7008 (by omega) (by omega) (by omega)) (fun rq7012 mq7012 nq7012 hq7012 => ?_)
          obtain ⟨rfl, hTq7012, hFq7012, hq7012⟩ := hq7012
          have x1q7012 : mq7012 376 1 = m 376 1 := ((hFq7012 376 1 rfl).trans ((hFq7008 376 1 rfl).trans ((hFq6951 376 1 rfl).trans ((hFq6891 376 1 rfl).trans (yup_na (by decide))))))
          have hF7018 := hF7011.tr hFq7012 wVr0_wSt0
          refine y_istore 102 c132_100 rfl rfl ?_
          refine y_iconst 103 c132_102 rfl ?_
          refine y_istore 105 c132_103 rfl rfl ?_
          refine y_aload 106 c132_105 rfl rfl rfl ?_
          refine y_getX 109 (mq7012 376 8) c132_106 rfl kf376_8 rfl ?_
          have tb7019 := hTq7012.atp 376 8 ((-1)) 320 rfl
          refine y_if 121 112 c132_109 rfl rfl (yz_ge (by omega)) (fun hb7020 => ?_) (fun hb7020 => ?_)
          · have es7021 : mq7012 376 1 = m 376 1 := ((hFq7012 376 1 rfl).trans ((hFq7008 376 1 rfl).trans ((hFq6951 376 1 rfl).trans ((hFq6891 376 1 rfl).trans (yup_na (by decide))))))
            have tb7022 := hTq7012.atp 376 3 0 3 rfl
            have tb7023 := hTq7012.atp 376 6 0 320 rfl
            exact y_retU c132_121 ⟨rfl, hTq7012, hF7018, by omega, Or.inl (by omega)⟩
          · refine y_aload 113 c132_112 rfl rfl rfl ?_
            refine y_iconst 115 c132_113 rfl ?_
            have es7025 : mq7012 376 1 = m 376 1 := ((hFq7012 376 1 rfl).trans ((hFq7008 376 1 rfl).trans ((hFq6951 376 1 rfl).trans ((hFq6891 376 1 rfl).trans (yup_na (by decide))))))
            have tb7026 := hTq7012.atp 376 3 0 3 rfl
            have tb7027 := hTq7012.atp 376 6 0 320 rfl
            refine y_callIB 118 [.ref 376, yI 41] [] c132_115 rfl rfl rfl rfl rfl (ycanO km118 ko376) (t118 hTq7012 (by omega) (by omega)) (fun rq7024 mq7024 nq7024 hq7024 => ?_)
            obtain ⟨rfl, hTq7024, hFq7024, hq7024⟩ := hq7024
            have x1q7024 : mq7024 376 1 = m 376 1 := ((hFq7024 376 1 rfl).trans ((hFq7012 376 1 rfl).trans ((hFq7008 376 1 rfl).trans ((hFq6951 376 1 rfl).trans ((hFq6891 376 1 rfl).trans (yup_na (by decide)))))))
            have hF7028 := hF7018.tr hFq7024 wNw_wSt0
            refine y_if 122 121 c132_118 rfl rfl (yz_ne (by omega)) (fun hb7029 => ?_) (fun hb7029 => ?_)
            · refine y_iconst 125 c132_122 rfl ?_
              refine y_iload 127 c132_125 rfl rfl ?_
              refine y_imul 128 c132_127 rfl ?_
              refine y_top 0 (by decide) ?_
              refine y_iconst 130 c132_128 rfl ?_
              refine y_aload 131 c132_130 rfl rfl rfl ?_
              refine y_iconst 133 c132_131 rfl ?_
              refine y_iload 134 c132_133 rfl rfl ?_
              refine y_iload 135 c132_134 rfl rfl ?_
              refine y_iload 136 c132_135 rfl rfl ?_
              have es7031 : mq7024 376 1 = m 376 1 := ((hFq7024 376 1 rfl).trans ((hFq7012 376 1 rfl).trans ((hFq7008 376 1 rfl).trans ((hFq6951 376 1 rfl).trans ((hFq6891 376 1 rfl).trans (yup_na (by decide)))))))
              have tb7032 := hTq7024.atp 376 3 0 3 rfl
              have tb7033 := hTq7024.atp 376 6 0 320 rfl
              have tb7034 := hTq7024.atp 376 8 ((-1)) 320 rfl
              have es7035 : mq7024 376 18 = m 376 18 := ((hFq7024 376 18 rfl).trans ((hFq7012 376 18 rfl).trans ((hFq7008 376 18 rfl).trans ((hFq6951 376 18 rfl).trans ((hFq6891 376 18 rfl).trans (yup_na (by decide)))))))
              have es7036 : mq7024 390 0 = m 390 0 := ((hFq7024 390 0 rfl).trans ((hFq7012 390 0 rfl).trans ((hFq7008 390 0 rfl).trans ((hFq6951 390 0 rfl).trans ((hFq6891 390 0 rfl).trans (yup_na (by decide)))))))
              have es7037 : mq7024 386 0 = (m 386 0) + 1 := ((hFq7024 386 0 rfl).trans ((hFq7012 386 0 rfl).trans ((hFq7008 386 0 rfl).trans ((hFq6951 386 0 rfl).trans ((hFq6891 386 0 rfl).trans (yup_eq _ _ _ _))))))
              have es7038 : mq7024 387 0 = m 387 0 := ((hFq7024 387 0 rfl).trans ((hFq7012 387 0 rfl).trans ((hFq7008 387 0 rfl).trans ((hFq6951 387 0 rfl).trans ((hFq6891 387 0 rfl).trans (yup_na (by decide)))))))
              have es7039 : mq7024 388 0 = m 388 0 := ((hFq7024 388 0 rfl).trans ((hFq7012 388 0 rfl).trans ((hFq7008 388 0 rfl).trans ((hFq6951 388 0 rfl).trans ((hFq6891 388 0 rfl).trans (yup_na (by decide)))))))
              have es7040 : mq7024 376 17 = m 376 17 := ((hFq7024 376 17 rfl).trans ((hFq7012 376 17 rfl).trans ((hFq7008 376 17 rfl).trans ((hFq6951 376 17 rfl).trans ((hFq6891 376 17 rfl).trans (yup_na (by decide)))))))
              have tb7041 := hT.atp 376 17 0 20 rfl
              have es7042 : mq7024 384 0 = m 384 0 := ((hFq7024 384 0 rfl).trans ((hFq7012 384 0 rfl).trans ((hFq7008 384 0 rfl).trans ((hFq6951 384 0 rfl).trans ((hFq6891 384 0 rfl).trans (yup_na (by decide)))))))
              refine y_callIB 139 [.ref 376, yI 7, yI v, yI u, yI b] [yI 8, yI 0] c132_136 rfl rfl rfl rfl rfl (ycanO km127 ko376) (t127_0 hTq7024 (by omega) (by omega) (by omega) (by omega) (by omega) (by omega)) (fun rq7030 mq7030 nq7030 hq7030 => ?_)
              obtain ⟨rfl, hTq7030, hFq7030, hq7030, hE⟩ := hq7030
              unfold EM at hE
              rw [show mq7024 390 0 = m 390 0 from ((hFq7024 390 0 rfl).trans ((hFq7012 390 0 rfl).trans ((hFq7008 390 0 rfl).trans ((hFq6951 390 0 rfl).trans ((hFq6891 390 0 rfl).trans (yup_na (by decide)))))))] at hE
              obtain ⟨k1, k2, k3, k4, k5, k6, k7⟩ := hE
              have k8 : ∀ q, q < 1000 * 0 + 8 * (m 390 0).toNat ∨ 1000 * 0 + 8 * (m 390 0).toNat + 8 ≤ q → mq7030 403 q = m 403 q := fun q hq => (k7 q hq).trans (((hFq7024 403 q rfl).trans ((hFq7012 403 q rfl).trans ((hFq7008 403 q rfl).trans ((hFq6951 403 q rfl).trans ((hFq6891 403 q rfl).trans (yup_na (by decide))))))))
              have x1q7030 : mq7030 376 1 = m 376 1 := ((hFq7030 376 1 rfl).trans ((hFq7024 376 1 rfl).trans ((hFq7012 376 1 rfl).trans ((hFq7008 376 1 rfl).trans ((hFq6951 376 1 rfl).trans ((hFq6891 376 1 rfl).trans (yup_na (by decide))))))))
              have hF7043 := hF7028.tr hFq7030 wEm0_wSt0
              refine y_imul 140 c132_139 rfl ?_
              refine y_iadd 141 c132_140 rfl ?_
              refine y_istore 143 c132_141 rfl rfl ?_
              refine y_aload 144 c132_143 rfl rfl rfl ?_
              refine y_getR 147 c132_144 rfl kf376_40 ?_
              refine y_iload 149 c132_147 rfl rfl ?_
              refine y_iconst 150 c132_149 rfl ?_
              refine y_iadd 151 c132_150 rfl ?_
              refine y_iconst 153 c132_151 rfl ?_
              refine y_iload 155 c132_153 rfl rfl ?_
              refine y_imul 156 c132_155 rfl ?_
              refine y_iload 158 c132_156 rfl rfl ?_
              refine y_iadd 159 c132_158 rfl ?_
              refine y_iastore 160 c132_159 rfl ka403 (by omega) (y_nar0 _) ?_
              have hT7044 := hTq7030.up 403 (((0 + (8 * rq7030)) + 5).toNat) ((16 * (m 386 0)) + 2) ((-2147483648)) 2147483647 rfl (by omega)
              have hF7045 := hF7043.up 403 (((0 + (8 * rq7030)) + 5).toNat) ((16 * (m 386 0)) + 2) (wSt0_403 (by omega))
              refine y_aload 161 c132_160 rfl rfl rfl ?_
              refine y_getR 164 c132_161 rfl kf376_40 ?_
              refine y_iload 166 c132_164 rfl rfl ?_
              refine y_iconst 168 c132_166 rfl ?_
              refine y_iadd 169 c132_168 rfl ?_
              refine y_iload 171 c132_169 rfl rfl ?_
              refine y_iastore 172 c132_171 rfl ka403 (by omega) (y_nar0 _) ?_
              have hT7046 := hT7044.up 403 (((0 + (8 * rq7030)) + 6).toNat) rq6951 ((-2147483648)) 2147483647 rfl (by omega)
              have hF7047 := hF7045.up 403 (((0 + (8 * rq7030)) + 6).toNat) rq6951 (wSt0_403 (by omega))
              refine y_aload 173 c132_172 rfl rfl rfl ?_
              refine y_getR 176 c132_173 rfl kf376_40 ?_
              refine y_iload 178 c132_176 rfl rfl ?_
              refine y_iconst 180 c132_178 rfl ?_
              refine y_iadd 181 c132_180 rfl ?_
              refine y_iload 183 c132_181 rfl rfl ?_
              refine y_iastore 184 c132_183 rfl ka403 (by omega) (y_nar0 _) ?_
              have hT7048 := hT7046.up 403 (((0 + (8 * rq7030)) + 7).toNat) rq7012 ((-2147483648)) 2147483647 rfl (by omega)
              have hF7049 := hF7047.up 403 (((0 + (8 * rq7030)) + 7).toNat) rq7012 (wSt0_403 (by omega))
              have es7050 : (yup (yup (yup mq7030 403 (((0 + (8 * rq7030)) + 5).toNat) ((16 * (m 386 0)) + 2)) 403 (((0 + (8 * rq7030)) + 6).toNat) rq6951) 403 (((0 + (8 * rq7030)) + 7).toNat) rq7012) 376 1 = m 376 1 := ((yup_na (by decide)).trans ((yup_na (by decide)).trans ((yup_na (by decide)).trans ((hFq7030 376 1 rfl).trans ((hFq7024 376 1 rfl).trans ((hFq7012 376 1 rfl).trans ((hFq7008 376 1 rfl).trans ((hFq6951 376 1 rfl).trans ((hFq6891 376 1 rfl).trans (yup_na (by decide)))))))))))
              have es7051 : (yup (yup (yup mq7030 403 (((0 + (8 * rq7030)) + 5).toNat) ((16 * (m 386 0)) + 2)) 403 (((0 + (8 * rq7030)) + 6).toNat) rq6951) 403 (((0 + (8 * rq7030)) + 7).toNat) rq7012) 376 3 = mq7024 376 3 := ((yup_na (by decide)).trans ((yup_na (by decide)).trans ((yup_na (by decide)).trans (hFq7030 376 3 rfl))))
              have es7052 : (yup (yup (yup mq7030 403 (((0 + (8 * rq7030)) + 5).toNat) ((16 * (m 386 0)) + 2)) 403 (((0 + (8 * rq7030)) + 6).toNat) rq6951) 403 (((0 + (8 * rq7030)) + 7).toNat) rq7012) 376 6 = mq7024 376 6 := ((yup_na (by decide)).trans ((yup_na (by decide)).trans ((yup_na (by decide)).trans (hFq7030 376 6 rfl))))
              have es7053 : (yup (yup (yup mq7030 403 (((0 + (8 * rq7030)) + 5).toNat) ((16 * (m 386 0)) + 2)) 403 (((0 + (8 * rq7030)) + 6).toNat) rq6951) 403 (((0 + (8 * rq7030)) + 7).toNat) rq7012) 376 8 = mq7024 376 8 := ((yup_na (by decide)).trans ((yup_na (by decide)).trans ((yup_na (by decide)).trans (hFq7030 376 8 rfl))))
              have es7054 : (yup (yup (yup mq7030 403 (((0 + (8 * rq7030)) + 5).toNat) ((16 * (m 386 0)) + 2)) 403 (((0 + (8 * rq7030)) + 6).toNat) rq6951) 403 (((0 + (8 * rq7030)) + 7).toNat) rq7012) 390 0 = mq7030 390 0 := rfl
              have tb7055 := hTq7030.atp 390 0 0 125 rfl
              have es7056 : (yup (yup (yup mq7030 403 (((0 + (8 * rq7030)) + 5).toNat) ((16 * (m 386 0)) + 2)) 403 (((0 + (8 * rq7030)) + 6).toNat) rq6951) 403 (((0 + (8 * rq7030)) + 7).toNat) rq7012) 386 0 = (m 386 0) + 1 := ((yup_na (by decide)).trans ((yup_na (by decide)).trans ((yup_na (by decide)).trans ((hFq7030 386 0 rfl).trans ((hFq7024 386 0 rfl).trans ((hFq7012 386 0 rfl).trans ((hFq7008 386 0 rfl).trans ((hFq6951 386 0 rfl).trans ((hFq6891 386 0 rfl).trans (yup_eq _ _ _ _))))))))))
              have es7057 : (yup (yup (yup mq7030 403 (((0 + (8 * rq7030)) + 5).toNat) ((16 * (m 386 0)) + 2)) 403 (((0 + (8 * rq7030)) + 6).toNat) rq6951) 403 (((0 + (8 * rq7030)) + 7).toNat) rq7012) 387 0 = m 387 0 := ((yup_na (by decide)).trans ((yup_na (by decide)).trans ((yup_na (by decide)).trans ((hFq7030 387 0 rfl).trans ((hFq7024 387 0 rfl).trans ((hFq7012 387 0 rfl).trans ((hFq7008 387 0 rfl).trans ((hFq6951 387 0 rfl).trans ((hFq6891 387 0 rfl).trans (yup_na (by decide)))))))))))
              have es7058 : (yup (yup (yup mq7030 403 (((0 + (8 * rq7030)) + 5).toNat) ((16 * (m 386 0)) + 2)) 403 (((0 + (8 * rq7030)) + 6).toNat) rq6951) 403 (((0 + (8 * rq7030)) + 7).toNat) rq7012) 388 0 = m 388 0 := ((yup_na (by decide)).trans ((yup_na (by decide)).trans ((yup_na (by decide)).trans ((hFq7030 388 0 rfl).trans ((hFq7024 388 0 rfl).trans ((hFq7012 388 0 rfl).trans ((hFq7008 388 0 rfl).trans ((hFq6951 388 0 rfl).trans ((hFq6891 388 0 rfl).trans (yup_na (by decide)))))))))))
              have es7059 : (yup (yup (yup mq7030 403 (((0 + (8 * rq7030)) + 5).toNat) ((16 * (m 386 0)) + 2)) 403 (((0 + (8 * rq7030)) + 6).toNat) rq6951) 403 (((0 + (8 * rq7030)) + 7).toNat) rq7012) 376 17 = m 376 17 := ((yup_na (by decide)).trans ((yup_na (by decide)).trans ((yup_na (by decide)).trans ((hFq7030 376 17 rfl).trans ((hFq7024 376 17 rfl).trans ((hFq7012 376 17 rfl).trans ((hFq7008 376 17 rfl).trans ((hFq6951 376 17 rfl).trans ((hFq6891 376 17 rfl).trans (yup_na (by decide)))))))))))
              have es7060 : (yup (yup (yup mq7030 403 (((0 + (8 * rq7030)) + 5).toNat) ((16 * (m 386 0)) + 2)) 403 (((0 + (8 * rq7030)) + 6).toNat) rq6951) 403 (((0 + (8 * rq7030)) + 7).toNat) rq7012) 384 0 = m 384 0 := ((yup_na (by decide)).trans ((yup_na (by decide)).trans ((yup_na (by decide)).trans ((hFq7030 384 0 rfl).trans ((hFq7024 384 0 rfl).trans ((hFq7012 384 0 rfl).trans ((hFq7008 384 0 rfl).trans ((hFq6951 384 0 rfl).trans ((hFq6891 384 0 rfl).trans (yup_na (by decide)))))))))))
              have em7061 : mu (yup (yup (yup mq7030 403 (((0 + (8 * rq7030)) + 5).toNat) ((16 * (m 386 0)) + 2)) 403 (((0 + (8 * rq7030)) + 6).toNat) rq6951) 403 (((0 + (8 * rq7030)) + 7).toNat) rq7012) = mu mq7024 := mu_fr ((yup_na (by decide)).trans ((yup_na (by decide)).trans ((yup_na (by decide)).trans (hFq7030 376 1 rfl)))) ((yup_na (by decide)).trans ((yup_na (by decide)).trans ((yup_na (by decide)).trans (hFq7030 376 3 rfl)))) ((yup_na (by decide)).trans ((yup_na (by decide)).trans ((yup_na (by decide)).trans (hFq7030 376 6 rfl))))
              have f0 : (yup (yup (yup mq7030 403 (((0 + (8 * rq7030)) + 5).toNat) ((16 * (m 386 0)) + 2)) 403 (((0 + (8 * rq7030)) + 6).toNat) rq6951) 403 (((0 + (8 * rq7030)) + 7).toNat) rq7012) 403 (1000 * 0 + 8 * (m 390 0).toNat) = _ := ((yup_nk (by omega)).trans ((yup_nk (by omega)).trans (yup_nk (by omega)))).trans k2
              have f1 : (yup (yup (yup mq7030 403 (((0 + (8 * rq7030)) + 5).toNat) ((16 * (m 386 0)) + 2)) 403 (((0 + (8 * rq7030)) + 6).toNat) rq6951) 403 (((0 + (8 * rq7030)) + 7).toNat) rq7012) 403 (1000 * 0 + 8 * (m 390 0).toNat + 1) = _ := ((yup_nk (by omega)).trans ((yup_nk (by omega)).trans (yup_nk (by omega)))).trans k3
              have f2 : (yup (yup (yup mq7030 403 (((0 + (8 * rq7030)) + 5).toNat) ((16 * (m 386 0)) + 2)) 403 (((0 + (8 * rq7030)) + 6).toNat) rq6951) 403 (((0 + (8 * rq7030)) + 7).toNat) rq7012) 403 (1000 * 0 + 8 * (m 390 0).toNat + 2) = _ := ((yup_nk (by omega)).trans ((yup_nk (by omega)).trans (yup_nk (by omega)))).trans k4
              have f3 : (yup (yup (yup mq7030 403 (((0 + (8 * rq7030)) + 5).toNat) ((16 * (m 386 0)) + 2)) 403 (((0 + (8 * rq7030)) + 6).toNat) rq6951) 403 (((0 + (8 * rq7030)) + 7).toNat) rq7012) 403 (1000 * 0 + 8 * (m 390 0).toNat + 3) = _ := ((yup_nk (by omega)).trans ((yup_nk (by omega)).trans (yup_nk (by omega)))).trans k5
              have f4 : (yup (yup (yup mq7030 403 (((0 + (8 * rq7030)) + 5).toNat) ((16 * (m 386 0)) + 2)) 403 (((0 + (8 * rq7030)) + 6).toNat) rq6951) 403 (((0 + (8 * rq7030)) + 7).toNat) rq7012) 403 (1000 * 0 + 8 * (m 390 0).toNat + 4) = _ := ((yup_nk (by omega)).trans ((yup_nk (by omega)).trans (yup_nk (by omega)))).trans k6
              have f5 : (yup (yup (yup mq7030 403 (((0 + (8 * rq7030)) + 5).toNat) ((16 * (m 386 0)) + 2)) 403 (((0 + (8 * rq7030)) + 6).toNat) rq6951) 403 (((0 + (8 * rq7030)) + 7).toNat) rq7012) 403 (1000 * 0 + 8 * (m 390 0).toNat + 5) = (16 * (m 386 0)) + 2 := by rw [show 1000 * 0 + 8 * (m 390 0).toNat + 5 = (0 + 8 * rq7030 + 5).toNat by omega]; repeat (first | rw [yup_eq] | rw [yup_na (by omega)] | rw [yup_nk (by omega)])
              have f6 : (yup (yup (yup mq7030 403 (((0 + (8 * rq7030)) + 5).toNat) ((16 * (m 386 0)) + 2)) 403 (((0 + (8 * rq7030)) + 6).toNat) rq6951) 403 (((0 + (8 * rq7030)) + 7).toNat) rq7012) 403 (1000 * 0 + 8 * (m 390 0).toNat + 6) = rq6951 := by rw [show 1000 * 0 + 8 * (m 390 0).toNat + 6 = (0 + 8 * rq7030 + 6).toNat by omega]; repeat (first | rw [yup_eq] | rw [yup_na (by omega)] | rw [yup_nk (by omega)])
              have f7 : (yup (yup (yup mq7030 403 (((0 + (8 * rq7030)) + 5).toNat) ((16 * (m 386 0)) + 2)) 403 (((0 + (8 * rq7030)) + 6).toNat) rq6951) 403 (((0 + (8 * rq7030)) + 7).toNat) rq7012) 403 (1000 * 0 + 8 * (m 390 0).toNat + 7) = rq7012 := by rw [show 1000 * 0 + 8 * (m 390 0).toNat + 7 = (0 + 8 * rq7030 + 7).toNat by omega]; repeat (first | rw [yup_eq] | rw [yup_na (by omega)] | rw [yup_nk (by omega)])
              have hw : OW (yup (yup (yup mq7030 403 (((0 + (8 * rq7030)) + 5).toNat) ((16 * (m 386 0)) + 2)) 403 (((0 + (8 * rq7030)) + 6).toNat) rq6951) 403 (((0 + (8 * rq7030)) + 7).toNat) rq7012) (1000 * 0 + 8 * (m 390 0).toNat) := by unfold OW; omega
              have hx : XS 0 (yup (yup (yup mq7030 403 (((0 + (8 * rq7030)) + 5).toNat) ((16 * (m 386 0)) + 2)) 403 (((0 + (8 * rq7030)) + 6).toNat) rq6951) 403 (((0 + (8 * rq7030)) + 7).toNat) rq7012) := XS.add hX (by omega) (fun a q ha => hF7049 a q (wSt0_Y a q ha)) (fun q hq => ((yup_nk (by omega)).trans ((yup_nk (by omega)).trans (yup_nk (by omega)))).trans (k8 q hq)) hw (by omega) (by omega) (by omega) (by omega) (by omega) (by omega) (by omega) (fun c hc => by rw [show (yup (yup (yup mq7030 403 (((0 + (8 * rq7030)) + 5).toNat) ((16 * (m 386 0)) + 2)) 403 (((0 + (8 * rq7030)) + 6).toNat) rq6951) 403 (((0 + (8 * rq7030)) + 7).toNat) rq7012) 401 (8 * 0 + c) = m 401 (8 * 0 + c) from ((yup_na (by decide)).trans ((yup_na (by decide)).trans ((yup_na (by decide)).trans ((hFq7030 401 _ rfl).trans ((hFq7024 401 _ rfl).trans ((hFq7012 401 _ rfl).trans ((hFq7008 401 _ rfl).trans ((hFq6951 401 _ rfl).trans ((hFq6891 401 _ rfl).trans (yup_na (by decide)))))))))))]; exact hCV c (by omega)) (by omega) (by omega)
              exact y_retU c132_184 ⟨rfl, hT7048, hF7049, by omega, Or.inr ⟨by omega, by omega, by omega, hx⟩⟩
            · have es7062 : mq7024 376 1 = m 376 1 := ((hFq7024 376 1 rfl).trans ((hFq7012 376 1 rfl).trans ((hFq7008 376 1 rfl).trans ((hFq6951 376 1 rfl).trans ((hFq6891 376 1 rfl).trans (yup_na (by decide)))))))
              have tb7063 := hTq7024.atp 376 3 0 3 rfl
              have tb7064 := hTq7024.atp 376 6 0 320 rfl
              have tb7065 := hTq7024.atp 376 8 ((-1)) 320 rfl
              exact y_retU c132_121 ⟨rfl, hTq7024, hF7028, by omega, Or.inl (by omega)⟩
  · refine y_aload 19 c132_18 rfl rfl rfl ?_
    refine y_iload 21 c132_19 rfl rfl ?_
    refine y_putI 24 c132_21 rfl kf376_8 (y_fit0 _) ?_
    have hT7066 := hT.up 376 8 e ((-1)) 320 rfl (by omega)
    have hF7067 := hF.up 376 8 e rfl
    have es7068 : (yup m 376 8 e) 376 1 = m 376 1 := rfl
    have tb7069 := hT.atp 376 1 0 320 rfl
    have es7070 : (yup m 376 8 e) 376 3 = m 376 3 := rfl
    have tb7071 := hT.atp 376 3 0 3 rfl
    have es7072 : (yup m 376 8 e) 376 6 = m 376 6 := rfl
    have tb7073 := hT.atp 376 6 0 320 rfl
    have es7074 : (yup m 376 8 e) 376 8 = e := rfl
    exact y_retU c132_24 ⟨rfl, hT7066, hF7067, by omega, Or.inl (by omega)⟩
set_option maxRecDepth 100000 in
theorem t132_1 {L : Nat} {xs : Nat → Int32} {d nn : Nat} {m : yM} {v u b e : Int} (hT : Ty gT m) (hl : m 376 6 ≤ m 376 1) (hn : m 376 18 = 0) (h8 : m 376 8 < 0) (hX : XS 1 m) (h84 : 1 ≤ m 384 1) (h90 : m 390 1 ≤ 100) (hv : -1 ≤ v ∧ v ≤ 47) (hu : 0 ≤ u ∧ u ≤ 47) (hb : -2147483648 ≤ b ∧ b < 2147483648) (he : 0 ≤ e ∧ e ≤ 320) : YC (gZ L xs) (d + 5) 132 [.ref 376, yI v, yI u, yI b, yI e] m nn (qU (fun m' n' => n' = nn ∧ Ty gT m' ∧ Fr wSt1 m m' ∧ m' 376 6 ≤ m' 376 1 ∧ (0 ≤ m' 376 8 ∨ (m' 376 8 < 0 ∧ mu m' ≤ mu m ∧ m' 390 1 = m 390 1 + 1 ∧ XS 1 m')))) := by
  have tb8 := hT.atp 376 8 (-1) 320 rfl
  have tc384 := hT.atp 384 1 0 10 rfl
  have tc386 := hT.atp 386 1 0 12 rfl
  have tc387 := hT.atp 387 1 0 8 rfl
  have tc388 := hT.atp 388 1 0 12 rfl
  have tc389 := hT.atp 389 1 0 48 rfl
  have tc390 := hT.atp 390 1 0 125 rfl
  have hsc := hX.2.2.2.2.2
  have hCV := hX.2.2.2.2.2.2.2.1
  refine YC.mkB [some (.ref 376), some (yI v), some (yI u), some (yI b), some (yI e), none, none, none, none, none, none] kn132 rfl rfl ?_
  have hF : Fr wSt1 m m := Fr.rf
  refine y_aload 1 c132_0 rfl rfl rfl ?_
  have tb8091 := hT.atp 376 18 0 1 rfl
  refine y_callP 4 [.ref 376] [] c132_1 rfl rfl rfl rfl rfl (ycanO km96 ko376) (t96_1 (by omega)) (fun r8090 hr8090 => ?_)
  subst hr8090
  refine y_istore 6 c132_4 rfl rfl ?_
  refine y_aload 7 c132_6 rfl rfl rfl ?_
  refine y_getR 10 c132_7 rfl kf376_23 ?_
  refine y_iload 12 c132_10 rfl rfl ?_
  refine y_iaX 13 (m 386 1) c132_12 rfl ka386 (by decide) rfl ?_
  refine y_iconst 15 c132_13 rfl ?_
  refine y_icmp 25 18 c132_15 rfl rfl (yc_ne (by omega) (by omega)) (fun hb8092 => ?_) (fun hb8092 => ?_)
  · refine y_aload 26 c132_25 rfl rfl rfl ?_
    refine y_getR 29 c132_26 rfl kf376_23 ?_
    refine y_iload 31 c132_29 rfl rfl ?_
    refine y_iaX 32 (m 386 1) c132_31 rfl ka386 (by decide) rfl ?_
    refine y_istore 34 c132_32 rfl rfl ?_
    refine y_aload 35 c132_34 rfl rfl rfl ?_
    refine y_getR 38 c132_35 rfl kf376_23 ?_
    refine y_iload 40 c132_38 rfl rfl ?_
    refine y_dup2 41 c132_40 rfl ⟨rfl, rfl⟩ ?_
    refine y_iaX 42 (m 386 1) c132_41 rfl ka386 (by decide) rfl ?_
    refine y_iconst 43 c132_42 rfl ?_
    refine y_iadd 44 c132_43 rfl ?_
    refine y_iastore 45 c132_44 rfl ka386 (by omega) (y_nar0 _) ?_
    have hT8093 := hT.up 386 ((1 : Int).toNat) ((m 386 1) + 1) 0 12 rfl (by omega)
    have hF8094 := hF.up 386 ((1 : Int).toNat) ((m 386 1) + 1) rfl
    refine y_aload 46 c132_45 rfl rfl rfl ?_
    have es8096 : (yup m 386 ((1 : Int).toNat) ((m 386 1) + 1)) 376 1 = m 376 1 := rfl
    have tb8097 := hT.atp 376 1 0 320 rfl
    have es8098 : (yup m 386 ((1 : Int).toNat) ((m 386 1) + 1)) 376 3 = m 376 3 := rfl
    have tb8099 := hT.atp 376 3 0 3 rfl
    have es8100 : (yup m 386 ((1 : Int).toNat) ((m 386 1) + 1)) 376 6 = m 376 6 := rfl
    have tb8101 := hT.atp 376 6 0 320 rfl
    have es8102 : (yup m 386 ((1 : Int).toNat) ((m 386 1) + 1)) 376 8 = m 376 8 := rfl
    have tb8103 := hT.atp 376 8 ((-1)) 320 rfl
    have em8104 : mu (yup m 386 ((1 : Int).toNat) ((m 386 1) + 1)) = mu m := mu_fr (yup_na (by decide)) (yup_na (by decide)) (yup_na (by decide))
    refine y_callUB 49 [.ref 376] [] c132_46 rfl rfl rfl rfl rfl (ycanO km99 ko376) (t99u hT8093 (by omega)) (fun mq8095 nq8095 hq8095 => ?_)
    obtain ⟨rfl, hTq8095, hFq8095, hq8095⟩ := hq8095
    have x1q8095 : mq8095 376 1 = m 376 1 := ((hFq8095 376 1 rfl).trans (yup_na (by decide)))
    have hF8105 := hF8094.tr hFq8095 wNx_wSt1
    refine y_iconst 50 c132_49 rfl ?_
    refine y_istore 52 c132_50 rfl rfl ?_
    refine y_iconst 53 c132_52 rfl ?_
    refine y_istore 55 c132_53 rfl rfl ?_
    refine y_iconst 56 c132_55 rfl ?_
    refine y_istore 58 c132_56 rfl rfl ?_
    refine y_aload 59 c132_58 rfl rfl rfl ?_
    refine y_iconst 61 c132_59 rfl ?_
    have tb8106 := hTq8095.atp 376 3 0 3 rfl
    refine y_callP 64 [.ref 376, yI 41] [] c132_61 rfl rfl rfl rfl rfl (ycanO km117 ko376) (t117 hTq8095 (by omega)) (fun r8107 hr8107 => ?_)
    refine y_if 105 67 c132_64 rfl rfl (yz_ne (by omega)) (fun hb8108 => ?_) (fun hb8108 => ?_)
    · refine y_aload 106 c132_105 rfl rfl rfl ?_
      refine y_getX 109 (m 376 8) c132_106 rfl kf376_8 ((hFq8095 376 8 rfl).trans (yup_na (by decide))) ?_
      refine y_if 121 112 c132_109 rfl rfl (yz_ge (by omega)) (fun hb8109 => ?_) (fun hb8109 => ?_)
      · have es8110 : mq8095 376 1 = m 376 1 := ((hFq8095 376 1 rfl).trans (yup_na (by decide)))
        have tb8111 := hTq8095.atp 376 6 0 320 rfl
        have es8112 : mq8095 376 8 = m 376 8 := ((hFq8095 376 8 rfl).trans (yup_na (by decide)))
        exact y_retU c132_121 ⟨rfl, hTq8095, hF8105, by omega, Or.inl (by omega)⟩
      · refine y_aload 113 c132_112 rfl rfl rfl ?_
        refine y_iconst 115 c132_113 rfl ?_
        have es8114 : mq8095 376 1 = m 376 1 := ((hFq8095 376 1 rfl).trans (yup_na (by decide)))
        have tb8115 := hTq8095.atp 376 6 0 320 rfl
        have es8116 : mq8095 376 8 = m 376 8 := ((hFq8095 376 8 rfl).trans (yup_na (by decide)))
        refine y_callIB 118 [.ref 376, yI 41] [] c132_115 rfl rfl rfl rfl rfl (ycanO km118 ko376) (t118 hTq8095 (by omega) (by omega)) (fun rq8113 mq8113 nq8113 hq8113 => ?_)
        obtain ⟨rfl, hTq8113, hFq8113, hq8113⟩ := hq8113
        have x1q8113 : mq8113 376 1 = m 376 1 := ((hFq8113 376 1 rfl).trans ((hFq8095 376 1 rfl).trans (yup_na (by decide))))
        have hF8117 := hF8105.tr hFq8113 wNw_wSt1
        refine y_if 122 121 c132_118 rfl rfl (yz_ne (by omega)) (fun hb8118 => ?_) (fun hb8118 => ?_)
        · refine y_iconst 125 c132_122 rfl ?_
          refine y_iload 127 c132_125 rfl rfl ?_
          refine y_imul 128 c132_127 rfl ?_
          refine y_top 1000 (by decide) ?_
          refine y_iconst 130 c132_128 rfl ?_
          refine y_aload 131 c132_130 rfl rfl rfl ?_
          refine y_iconst 133 c132_131 rfl ?_
          refine y_iload 134 c132_133 rfl rfl ?_
          refine y_iload 135 c132_134 rfl rfl ?_
          refine y_iload 136 c132_135 rfl rfl ?_
          have es8120 : mq8113 376 1 = m 376 1 := ((hFq8113 376 1 rfl).trans ((hFq8095 376 1 rfl).trans (yup_na (by decide))))
          have tb8121 := hTq8113.atp 376 3 0 3 rfl
          have tb8122 := hTq8113.atp 376 6 0 320 rfl
          have tb8123 := hTq8113.atp 376 8 ((-1)) 320 rfl
          have es8124 : mq8113 376 18 = m 376 18 := ((hFq8113 376 18 rfl).trans ((hFq8095 376 18 rfl).trans (yup_na (by decide))))
          have es8125 : mq8113 390 1 = m 390 1 := ((hFq8113 390 1 rfl).trans ((hFq8095 390 1 rfl).trans (yup_na (by decide))))
          have es8126 : mq8113 386 1 = (m 386 1) + 1 := ((hFq8113 386 1 rfl).trans ((hFq8095 386 1 rfl).trans (yup_eq _ _ _ _)))
          have es8127 : mq8113 387 1 = m 387 1 := ((hFq8113 387 1 rfl).trans ((hFq8095 387 1 rfl).trans (yup_na (by decide))))
          have es8128 : mq8113 388 1 = m 388 1 := ((hFq8113 388 1 rfl).trans ((hFq8095 388 1 rfl).trans (yup_na (by decide))))
          have es8129 : mq8113 376 17 = m 376 17 := ((hFq8113 376 17 rfl).trans ((hFq8095 376 17 rfl).trans (yup_na (by decide))))
          have tb8130 := hT.atp 376 17 0 20 rfl
          have es8131 : mq8113 384 1 = m 384 1 := ((hFq8113 384 1 rfl).trans ((hFq8095 384 1 rfl).trans (yup_na (by decide))))
          refine y_callIB 139 [.ref 376, yI 7, yI v, yI u, yI b] [yI 8, yI 1000] c132_136 rfl rfl rfl rfl rfl (ycanO km127 ko376) (t127_1 hTq8113 (by omega) (by omega) (by omega) (by omega) (by omega) (by omega)) (fun rq8119 mq8119 nq8119 hq8119 => ?_)
          obtain ⟨rfl, hTq8119, hFq8119, hq8119, hE⟩ := hq8119
          unfold EM at hE
          rw [show mq8113 390 1 = m 390 1 from ((hFq8113 390 1 rfl).trans ((hFq8095 390 1 rfl).trans (yup_na (by decide))))] at hE
          obtain ⟨k1, k2, k3, k4, k5, k6, k7⟩ := hE
          have k8 : ∀ q, q < 1000 * 1 + 8 * (m 390 1).toNat ∨ 1000 * 1 + 8 * (m 390 1).toNat + 8 ≤ q → mq8119 403 q = m 403 q := fun q hq => (k7 q hq).trans (((hFq8113 403 q rfl).trans ((hFq8095 403 q rfl).trans (yup_na (by decide)))))
          have x1q8119 : mq8119 376 1 = m 376 1 := ((hFq8119 376 1 rfl).trans ((hFq8113 376 1 rfl).trans ((hFq8095 376 1 rfl).trans (yup_na (by decide)))))
          have hF8132 := hF8117.tr hFq8119 wEm1_wSt1
          refine y_imul 140 c132_139 rfl ?_
          refine y_iadd 141 c132_140 rfl ?_
          refine y_istore 143 c132_141 rfl rfl ?_
          refine y_aload 144 c132_143 rfl rfl rfl ?_
          refine y_getR 147 c132_144 rfl kf376_40 ?_
          refine y_iload 149 c132_147 rfl rfl ?_
          refine y_iconst 150 c132_149 rfl ?_
          refine y_iadd 151 c132_150 rfl ?_
          refine y_iconst 153 c132_151 rfl ?_
          refine y_iload 155 c132_153 rfl rfl ?_
          refine y_imul 156 c132_155 rfl ?_
          refine y_iload 158 c132_156 rfl rfl ?_
          refine y_iadd 159 c132_158 rfl ?_
          refine y_iastore 160 c132_159 rfl ka403 (by omega) (y_nar0 _) ?_
          have hT8133 := hTq8119.up 403 (((1000 + (8 * rq8119)) + 5).toNat) ((16 * (m 386 1)) + 0) ((-2147483648)) 2147483647 rfl (by omega)
          have hF8134 := hF8132.up 403 (((1000 + (8 * rq8119)) + 5).toNat) ((16 * (m 386 1)) + 0) (wSt1_403 (by omega))
          refine y_aload 161 c132_160 rfl rfl rfl ?_
          refine y_getR 164 c132_161 rfl kf376_40 ?_
          refine y_iload 166 c132_164 rfl rfl ?_
          refine y_iconst 168 c132_166 rfl ?_
          refine y_iadd 169 c132_168 rfl ?_
          refine y_iload 171 c132_169 rfl rfl ?_
          refine y_iastore 172 c132_171 rfl ka403 (by omega) (y_nar0 _) ?_
          have hT8135 := hT8133.up 403 (((1000 + (8 * rq8119)) + 6).toNat) ((-1)) ((-2147483648)) 2147483647 rfl (by omega)
          have hF8136 := hF8134.up 403 (((1000 + (8 * rq8119)) + 6).toNat) ((-1)) (wSt1_403 (by omega))
          refine y_aload 173 c132_172 rfl rfl rfl ?_
          refine y_getR 176 c132_173 rfl kf376_40 ?_
          refine y_iload 178 c132_176 rfl rfl ?_
          refine y_iconst 180 c132_178 rfl ?_
          refine y_iadd 181 c132_180 rfl ?_
          refine y_iload 183 c132_181 rfl rfl ?_
          refine y_iastore 184 c132_183 rfl ka403 (by omega) (y_nar0 _) ?_
          have hT8137 := hT8135.up 403 (((1000 + (8 * rq8119)) + 7).toNat) ((-1)) ((-2147483648)) 2147483647 rfl (by omega)
          have hF8138 := hF8136.up 403 (((1000 + (8 * rq8119)) + 7).toNat) ((-1)) (wSt1_403 (by omega))
          have es8139 : (yup (yup (yup mq8119 403 (((1000 + (8 * rq8119)) + 5).toNat) ((16 * (m 386 1)) + 0)) 403 (((1000 + (8 * rq8119)) + 6).toNat) ((-1))) 403 (((1000 + (8 * rq8119)) + 7).toNat) ((-1))) 376 1 = m 376 1 := ((yup_na (by decide)).trans ((yup_na (by decide)).trans ((yup_na (by decide)).trans ((hFq8119 376 1 rfl).trans ((hFq8113 376 1 rfl).trans ((hFq8095 376 1 rfl).trans (yup_na (by decide))))))))
          have es8140 : (yup (yup (yup mq8119 403 (((1000 + (8 * rq8119)) + 5).toNat) ((16 * (m 386 1)) + 0)) 403 (((1000 + (8 * rq8119)) + 6).toNat) ((-1))) 403 (((1000 + (8 * rq8119)) + 7).toNat) ((-1))) 376 3 = mq8113 376 3 := ((yup_na (by decide)).trans ((yup_na (by decide)).trans ((yup_na (by decide)).trans (hFq8119 376 3 rfl))))
          have es8141 : (yup (yup (yup mq8119 403 (((1000 + (8 * rq8119)) + 5).toNat) ((16 * (m 386 1)) + 0)) 403 (((1000 + (8 * rq8119)) + 6).toNat) ((-1))) 403 (((1000 + (8 * rq8119)) + 7).toNat) ((-1))) 376 6 = mq8113 376 6 := ((yup_na (by decide)).trans ((yup_na (by decide)).trans ((yup_na (by decide)).trans (hFq8119 376 6 rfl))))
          have es8142 : (yup (yup (yup mq8119 403 (((1000 + (8 * rq8119)) + 5).toNat) ((16 * (m 386 1)) + 0)) 403 (((1000 + (8 * rq8119)) + 6).toNat) ((-1))) 403 (((1000 + (8 * rq8119)) + 7).toNat) ((-1))) 376 8 = mq8113 376 8 := ((yup_na (by decide)).trans ((yup_na (by decide)).trans ((yup_na (by decide)).trans (hFq8119 376 8 rfl))))
          have es8143 : (yup (yup (yup mq8119 403 (((1000 + (8 * rq8119)) + 5).toNat) ((16 * (m 386 1)) + 0)) 403 (((1000 + (8 * rq8119)) + 6).toNat) ((-1))) 403 (((1000 + (8 * rq8119)) + 7).toNat) ((-1))) 390 1 = mq8119 390 1 := rfl
          have tb8144 := hTq8119.atp 390 1 0 125 rfl
          have es8145 : (yup (yup (yup mq8119 403 (((1000 + (8 * rq8119)) + 5).toNat) ((16 * (m 386 1)) + 0)) 403 (((1000 + (8 * rq8119)) + 6).toNat) ((-1))) 403 (((1000 + (8 * rq8119)) + 7).toNat) ((-1))) 386 1 = (m 386 1) + 1 := ((yup_na (by decide)).trans ((yup_na (by decide)).trans ((yup_na (by decide)).trans ((hFq8119 386 1 rfl).trans ((hFq8113 386 1 rfl).trans ((hFq8095 386 1 rfl).trans (yup_eq _ _ _ _)))))))
          have es8146 : (yup (yup (yup mq8119 403 (((1000 + (8 * rq8119)) + 5).toNat) ((16 * (m 386 1)) + 0)) 403 (((1000 + (8 * rq8119)) + 6).toNat) ((-1))) 403 (((1000 + (8 * rq8119)) + 7).toNat) ((-1))) 387 1 = m 387 1 := ((yup_na (by decide)).trans ((yup_na (by decide)).trans ((yup_na (by decide)).trans ((hFq8119 387 1 rfl).trans ((hFq8113 387 1 rfl).trans ((hFq8095 387 1 rfl).trans (yup_na (by decide))))))))
          have es8147 : (yup (yup (yup mq8119 403 (((1000 + (8 * rq8119)) + 5).toNat) ((16 * (m 386 1)) + 0)) 403 (((1000 + (8 * rq8119)) + 6).toNat) ((-1))) 403 (((1000 + (8 * rq8119)) + 7).toNat) ((-1))) 388 1 = m 388 1 := ((yup_na (by decide)).trans ((yup_na (by decide)).trans ((yup_na (by decide)).trans ((hFq8119 388 1 rfl).trans ((hFq8113 388 1 rfl).trans ((hFq8095 388 1 rfl).trans (yup_na (by decide))))))))
          have es8148 : (yup (yup (yup mq8119 403 (((1000 + (8 * rq8119)) + 5).toNat) ((16 * (m 386 1)) + 0)) 403 (((1000 + (8 * rq8119)) + 6).toNat) ((-1))) 403 (((1000 + (8 * rq8119)) + 7).toNat) ((-1))) 376 17 = m 376 17 := ((yup_na (by decide)).trans ((yup_na (by decide)).trans ((yup_na (by decide)).trans ((hFq8119 376 17 rfl).trans ((hFq8113 376 17 rfl).trans ((hFq8095 376 17 rfl).trans (yup_na (by decide))))))))
          have es8149 : (yup (yup (yup mq8119 403 (((1000 + (8 * rq8119)) + 5).toNat) ((16 * (m 386 1)) + 0)) 403 (((1000 + (8 * rq8119)) + 6).toNat) ((-1))) 403 (((1000 + (8 * rq8119)) + 7).toNat) ((-1))) 384 1 = m 384 1 := ((yup_na (by decide)).trans ((yup_na (by decide)).trans ((yup_na (by decide)).trans ((hFq8119 384 1 rfl).trans ((hFq8113 384 1 rfl).trans ((hFq8095 384 1 rfl).trans (yup_na (by decide))))))))
          have em8150 : mu (yup (yup (yup mq8119 403 (((1000 + (8 * rq8119)) + 5).toNat) ((16 * (m 386 1)) + 0)) 403 (((1000 + (8 * rq8119)) + 6).toNat) ((-1))) 403 (((1000 + (8 * rq8119)) + 7).toNat) ((-1))) = mu mq8113 := mu_fr ((yup_na (by decide)).trans ((yup_na (by decide)).trans ((yup_na (by decide)).trans (hFq8119 376 1 rfl)))) ((yup_na (by decide)).trans ((yup_na (by decide)).trans ((yup_na (by decide)).trans (hFq8119 376 3 rfl)))) ((yup_na (by decide)).trans ((yup_na (by decide)).trans ((yup_na (by decide)).trans (hFq8119 376 6 rfl))))
          have f0 : (yup (yup (yup mq8119 403 (((1000 + (8 * rq8119)) + 5).toNat) ((16 * (m 386 1)) + 0)) 403 (((1000 + (8 * rq8119)) + 6).toNat) ((-1))) 403 (((1000 + (8 * rq8119)) + 7).toNat) ((-1))) 403 (1000 * 1 + 8 * (m 390 1).toNat) = _ := ((yup_nk (by omega)).trans ((yup_nk (by omega)).trans (yup_nk (by omega)))).trans k2
          have f1 : (yup (yup (yup mq8119 403 (((1000 + (8 * rq8119)) + 5).toNat) ((16 * (m 386 1)) + 0)) 403 (((1000 + (8 * rq8119)) + 6).toNat) ((-1))) 403 (((1000 + (8 * rq8119)) + 7).toNat) ((-1))) 403 (1000 * 1 + 8 * (m 390 1).toNat + 1) = _ := ((yup_nk (by omega)).trans ((yup_nk (by omega)).trans (yup_nk (by omega)))).trans k3
          have f2 : (yup (yup (yup mq8119 403 (((1000 + (8 * rq8119)) + 5).toNat) ((16 * (m 386 1)) + 0)) 403 (((1000 + (8 * rq8119)) + 6).toNat) ((-1))) 403 (((1000 + (8 * rq8119)) + 7).toNat) ((-1))) 403 (1000 * 1 + 8 * (m 390 1).toNat + 2) = _ := ((yup_nk (by omega)).trans ((yup_nk (by omega)).trans (yup_nk (by omega)))).trans k4
          have f3 : (yup (yup (yup mq8119 403 (((1000 + (8 * rq8119)) + 5).toNat) ((16 * (m 386 1)) + 0)) 403 (((1000 + (8 * rq8119)) + 6).toNat) ((-1))) 403 (((1000 + (8 * rq8119)) + 7).toNat) ((-1))) 403 (1000 * 1 + 8 * (m 390 1).toNat + 3) = _ := ((yup_nk (by omega)).trans ((yup_nk (by omega)).trans (yup_nk (by omega)))).trans k5
          have f4 : (yup (yup (yup mq8119 403 (((1000 + (8 * rq8119)) + 5).toNat) ((16 * (m 386 1)) + 0)) 403 (((1000 + (8 * rq8119)) + 6).toNat) ((-1))) 403 (((1000 + (8 * rq8119)) + 7).toNat) ((-1))) 403 (1000 * 1 + 8 * (m 390 1).toNat + 4) = _ := ((yup_nk (by omega)).trans ((yup_nk (by omega)).trans (yup_nk (by omega)))).trans k6
          have f5 : (yup (yup (yup mq8119 403 (((1000 + (8 * rq8119)) + 5).toNat) ((16 * (m 386 1)) + 0)) 403 (((1000 + (8 * rq8119)) + 6).toNat) ((-1))) 403 (((1000 + (8 * rq8119)) + 7).toNat) ((-1))) 403 (1000 * 1 + 8 * (m 390 1).toNat + 5) = (16 * (m 386 1)) + 0 := by rw [show 1000 * 1 + 8 * (m 390 1).toNat + 5 = (1000 + 8 * rq8119 + 5).toNat by omega]; repeat (first | rw [yup_eq] | rw [yup_na (by omega)] | rw [yup_nk (by omega)])
          have f6 : (yup (yup (yup mq8119 403 (((1000 + (8 * rq8119)) + 5).toNat) ((16 * (m 386 1)) + 0)) 403 (((1000 + (8 * rq8119)) + 6).toNat) ((-1))) 403 (((1000 + (8 * rq8119)) + 7).toNat) ((-1))) 403 (1000 * 1 + 8 * (m 390 1).toNat + 6) = (-1) := by rw [show 1000 * 1 + 8 * (m 390 1).toNat + 6 = (1000 + 8 * rq8119 + 6).toNat by omega]; repeat (first | rw [yup_eq] | rw [yup_na (by omega)] | rw [yup_nk (by omega)])
          have f7 : (yup (yup (yup mq8119 403 (((1000 + (8 * rq8119)) + 5).toNat) ((16 * (m 386 1)) + 0)) 403 (((1000 + (8 * rq8119)) + 6).toNat) ((-1))) 403 (((1000 + (8 * rq8119)) + 7).toNat) ((-1))) 403 (1000 * 1 + 8 * (m 390 1).toNat + 7) = (-1) := by rw [show 1000 * 1 + 8 * (m 390 1).toNat + 7 = (1000 + 8 * rq8119 + 7).toNat by omega]; repeat (first | rw [yup_eq] | rw [yup_na (by omega)] | rw [yup_nk (by omega)])
          have hw : OW (yup (yup (yup mq8119 403 (((1000 + (8 * rq8119)) + 5).toNat) ((16 * (m 386 1)) + 0)) 403 (((1000 + (8 * rq8119)) + 6).toNat) ((-1))) 403 (((1000 + (8 * rq8119)) + 7).toNat) ((-1))) (1000 * 1 + 8 * (m 390 1).toNat) := by unfold OW; omega
          have hx : XS 1 (yup (yup (yup mq8119 403 (((1000 + (8 * rq8119)) + 5).toNat) ((16 * (m 386 1)) + 0)) 403 (((1000 + (8 * rq8119)) + 6).toNat) ((-1))) 403 (((1000 + (8 * rq8119)) + 7).toNat) ((-1))) := XS.add hX (by omega) (fun a q ha => hF8138 a q (wSt1_Y a q ha)) (fun q hq => ((yup_nk (by omega)).trans ((yup_nk (by omega)).trans (yup_nk (by omega)))).trans (k8 q hq)) hw (by omega) (by omega) (by omega) (by omega) (by omega) (by omega) (by omega) (fun c hc => by rw [show (yup (yup (yup mq8119 403 (((1000 + (8 * rq8119)) + 5).toNat) ((16 * (m 386 1)) + 0)) 403 (((1000 + (8 * rq8119)) + 6).toNat) ((-1))) 403 (((1000 + (8 * rq8119)) + 7).toNat) ((-1))) 401 (8 * 1 + c) = m 401 (8 * 1 + c) from ((yup_na (by decide)).trans ((yup_na (by decide)).trans ((yup_na (by decide)).trans ((hFq8119 401 _ rfl).trans ((hFq8113 401 _ rfl).trans ((hFq8095 401 _ rfl).trans (yup_na (by decide))))))))]; exact hCV c (by omega)) (by omega) (by omega)
          exact y_retU c132_184 ⟨rfl, hT8137, hF8138, by omega, Or.inr ⟨by omega, by omega, by omega, hx⟩⟩
        · have es8151 : mq8113 376 1 = m 376 1 := ((hFq8113 376 1 rfl).trans ((hFq8095 376 1 rfl).trans (yup_na (by decide))))
          have tb8152 := hTq8113.atp 376 3 0 3 rfl
          have tb8153 := hTq8113.atp 376 6 0 320 rfl
          have tb8154 := hTq8113.atp 376 8 ((-1)) 320 rfl
          exact y_retU c132_121 ⟨rfl, hTq8113, hF8117, by omega, Or.inl (by omega)⟩
    · refine y_aload 68 c132_67 rfl rfl rfl ?_
      have es8156 : mq8095 376 1 = m 376 1 := ((hFq8095 376 1 rfl).trans (yup_na (by decide)))
      have tb8157 := hTq8095.atp 376 6 0 320 rfl
      have es8158 : mq8095 376 8 = m 376 8 := ((hFq8095 376 8 rfl).trans (yup_na (by decide)))
      have es8159 : mq8095 376 18 = m 376 18 := ((hFq8095 376 18 rfl).trans (yup_na (by decide)))
      refine y_callIB 71 [.ref 376] [] c132_68 rfl rfl rfl rfl rfl (ycanO km130 ko376) (t130_1 hTq8095 (by omega) (by omega) (by omega)) (fun rq8155 mq8155 nq8155 hq8155 => ?_)
      obtain ⟨rfl, hTq8155, hFq8155, hq8155⟩ := hq8155
      have x1q8155 : mq8155 376 1 = m 376 1 := ((hFq8155 376 1 rfl).trans ((hFq8095 376 1 rfl).trans (yup_na (by decide))))
      have hF8160 := hF8105.tr hFq8155 wVr1_wSt1
      refine y_istore 73 c132_71 rfl rfl ?_
      refine y_iconst 74 c132_73 rfl ?_
      refine y_istore 76 c132_74 rfl rfl ?_
      refine y_aload 77 c132_76 rfl rfl rfl ?_
      refine y_getX 80 (mq8155 376 8) c132_77 rfl kf376_8 rfl ?_
      have tb8161 := hTq8155.atp 376 8 ((-1)) 320 rfl
      refine y_if 105 83 c132_80 rfl rfl (yz_ge (by omega)) (fun hb8162 => ?_) (fun hb8162 => ?_)
      · refine y_aload 106 c132_105 rfl rfl rfl ?_
        refine y_getX 109 (mq8155 376 8) c132_106 rfl kf376_8 rfl ?_
        refine y_if 121 112 c132_109 rfl rfl (yz_ge (by omega)) (fun hb8163 => ?_) (fun hb8163 => ?_)
        · have es8164 : mq8155 376 1 = m 376 1 := ((hFq8155 376 1 rfl).trans ((hFq8095 376 1 rfl).trans (yup_na (by decide))))
          have tb8165 := hTq8155.atp 376 3 0 3 rfl
          have tb8166 := hTq8155.atp 376 6 0 320 rfl
          exact y_retU c132_121 ⟨rfl, hTq8155, hF8160, by omega, Or.inl (by omega)⟩
        · exfalso; omega
      · refine y_aload 84 c132_83 rfl rfl rfl ?_
        refine y_iconst 86 c132_84 rfl ?_
        have tb8167 := hTq8155.atp 376 3 0 3 rfl
        refine y_callP 89 [.ref 376, yI 44] [] c132_86 rfl rfl rfl rfl rfl (ycanO km117 ko376) (t117 hTq8155 (by omega)) (fun r8168 hr8168 => ?_)
        refine y_if 105 92 c132_89 rfl rfl (yz_eq (by omega)) (fun hb8169 => ?_) (fun hb8169 => ?_)
        · refine y_aload 106 c132_105 rfl rfl rfl ?_
          refine y_getX 109 (mq8155 376 8) c132_106 rfl kf376_8 rfl ?_
          refine y_top ((-1)) (by omega) ?_
          refine y_if 121 112 c132_109 rfl rfl (yz_ge (by omega)) (fun hb8170 => ?_) (fun hb8170 => ?_)
          · exfalso; omega
          · refine y_aload 113 c132_112 rfl rfl rfl ?_
            refine y_iconst 115 c132_113 rfl ?_
            have es8172 : mq8155 376 1 = m 376 1 := ((hFq8155 376 1 rfl).trans ((hFq8095 376 1 rfl).trans (yup_na (by decide))))
            have tb8173 := hTq8155.atp 376 6 0 320 rfl
            refine y_callIB 118 [.ref 376, yI 41] [] c132_115 rfl rfl rfl rfl rfl (ycanO km118 ko376) (t118 hTq8155 (by omega) (by omega)) (fun rq8171 mq8171 nq8171 hq8171 => ?_)
            obtain ⟨rfl, hTq8171, hFq8171, hq8171⟩ := hq8171
            have x1q8171 : mq8171 376 1 = m 376 1 := ((hFq8171 376 1 rfl).trans ((hFq8155 376 1 rfl).trans ((hFq8095 376 1 rfl).trans (yup_na (by decide)))))
            have hF8174 := hF8160.tr hFq8171 wNw_wSt1
            refine y_if 122 121 c132_118 rfl rfl (yz_ne (by omega)) (fun hb8175 => ?_) (fun hb8175 => ?_)
            · refine y_iconst 125 c132_122 rfl ?_
              refine y_iload 127 c132_125 rfl rfl ?_
              refine y_imul 128 c132_127 rfl ?_
              refine y_top 1000 (by decide) ?_
              refine y_iconst 130 c132_128 rfl ?_
              refine y_aload 131 c132_130 rfl rfl rfl ?_
              refine y_iconst 133 c132_131 rfl ?_
              refine y_iload 134 c132_133 rfl rfl ?_
              refine y_iload 135 c132_134 rfl rfl ?_
              refine y_iload 136 c132_135 rfl rfl ?_
              have es8177 : mq8171 376 1 = m 376 1 := ((hFq8171 376 1 rfl).trans ((hFq8155 376 1 rfl).trans ((hFq8095 376 1 rfl).trans (yup_na (by decide)))))
              have tb8178 := hTq8171.atp 376 3 0 3 rfl
              have tb8179 := hTq8171.atp 376 6 0 320 rfl
              have tb8180 := hTq8171.atp 376 8 ((-1)) 320 rfl
              have es8181 : mq8171 376 18 = m 376 18 := ((hFq8171 376 18 rfl).trans ((hFq8155 376 18 rfl).trans ((hFq8095 376 18 rfl).trans (yup_na (by decide)))))
              have es8182 : mq8171 390 1 = m 390 1 := ((hFq8171 390 1 rfl).trans ((hFq8155 390 1 rfl).trans ((hFq8095 390 1 rfl).trans (yup_na (by decide)))))
              have es8183 : mq8171 386 1 = (m 386 1) + 1 := ((hFq8171 386 1 rfl).trans ((hFq8155 386 1 rfl).trans ((hFq8095 386 1 rfl).trans (yup_eq _ _ _ _))))
              have es8184 : mq8171 387 1 = m 387 1 := ((hFq8171 387 1 rfl).trans ((hFq8155 387 1 rfl).trans ((hFq8095 387 1 rfl).trans (yup_na (by decide)))))
              have es8185 : mq8171 388 1 = m 388 1 := ((hFq8171 388 1 rfl).trans ((hFq8155 388 1 rfl).trans ((hFq8095 388 1 rfl).trans (yup_na (by decide)))))
              have es8186 : mq8171 376 17 = m 376 17 := ((hFq8171 376 17 rfl).trans ((hFq8155 376 17 rfl).trans ((hFq8095 376 17 rfl).trans (yup_na (by decide)))))
              have tb8187 := hT.atp 376 17 0 20 rfl
              have es8188 : mq8171 384 1 = m 384 1 := ((hFq8171 384 1 rfl).trans ((hFq8155 384 1 rfl).trans ((hFq8095 384 1 rfl).trans (yup_na (by decide)))))
              refine y_callIB 139 [.ref 376, yI 7, yI v, yI u, yI b] [yI 8, yI 1000] c132_136 rfl rfl rfl rfl rfl (ycanO km127 ko376) (t127_1 hTq8171 (by omega) (by omega) (by omega) (by omega) (by omega) (by omega)) (fun rq8176 mq8176 nq8176 hq8176 => ?_)
              obtain ⟨rfl, hTq8176, hFq8176, hq8176, hE⟩ := hq8176
              unfold EM at hE
              rw [show mq8171 390 1 = m 390 1 from ((hFq8171 390 1 rfl).trans ((hFq8155 390 1 rfl).trans ((hFq8095 390 1 rfl).trans (yup_na (by decide)))))] at hE
              obtain ⟨k1, k2, k3, k4, k5, k6, k7⟩ := hE
              have k8 : ∀ q, q < 1000 * 1 + 8 * (m 390 1).toNat ∨ 1000 * 1 + 8 * (m 390 1).toNat + 8 ≤ q → mq8176 403 q = m 403 q := fun q hq => (k7 q hq).trans (((hFq8171 403 q rfl).trans ((hFq8155 403 q rfl).trans ((hFq8095 403 q rfl).trans (yup_na (by decide))))))
              have x1q8176 : mq8176 376 1 = m 376 1 := ((hFq8176 376 1 rfl).trans ((hFq8171 376 1 rfl).trans ((hFq8155 376 1 rfl).trans ((hFq8095 376 1 rfl).trans (yup_na (by decide))))))
              have hF8189 := hF8174.tr hFq8176 wEm1_wSt1
              refine y_imul 140 c132_139 rfl ?_
              refine y_iadd 141 c132_140 rfl ?_
              refine y_istore 143 c132_141 rfl rfl ?_
              refine y_aload 144 c132_143 rfl rfl rfl ?_
              refine y_getR 147 c132_144 rfl kf376_40 ?_
              refine y_iload 149 c132_147 rfl rfl ?_
              refine y_iconst 150 c132_149 rfl ?_
              refine y_iadd 151 c132_150 rfl ?_
              refine y_iconst 153 c132_151 rfl ?_
              refine y_iload 155 c132_153 rfl rfl ?_
              refine y_imul 156 c132_155 rfl ?_
              refine y_iload 158 c132_156 rfl rfl ?_
              refine y_iadd 159 c132_158 rfl ?_
              refine y_iastore 160 c132_159 rfl ka403 (by omega) (y_nar0 _) ?_
              have hT8190 := hTq8176.up 403 (((1000 + (8 * rq8176)) + 5).toNat) ((16 * (m 386 1)) + 1) ((-2147483648)) 2147483647 rfl (by omega)
              have hF8191 := hF8189.up 403 (((1000 + (8 * rq8176)) + 5).toNat) ((16 * (m 386 1)) + 1) (wSt1_403 (by omega))
              refine y_aload 161 c132_160 rfl rfl rfl ?_
              refine y_getR 164 c132_161 rfl kf376_40 ?_
              refine y_iload 166 c132_164 rfl rfl ?_
              refine y_iconst 168 c132_166 rfl ?_
              refine y_iadd 169 c132_168 rfl ?_
              refine y_iload 171 c132_169 rfl rfl ?_
              refine y_iastore 172 c132_171 rfl ka403 (by omega) (y_nar0 _) ?_
              have hT8192 := hT8190.up 403 (((1000 + (8 * rq8176)) + 6).toNat) rq8155 ((-2147483648)) 2147483647 rfl (by omega)
              have hF8193 := hF8191.up 403 (((1000 + (8 * rq8176)) + 6).toNat) rq8155 (wSt1_403 (by omega))
              refine y_aload 173 c132_172 rfl rfl rfl ?_
              refine y_getR 176 c132_173 rfl kf376_40 ?_
              refine y_iload 178 c132_176 rfl rfl ?_
              refine y_iconst 180 c132_178 rfl ?_
              refine y_iadd 181 c132_180 rfl ?_
              refine y_iload 183 c132_181 rfl rfl ?_
              refine y_iastore 184 c132_183 rfl ka403 (by omega) (y_nar0 _) ?_
              have hT8194 := hT8192.up 403 (((1000 + (8 * rq8176)) + 7).toNat) ((-1)) ((-2147483648)) 2147483647 rfl (by omega)
              have hF8195 := hF8193.up 403 (((1000 + (8 * rq8176)) + 7).toNat) ((-1)) (wSt1_403 (by omega))
              have es8196 : (yup (yup (yup mq8176 403 (((1000 + (8 * rq8176)) + 5).toNat) ((16 * (m 386 1)) + 1)) 403 (((1000 + (8 * rq8176)) + 6).toNat) rq8155) 403 (((1000 + (8 * rq8176)) + 7).toNat) ((-1))) 376 1 = m 376 1 := ((yup_na (by decide)).trans ((yup_na (by decide)).trans ((yup_na (by decide)).trans ((hFq8176 376 1 rfl).trans ((hFq8171 376 1 rfl).trans ((hFq8155 376 1 rfl).trans ((hFq8095 376 1 rfl).trans (yup_na (by decide)))))))))
              have es8197 : (yup (yup (yup mq8176 403 (((1000 + (8 * rq8176)) + 5).toNat) ((16 * (m 386 1)) + 1)) 403 (((1000 + (8 * rq8176)) + 6).toNat) rq8155) 403 (((1000 + (8 * rq8176)) + 7).toNat) ((-1))) 376 3 = mq8171 376 3 := ((yup_na (by decide)).trans ((yup_na (by decide)).trans ((yup_na (by decide)).trans (hFq8176 376 3 rfl))))
              have es8198 : (yup (yup (yup mq8176 403 (((1000 + (8 * rq8176)) + 5).toNat) ((16 * (m 386 1)) + 1)) 403 (((1000 + (8 * rq8176)) + 6).toNat) rq8155) 403 (((1000 + (8 * rq8176)) + 7).toNat) ((-1))) 376 6 = mq8171 376 6 := ((yup_na (by decide)).trans ((yup_na (by decide)).trans ((yup_na (by decide)).trans (hFq8176 376 6 rfl))))
              have es8199 : (yup (yup (yup mq8176 403 (((1000 + (8 * rq8176)) + 5).toNat) ((16 * (m 386 1)) + 1)) 403 (((1000 + (8 * rq8176)) + 6).toNat) rq8155) 403 (((1000 + (8 * rq8176)) + 7).toNat) ((-1))) 376 8 = mq8171 376 8 := ((yup_na (by decide)).trans ((yup_na (by decide)).trans ((yup_na (by decide)).trans (hFq8176 376 8 rfl))))
              have es8200 : (yup (yup (yup mq8176 403 (((1000 + (8 * rq8176)) + 5).toNat) ((16 * (m 386 1)) + 1)) 403 (((1000 + (8 * rq8176)) + 6).toNat) rq8155) 403 (((1000 + (8 * rq8176)) + 7).toNat) ((-1))) 390 1 = mq8176 390 1 := rfl
              have tb8201 := hTq8176.atp 390 1 0 125 rfl
              have es8202 : (yup (yup (yup mq8176 403 (((1000 + (8 * rq8176)) + 5).toNat) ((16 * (m 386 1)) + 1)) 403 (((1000 + (8 * rq8176)) + 6).toNat) rq8155) 403 (((1000 + (8 * rq8176)) + 7).toNat) ((-1))) 386 1 = (m 386 1) + 1 := ((yup_na (by decide)).trans ((yup_na (by decide)).trans ((yup_na (by decide)).trans ((hFq8176 386 1 rfl).trans ((hFq8171 386 1 rfl).trans ((hFq8155 386 1 rfl).trans ((hFq8095 386 1 rfl).trans (yup_eq _ _ _ _))))))))
              have es8203 : (yup (yup (yup mq8176 403 (((1000 + (8 * rq8176)) + 5).toNat) ((16 * (m 386 1)) + 1)) 403 (((1000 + (8 * rq8176)) + 6).toNat) rq8155) 403 (((1000 + (8 * rq8176)) + 7).toNat) ((-1))) 387 1 = m 387 1 := ((yup_na (by decide)).trans ((yup_na (by decide)).trans ((yup_na (by decide)).trans ((hFq8176 387 1 rfl).trans ((hFq8171 387 1 rfl).trans ((hFq8155 387 1 rfl).trans ((hFq8095 387 1 rfl).trans (yup_na (by decide)))))))))
              have es8204 : (yup (yup (yup mq8176 403 (((1000 + (8 * rq8176)) + 5).toNat) ((16 * (m 386 1)) + 1)) 403 (((1000 + (8 * rq8176)) + 6).toNat) rq8155) 403 (((1000 + (8 * rq8176)) + 7).toNat) ((-1))) 388 1 = m 388 1 := ((yup_na (by decide)).trans ((yup_na (by decide)).trans ((yup_na (by decide)).trans ((hFq8176 388 1 rfl).trans ((hFq8171 388 1 rfl).trans ((hFq8155 388 1 rfl).trans ((hFq8095 388 1 rfl).trans (yup_na (by decide)))))))))
              have es8205 : (yup (yup (yup mq8176 403 (((1000 + (8 * rq8176)) + 5).toNat) ((16 * (m 386 1)) + 1)) 403 (((1000 + (8 * rq8176)) + 6).toNat) rq8155) 403 (((1000 + (8 * rq8176)) + 7).toNat) ((-1))) 376 17 = m 376 17 := ((yup_na (by decide)).trans ((yup_na (by decide)).trans ((yup_na (by decide)).trans ((hFq8176 376 17 rfl).trans ((hFq8171 376 17 rfl).trans ((hFq8155 376 17 rfl).trans ((hFq8095 376 17 rfl).trans (yup_na (by decide)))))))))
              have es8206 : (yup (yup (yup mq8176 403 (((1000 + (8 * rq8176)) + 5).toNat) ((16 * (m 386 1)) + 1)) 403 (((1000 + (8 * rq8176)) + 6).toNat) rq8155) 403 (((1000 + (8 * rq8176)) + 7).toNat) ((-1))) 384 1 = m 384 1 := ((yup_na (by decide)).trans ((yup_na (by decide)).trans ((yup_na (by decide)).trans ((hFq8176 384 1 rfl).trans ((hFq8171 384 1 rfl).trans ((hFq8155 384 1 rfl).trans ((hFq8095 384 1 rfl).trans (yup_na (by decide)))))))))
              have em8207 : mu (yup (yup (yup mq8176 403 (((1000 + (8 * rq8176)) + 5).toNat) ((16 * (m 386 1)) + 1)) 403 (((1000 + (8 * rq8176)) + 6).toNat) rq8155) 403 (((1000 + (8 * rq8176)) + 7).toNat) ((-1))) = mu mq8171 := mu_fr ((yup_na (by decide)).trans ((yup_na (by decide)).trans ((yup_na (by decide)).trans (hFq8176 376 1 rfl)))) ((yup_na (by decide)).trans ((yup_na (by decide)).trans ((yup_na (by decide)).trans (hFq8176 376 3 rfl)))) ((yup_na (by decide)).trans ((yup_na (by decide)).trans ((yup_na (by decide)).trans (hFq8176 376 6 rfl))))
              have f0 : (yup (yup (yup mq8176 403 (((1000 + (8 * rq8176)) + 5).toNat) ((16 * (m 386 1)) + 1)) 403 (((1000 + (8 * rq8176)) + 6).toNat) rq8155) 403 (((1000 + (8 * rq8176)) + 7).toNat) ((-1))) 403 (1000 * 1 + 8 * (m 390 1).toNat) = _ := ((yup_nk (by omega)).trans ((yup_nk (by omega)).trans (yup_nk (by omega)))).trans k2
              have f1 : (yup (yup (yup mq8176 403 (((1000 + (8 * rq8176)) + 5).toNat) ((16 * (m 386 1)) + 1)) 403 (((1000 + (8 * rq8176)) + 6).toNat) rq8155) 403 (((1000 + (8 * rq8176)) + 7).toNat) ((-1))) 403 (1000 * 1 + 8 * (m 390 1).toNat + 1) = _ := ((yup_nk (by omega)).trans ((yup_nk (by omega)).trans (yup_nk (by omega)))).trans k3
              have f2 : (yup (yup (yup mq8176 403 (((1000 + (8 * rq8176)) + 5).toNat) ((16 * (m 386 1)) + 1)) 403 (((1000 + (8 * rq8176)) + 6).toNat) rq8155) 403 (((1000 + (8 * rq8176)) + 7).toNat) ((-1))) 403 (1000 * 1 + 8 * (m 390 1).toNat + 2) = _ := ((yup_nk (by omega)).trans ((yup_nk (by omega)).trans (yup_nk (by omega)))).trans k4
              have f3 : (yup (yup (yup mq8176 403 (((1000 + (8 * rq8176)) + 5).toNat) ((16 * (m 386 1)) + 1)) 403 (((1000 + (8 * rq8176)) + 6).toNat) rq8155) 403 (((1000 + (8 * rq8176)) + 7).toNat) ((-1))) 403 (1000 * 1 + 8 * (m 390 1).toNat + 3) = _ := ((yup_nk (by omega)).trans ((yup_nk (by omega)).trans (yup_nk (by omega)))).trans k5
              have f4 : (yup (yup (yup mq8176 403 (((1000 + (8 * rq8176)) + 5).toNat) ((16 * (m 386 1)) + 1)) 403 (((1000 + (8 * rq8176)) + 6).toNat) rq8155) 403 (((1000 + (8 * rq8176)) + 7).toNat) ((-1))) 403 (1000 * 1 + 8 * (m 390 1).toNat + 4) = _ := ((yup_nk (by omega)).trans ((yup_nk (by omega)).trans (yup_nk (by omega)))).trans k6
              have f5 : (yup (yup (yup mq8176 403 (((1000 + (8 * rq8176)) + 5).toNat) ((16 * (m 386 1)) + 1)) 403 (((1000 + (8 * rq8176)) + 6).toNat) rq8155) 403 (((1000 + (8 * rq8176)) + 7).toNat) ((-1))) 403 (1000 * 1 + 8 * (m 390 1).toNat + 5) = (16 * (m 386 1)) + 1 := by rw [show 1000 * 1 + 8 * (m 390 1).toNat + 5 = (1000 + 8 * rq8176 + 5).toNat by omega]; repeat (first | rw [yup_eq] | rw [yup_na (by omega)] | rw [yup_nk (by omega)])
              have f6 : (yup (yup (yup mq8176 403 (((1000 + (8 * rq8176)) + 5).toNat) ((16 * (m 386 1)) + 1)) 403 (((1000 + (8 * rq8176)) + 6).toNat) rq8155) 403 (((1000 + (8 * rq8176)) + 7).toNat) ((-1))) 403 (1000 * 1 + 8 * (m 390 1).toNat + 6) = rq8155 := by rw [show 1000 * 1 + 8 * (m 390 1).toNat + 6 = (1000 + 8 * rq8176 + 6).toNat by omega]; repeat (first | rw [yup_eq] | rw [yup_na (by omega)] | rw [yup_nk (by omega)])
              have f7 : (yup (yup (yup mq8176 403 (((1000 + (8 * rq8176)) + 5).toNat) ((16 * (m 386 1)) + 1)) 403 (((1000 + (8 * rq8176)) + 6).toNat) rq8155) 403 (((1000 + (8 * rq8176)) + 7).toNat) ((-1))) 403 (1000 * 1 + 8 * (m 390 1).toNat + 7) = (-1) := by rw [show 1000 * 1 + 8 * (m 390 1).toNat + 7 = (1000 + 8 * rq8176 + 7).toNat by omega]; repeat (first | rw [yup_eq] | rw [yup_na (by omega)] | rw [yup_nk (by omega)])
              have hw : OW (yup (yup (yup mq8176 403 (((1000 + (8 * rq8176)) + 5).toNat) ((16 * (m 386 1)) + 1)) 403 (((1000 + (8 * rq8176)) + 6).toNat) rq8155) 403 (((1000 + (8 * rq8176)) + 7).toNat) ((-1))) (1000 * 1 + 8 * (m 390 1).toNat) := by unfold OW; omega
              have hx : XS 1 (yup (yup (yup mq8176 403 (((1000 + (8 * rq8176)) + 5).toNat) ((16 * (m 386 1)) + 1)) 403 (((1000 + (8 * rq8176)) + 6).toNat) rq8155) 403 (((1000 + (8 * rq8176)) + 7).toNat) ((-1))) := XS.add hX (by omega) (fun a q ha => hF8195 a q (wSt1_Y a q ha)) (fun q hq => ((yup_nk (by omega)).trans ((yup_nk (by omega)).trans (yup_nk (by omega)))).trans (k8 q hq)) hw (by omega) (by omega) (by omega) (by omega) (by omega) (by omega) (by omega) (fun c hc => by rw [show (yup (yup (yup mq8176 403 (((1000 + (8 * rq8176)) + 5).toNat) ((16 * (m 386 1)) + 1)) 403 (((1000 + (8 * rq8176)) + 6).toNat) rq8155) 403 (((1000 + (8 * rq8176)) + 7).toNat) ((-1))) 401 (8 * 1 + c) = m 401 (8 * 1 + c) from ((yup_na (by decide)).trans ((yup_na (by decide)).trans ((yup_na (by decide)).trans ((hFq8176 401 _ rfl).trans ((hFq8171 401 _ rfl).trans ((hFq8155 401 _ rfl).trans ((hFq8095 401 _ rfl).trans (yup_na (by decide)))))))))]; exact hCV c (by omega)) (by omega) (by omega)
              exact y_retU c132_184 ⟨rfl, hT8194, hF8195, by omega, Or.inr ⟨by omega, by omega, by omega, hx⟩⟩
            · have es8208 : mq8171 376 1 = m 376 1 := ((hFq8171 376 1 rfl).trans ((hFq8155 376 1 rfl).trans ((hFq8095 376 1 rfl).trans (yup_na (by decide)))))
              have tb8209 := hTq8171.atp 376 3 0 3 rfl
              have tb8210 := hTq8171.atp 376 6 0 320 rfl
              have tb8211 := hTq8171.atp 376 8 ((-1)) 320 rfl
              exact y_retU c132_121 ⟨rfl, hTq8171, hF8174, by omega, Or.inl (by omega)⟩
        · refine y_aload 93 c132_92 rfl rfl rfl ?_
          have es8213 : mq8155 376 1 = m 376 1 := ((hFq8155 376 1 rfl).trans ((hFq8095 376 1 rfl).trans (yup_na (by decide))))
          have tb8214 := hTq8155.atp 376 6 0 320 rfl
          refine y_callUB 96 [.ref 376] [] c132_93 rfl rfl rfl rfl rfl (ycanO km99 ko376) (t99u hTq8155 (by omega)) (fun mq8212 nq8212 hq8212 => ?_)
          obtain ⟨rfl, hTq8212, hFq8212, hq8212⟩ := hq8212
          have x1q8212 : mq8212 376 1 = m 376 1 := ((hFq8212 376 1 rfl).trans ((hFq8155 376 1 rfl).trans ((hFq8095 376 1 rfl).trans (yup_na (by decide)))))
          have hF8215 := hF8160.tr hFq8212 wNx_wSt1
          refine y_aload 97 c132_96 rfl rfl rfl ?_
          have es8217 : mq8212 376 1 = m 376 1 := ((hFq8212 376 1 rfl).trans ((hFq8155 376 1 rfl).trans ((hFq8095 376 1 rfl).trans (yup_na (by decide)))))
          have tb8218 := hTq8212.atp 376 3 0 3 rfl
          have tb8219 := hTq8212.atp 376 6 0 320 rfl
          have es8220 : mq8212 376 8 = mq8155 376 8 := (hFq8212 376 8 rfl)
          have es8221 : mq8212 376 18 = m 376 18 := ((hFq8212 376 18 rfl).trans ((hFq8155 376 18 rfl).trans ((hFq8095 376 18 rfl).trans (yup_na (by decide)))))
          refine y_callIB 100 [.ref 376] [] c132_97 rfl rfl rfl rfl rfl (ycanO km130 ko376) (t130_1 hTq8212 (by omega) (by omega) (by omega)) (fun rq8216 mq8216 nq8216 hq8216 => ?_)
          obtain ⟨rfl, hTq8216, hFq8216, hq8216⟩ := hq8216
          have x1q8216 : mq8216 376 1 = m 376 1 := ((hFq8216 376 1 rfl).trans ((hFq8212 376 1 rfl).trans ((hFq8155 376 1 rfl).trans ((hFq8095 376 1 rfl).trans (yup_na (by decide))))))
          have hF8222 := hF8215.tr hFq8216 wVr1_wSt1
          refine y_istore 102 c132_100 rfl rfl ?_
          refine y_iconst 103 c132_102 rfl ?_
          refine y_istore 105 c132_103 rfl rfl ?_
          refine y_aload 106 c132_105 rfl rfl rfl ?_
          refine y_getX 109 (mq8216 376 8) c132_106 rfl kf376_8 rfl ?_
          have tb8223 := hTq8216.atp 376 8 ((-1)) 320 rfl
          refine y_if 121 112 c132_109 rfl rfl (yz_ge (by omega)) (fun hb8224 => ?_) (fun hb8224 => ?_)
          · have es8225 : mq8216 376 1 = m 376 1 := ((hFq8216 376 1 rfl).trans ((hFq8212 376 1 rfl).trans ((hFq8155 376 1 rfl).trans ((hFq8095 376 1 rfl).trans (yup_na (by decide))))))
            have tb8226 := hTq8216.atp 376 3 0 3 rfl
            have tb8227 := hTq8216.atp 376 6 0 320 rfl
            exact y_retU c132_121 ⟨rfl, hTq8216, hF8222, by omega, Or.inl (by omega)⟩
          · refine y_aload 113 c132_112 rfl rfl rfl ?_
            refine y_iconst 115 c132_113 rfl ?_
            have es8229 : mq8216 376 1 = m 376 1 := ((hFq8216 376 1 rfl).trans ((hFq8212 376 1 rfl).trans ((hFq8155 376 1 rfl).trans ((hFq8095 376 1 rfl).trans (yup_na (by decide))))))
            have tb8230 := hTq8216.atp 376 3 0 3 rfl
            have tb8231 := hTq8216.atp 376 6 0 320 rfl
            refine y_callIB 118 [.ref 376, yI 41] [] c132_115 rfl rfl rfl rfl rfl (ycanO km118 ko376) (t118 hTq8216 (by omega) (by omega)) (fun rq8228 mq8228 nq8228 hq8228 => ?_)
            obtain ⟨rfl, hTq8228, hFq8228, hq8228⟩ := hq8228
            have x1q8228 : mq8228 376 1 = m 376 1 := ((hFq8228 376 1 rfl).trans ((hFq8216 376 1 rfl).trans ((hFq8212 376 1 rfl).trans ((hFq8155 376 1 rfl).trans ((hFq8095 376 1 rfl).trans (yup_na (by decide)))))))
            have hF8232 := hF8222.tr hFq8228 wNw_wSt1
            refine y_if 122 121 c132_118 rfl rfl (yz_ne (by omega)) (fun hb8233 => ?_) (fun hb8233 => ?_)
            · refine y_iconst 125 c132_122 rfl ?_
              refine y_iload 127 c132_125 rfl rfl ?_
              refine y_imul 128 c132_127 rfl ?_
              refine y_top 1000 (by decide) ?_
              refine y_iconst 130 c132_128 rfl ?_
              refine y_aload 131 c132_130 rfl rfl rfl ?_
              refine y_iconst 133 c132_131 rfl ?_
              refine y_iload 134 c132_133 rfl rfl ?_
              refine y_iload 135 c132_134 rfl rfl ?_
              refine y_iload 136 c132_135 rfl rfl ?_
              have es8235 : mq8228 376 1 = m 376 1 := ((hFq8228 376 1 rfl).trans ((hFq8216 376 1 rfl).trans ((hFq8212 376 1 rfl).trans ((hFq8155 376 1 rfl).trans ((hFq8095 376 1 rfl).trans (yup_na (by decide)))))))
              have tb8236 := hTq8228.atp 376 3 0 3 rfl
              have tb8237 := hTq8228.atp 376 6 0 320 rfl
              have tb8238 := hTq8228.atp 376 8 ((-1)) 320 rfl
              have es8239 : mq8228 376 18 = m 376 18 := ((hFq8228 376 18 rfl).trans ((hFq8216 376 18 rfl).trans ((hFq8212 376 18 rfl).trans ((hFq8155 376 18 rfl).trans ((hFq8095 376 18 rfl).trans (yup_na (by decide)))))))
              have es8240 : mq8228 390 1 = m 390 1 := ((hFq8228 390 1 rfl).trans ((hFq8216 390 1 rfl).trans ((hFq8212 390 1 rfl).trans ((hFq8155 390 1 rfl).trans ((hFq8095 390 1 rfl).trans (yup_na (by decide)))))))
              have es8241 : mq8228 386 1 = (m 386 1) + 1 := ((hFq8228 386 1 rfl).trans ((hFq8216 386 1 rfl).trans ((hFq8212 386 1 rfl).trans ((hFq8155 386 1 rfl).trans ((hFq8095 386 1 rfl).trans (yup_eq _ _ _ _))))))
              have es8242 : mq8228 387 1 = m 387 1 := ((hFq8228 387 1 rfl).trans ((hFq8216 387 1 rfl).trans ((hFq8212 387 1 rfl).trans ((hFq8155 387 1 rfl).trans ((hFq8095 387 1 rfl).trans (yup_na (by decide)))))))
              have es8243 : mq8228 388 1 = m 388 1 := ((hFq8228 388 1 rfl).trans ((hFq8216 388 1 rfl).trans ((hFq8212 388 1 rfl).trans ((hFq8155 388 1 rfl).trans ((hFq8095 388 1 rfl).trans (yup_na (by decide)))))))
              have es8244 : mq8228 376 17 = m 376 17 := ((hFq8228 376 17 rfl).trans ((hFq8216 376 17 rfl).trans ((hFq8212 376 17 rfl).trans ((hFq8155 376 17 rfl).trans ((hFq8095 376 17 rfl).trans (yup_na (by decide)))))))
              have tb8245 := hT.atp 376 17 0 20 rfl
              have es8246 : mq8228 384 1 = m 384 1 := ((hFq8228 384 1 rfl).trans ((hFq8216 384 1 rfl).trans ((hFq8212 384 1 rfl).trans ((hFq8155 384 1 rfl).trans ((hFq8095 384 1 rfl).trans (yup_na (by decide)))))))
              refine y_callIB 139 [.ref 376, yI 7, yI v, yI u, yI b] [yI 8, yI 1000] c132_136 rfl rfl rfl rfl rfl (ycanO km127 ko376) (t127_1 hTq8228 (by omega) (by omega) (by omega) (by omega) (by omega) (by omega)) (fun rq8234 mq8234 nq8234 hq8234 => ?_)
              obtain ⟨rfl, hTq8234, hFq8234, hq8234, hE⟩ := hq8234
              unfold EM at hE
              rw [show mq8228 390 1 = m 390 1 from ((hFq8228 390 1 rfl).trans ((hFq8216 390 1 rfl).trans ((hFq8212 390 1 rfl).trans ((hFq8155 390 1 rfl).trans ((hFq8095 390 1 rfl).trans (yup_na (by decide)))))))] at hE
              obtain ⟨k1, k2, k3, k4, k5, k6, k7⟩ := hE
              have k8 : ∀ q, q < 1000 * 1 + 8 * (m 390 1).toNat ∨ 1000 * 1 + 8 * (m 390 1).toNat + 8 ≤ q → mq8234 403 q = m 403 q := fun q hq => (k7 q hq).trans (((hFq8228 403 q rfl).trans ((hFq8216 403 q rfl).trans ((hFq8212 403 q rfl).trans ((hFq8155 403 q rfl).trans ((hFq8095 403 q rfl).trans (yup_na (by decide))))))))
              have x1q8234 : mq8234 376 1 = m 376 1 := ((hFq8234 376 1 rfl).trans ((hFq8228 376 1 rfl).trans ((hFq8216 376 1 rfl).trans ((hFq8212 376 1 rfl).trans ((hFq8155 376 1 rfl).trans ((hFq8095 376 1 rfl).trans (yup_na (by decide))))))))
              have hF8247 := hF8232.tr hFq8234 wEm1_wSt1
              refine y_imul 140 c132_139 rfl ?_
              refine y_iadd 141 c132_140 rfl ?_
              refine y_istore 143 c132_141 rfl rfl ?_
              refine y_aload 144 c132_143 rfl rfl rfl ?_
              refine y_getR 147 c132_144 rfl kf376_40 ?_
              refine y_iload 149 c132_147 rfl rfl ?_
              refine y_iconst 150 c132_149 rfl ?_
              refine y_iadd 151 c132_150 rfl ?_
              refine y_iconst 153 c132_151 rfl ?_
              refine y_iload 155 c132_153 rfl rfl ?_
              refine y_imul 156 c132_155 rfl ?_
              refine y_iload 158 c132_156 rfl rfl ?_
              refine y_iadd 159 c132_158 rfl ?_
              refine y_iastore 160 c132_159 rfl ka403 (by omega) (y_nar0 _) ?_
              have hT8248 := hTq8234.up 403 (((1000 + (8 * rq8234)) + 5).toNat) ((16 * (m 386 1)) + 2) ((-2147483648)) 2147483647 rfl (by omega)
              have hF8249 := hF8247.up 403 (((1000 + (8 * rq8234)) + 5).toNat) ((16 * (m 386 1)) + 2) (wSt1_403 (by omega))
              refine y_aload 161 c132_160 rfl rfl rfl ?_
              refine y_getR 164 c132_161 rfl kf376_40 ?_
              refine y_iload 166 c132_164 rfl rfl ?_
              refine y_iconst 168 c132_166 rfl ?_
              refine y_iadd 169 c132_168 rfl ?_
              refine y_iload 171 c132_169 rfl rfl ?_
              refine y_iastore 172 c132_171 rfl ka403 (by omega) (y_nar0 _) ?_
              have hT8250 := hT8248.up 403 (((1000 + (8 * rq8234)) + 6).toNat) rq8155 ((-2147483648)) 2147483647 rfl (by omega)
              have hF8251 := hF8249.up 403 (((1000 + (8 * rq8234)) + 6).toNat) rq8155 (wSt1_403 (by omega))
              refine y_aload 173 c132_172 rfl rfl rfl ?_
              refine y_getR 176 c132_173 rfl kf376_40 ?_
              refine y_iload 178 c132_176 rfl rfl ?_
              refine y_iconst 180 c132_178 rfl ?_
              refine y_iadd 181 c132_180 rfl ?_
              refine y_iload 183 c132_181 rfl rfl ?_
              refine y_iastore 184 c132_183 rfl ka403 (by omega) (y_nar0 _) ?_
              have hT8252 := hT8250.up 403 (((1000 + (8 * rq8234)) + 7).toNat) rq8216 ((-2147483648)) 2147483647 rfl (by omega)
              have hF8253 := hF8251.up 403 (((1000 + (8 * rq8234)) + 7).toNat) rq8216 (wSt1_403 (by omega))
              have es8254 : (yup (yup (yup mq8234 403 (((1000 + (8 * rq8234)) + 5).toNat) ((16 * (m 386 1)) + 2)) 403 (((1000 + (8 * rq8234)) + 6).toNat) rq8155) 403 (((1000 + (8 * rq8234)) + 7).toNat) rq8216) 376 1 = m 376 1 := ((yup_na (by decide)).trans ((yup_na (by decide)).trans ((yup_na (by decide)).trans ((hFq8234 376 1 rfl).trans ((hFq8228 376 1 rfl).trans ((hFq8216 376 1 rfl).trans ((hFq8212 376 1 rfl).trans ((hFq8155 376 1 rfl).trans ((hFq8095 376 1 rfl).trans (yup_na (by decide)))))))))))
              have es8255 : (yup (yup (yup mq8234 403 (((1000 + (8 * rq8234)) + 5).toNat) ((16 * (m 386 1)) + 2)) 403 (((1000 + (8 * rq8234)) + 6).toNat) rq8155) 403 (((1000 + (8 * rq8234)) + 7).toNat) rq8216) 376 3 = mq8228 376 3 := ((yup_na (by decide)).trans ((yup_na (by decide)).trans ((yup_na (by decide)).trans (hFq8234 376 3 rfl))))
              have es8256 : (yup (yup (yup mq8234 403 (((1000 + (8 * rq8234)) + 5).toNat) ((16 * (m 386 1)) + 2)) 403 (((1000 + (8 * rq8234)) + 6).toNat) rq8155) 403 (((1000 + (8 * rq8234)) + 7).toNat) rq8216) 376 6 = mq8228 376 6 := ((yup_na (by decide)).trans ((yup_na (by decide)).trans ((yup_na (by decide)).trans (hFq8234 376 6 rfl))))
              have es8257 : (yup (yup (yup mq8234 403 (((1000 + (8 * rq8234)) + 5).toNat) ((16 * (m 386 1)) + 2)) 403 (((1000 + (8 * rq8234)) + 6).toNat) rq8155) 403 (((1000 + (8 * rq8234)) + 7).toNat) rq8216) 376 8 = mq8228 376 8 := ((yup_na (by decide)).trans ((yup_na (by decide)).trans ((yup_na (by decide)).trans (hFq8234 376 8 rfl))))
              have es8258 : (yup (yup (yup mq8234 403 (((1000 + (8 * rq8234)) + 5).toNat) ((16 * (m 386 1)) + 2)) 403 (((1000 + (8 * rq8234)) + 6).toNat) rq8155) 403 (((1000 + (8 * rq8234)) + 7).toNat) rq8216) 390 1 = mq8234 390 1 := rfl
              have tb8259 := hTq8234.atp 390 1 0 125 rfl
              have es8260 : (yup (yup (yup mq8234 403 (((1000 + (8 * rq8234)) + 5).toNat) ((16 * (m 386 1)) + 2)) 403 (((1000 + (8 * rq8234)) + 6).toNat) rq8155) 403 (((1000 + (8 * rq8234)) + 7).toNat) rq8216) 386 1 = (m 386 1) + 1 := ((yup_na (by decide)).trans ((yup_na (by decide)).trans ((yup_na (by decide)).trans ((hFq8234 386 1 rfl).trans ((hFq8228 386 1 rfl).trans ((hFq8216 386 1 rfl).trans ((hFq8212 386 1 rfl).trans ((hFq8155 386 1 rfl).trans ((hFq8095 386 1 rfl).trans (yup_eq _ _ _ _))))))))))
              have es8261 : (yup (yup (yup mq8234 403 (((1000 + (8 * rq8234)) + 5).toNat) ((16 * (m 386 1)) + 2)) 403 (((1000 + (8 * rq8234)) + 6).toNat) rq8155) 403 (((1000 + (8 * rq8234)) + 7).toNat) rq8216) 387 1 = m 387 1 := ((yup_na (by decide)).trans ((yup_na (by decide)).trans ((yup_na (by decide)).trans ((hFq8234 387 1 rfl).trans ((hFq8228 387 1 rfl).trans ((hFq8216 387 1 rfl).trans ((hFq8212 387 1 rfl).trans ((hFq8155 387 1 rfl).trans ((hFq8095 387 1 rfl).trans (yup_na (by decide)))))))))))
              have es8262 : (yup (yup (yup mq8234 403 (((1000 + (8 * rq8234)) + 5).toNat) ((16 * (m 386 1)) + 2)) 403 (((1000 + (8 * rq8234)) + 6).toNat) rq8155) 403 (((1000 + (8 * rq8234)) + 7).toNat) rq8216) 388 1 = m 388 1 := ((yup_na (by decide)).trans ((yup_na (by decide)).trans ((yup_na (by decide)).trans ((hFq8234 388 1 rfl).trans ((hFq8228 388 1 rfl).trans ((hFq8216 388 1 rfl).trans ((hFq8212 388 1 rfl).trans ((hFq8155 388 1 rfl).trans ((hFq8095 388 1 rfl).trans (yup_na (by decide)))))))))))
              have es8263 : (yup (yup (yup mq8234 403 (((1000 + (8 * rq8234)) + 5).toNat) ((16 * (m 386 1)) + 2)) 403 (((1000 + (8 * rq8234)) + 6).toNat) rq8155) 403 (((1000 + (8 * rq8234)) + 7).toNat) rq8216) 376 17 = m 376 17 := ((yup_na (by decide)).trans ((yup_na (by decide)).trans ((yup_na (by decide)).trans ((hFq8234 376 17 rfl).trans ((hFq8228 376 17 rfl).trans ((hFq8216 376 17 rfl).trans ((hFq8212 376 17 rfl).trans ((hFq8155 376 17 rfl).trans ((hFq8095 376 17 rfl).trans (yup_na (by decide)))))))))))
              have es8264 : (yup (yup (yup mq8234 403 (((1000 + (8 * rq8234)) + 5).toNat) ((16 * (m 386 1)) + 2)) 403 (((1000 + (8 * rq8234)) + 6).toNat) rq8155) 403 (((1000 + (8 * rq8234)) + 7).toNat) rq8216) 384 1 = m 384 1 := ((yup_na (by decide)).trans ((yup_na (by decide)).trans ((yup_na (by decide)).trans ((hFq8234 384 1 rfl).trans ((hFq8228 384 1 rfl).trans ((hFq8216 384 1 rfl).trans ((hFq8212 384 1 rfl).trans ((hFq8155 384 1 rfl).trans ((hFq8095 384 1 rfl).trans (yup_na (by decide)))))))))))
              have em8265 : mu (yup (yup (yup mq8234 403 (((1000 + (8 * rq8234)) + 5).toNat) ((16 * (m 386 1)) + 2)) 403 (((1000 + (8 * rq8234)) + 6).toNat) rq8155) 403 (((1000 + (8 * rq8234)) + 7).toNat) rq8216) = mu mq8228 := mu_fr ((yup_na (by decide)).trans ((yup_na (by decide)).trans ((yup_na (by decide)).trans (hFq8234 376 1 rfl)))) ((yup_na (by decide)).trans ((yup_na (by decide)).trans ((yup_na (by decide)).trans (hFq8234 376 3 rfl)))) ((yup_na (by decide)).trans ((yup_na (by decide)).trans ((yup_na (by decide)).trans (hFq8234 376 6 rfl))))
              have f0 : (yup (yup (yup mq8234 403 (((1000 + (8 * rq8234)) + 5).toNat) ((16 * (m 386 1)) + 2)) 403 (((1000 + (8 * rq8234)) + 6).toNat) rq8155) 403 (((1000 + (8 * rq8234)) + 7).toNat) rq8216) 403 (1000 * 1 + 8 * (m 390 1).toNat) = _ := ((yup_nk (by omega)).trans ((yup_nk (by omega)).trans (yup_nk (by omega)))).trans k2
              have f1 : (yup (yup (yup mq8234 403 (((1000 + (8 * rq8234)) + 5).toNat) ((16 * (m 386 1)) + 2)) 403 (((1000 + (8 * rq8234)) + 6).toNat) rq8155) 403 (((1000 + (8 * rq8234)) + 7).toNat) rq8216) 403 (1000 * 1 + 8 * (m 390 1).toNat + 1) = _ := ((yup_nk (by omega)).trans ((yup_nk (by omega)).trans (yup_nk (by omega)))).trans k3
              have f2 : (yup (yup (yup mq8234 403 (((1000 + (8 * rq8234)) + 5).toNat) ((16 * (m 386 1)) + 2)) 403 (((1000 + (8 * rq8234)) + 6).toNat) rq8155) 403 (((1000 + (8 * rq8234)) + 7).toNat) rq8216) 403 (1000 * 1 + 8 * (m 390 1).toNat + 2) = _ := ((yup_nk (by omega)).trans ((yup_nk (by omega)).trans (yup_nk (by omega)))).trans k4
              have f3 : (yup (yup (yup mq8234 403 (((1000 + (8 * rq8234)) + 5).toNat) ((16 * (m 386 1)) + 2)) 403 (((1000 + (8 * rq8234)) + 6).toNat) rq8155) 403 (((1000 + (8 * rq8234)) + 7).toNat) rq8216) 403 (1000 * 1 + 8 * (m 390 1).toNat + 3) = _ := ((yup_nk (by omega)).trans ((yup_nk (by omega)).trans (yup_nk (by omega)))).trans k5
              have f4 : (yup (yup (yup mq8234 403 (((1000 + (8 * rq8234)) + 5).toNat) ((16 * (m 386 1)) + 2)) 403 (((1000 + (8 * rq8234)) + 6).toNat) rq8155) 403 (((1000 + (8 * rq8234)) + 7).toNat) rq8216) 403 (1000 * 1 + 8 * (m 390 1).toNat + 4) = _ := ((yup_nk (by omega)).trans ((yup_nk (by omega)).trans (yup_nk (by omega)))).trans k6
              have f5 : (yup (yup (yup mq8234 403 (((1000 + (8 * rq8234)) + 5).toNat) ((16 * (m 386 1)) + 2)) 403 (((1000 + (8 * rq8234)) + 6).toNat) rq8155) 403 (((1000 + (8 * rq8234)) + 7).toNat) rq8216) 403 (1000 * 1 + 8 * (m 390 1).toNat + 5) = (16 * (m 386 1)) + 2 := by rw [show 1000 * 1 + 8 * (m 390 1).toNat + 5 = (1000 + 8 * rq8234 + 5).toNat by omega]; repeat (first | rw [yup_eq] | rw [yup_na (by omega)] | rw [yup_nk (by omega)])
              have f6 : (yup (yup (yup mq8234 403 (((1000 + (8 * rq8234)) + 5).toNat) ((16 * (m 386 1)) + 2)) 403 (((1000 + (8 * rq8234)) + 6).toNat) rq8155) 403 (((1000 + (8 * rq8234)) + 7).toNat) rq8216) 403 (1000 * 1 + 8 * (m 390 1).toNat + 6) = rq8155 := by rw [show 1000 * 1 + 8 * (m 390 1).toNat + 6 = (1000 + 8 * rq8234 + 6).toNat by omega]; repeat (first | rw [yup_eq] | rw [yup_na (by omega)] | rw [yup_nk (by omega)])
              have f7 : (yup (yup (yup mq8234 403 (((1000 + (8 * rq8234)) + 5).toNat) ((16 * (m 386 1)) + 2)) 403 (((1000 + (8 * rq8234)) + 6).toNat) rq8155) 403 (((1000 + (8 * rq8234)) + 7).toNat) rq8216) 403 (1000 * 1 + 8 * (m 390 1).toNat + 7) = rq8216 := by rw [show 1000 * 1 + 8 * (m 390 1).toNat + 7 = (1000 + 8 * rq8234 + 7).toNat by omega]; repeat (first | rw [yup_eq] | rw [yup_na (by omega)] | rw [yup_nk (by omega)])
              have hw : OW (yup (yup (yup mq8234 403 (((1000 + (8 * rq8234)) + 5).toNat) ((16 * (m 386 1)) + 2)) 403 (((1000 + (8 * rq8234)) + 6).toNat) rq8155) 403 (((1000 + (8 * rq8234)) + 7).toNat) rq8216) (1000 * 1 + 8 * (m 390 1).toNat) := by unfold OW; omega
              have hx : XS 1 (yup (yup (yup mq8234 403 (((1000 + (8 * rq8234)) + 5).toNat) ((16 * (m 386 1)) + 2)) 403 (((1000 + (8 * rq8234)) + 6).toNat) rq8155) 403 (((1000 + (8 * rq8234)) + 7).toNat) rq8216) := XS.add hX (by omega) (fun a q ha => hF8253 a q (wSt1_Y a q ha)) (fun q hq => ((yup_nk (by omega)).trans ((yup_nk (by omega)).trans (yup_nk (by omega)))).trans (k8 q hq)) hw (by omega) (by omega) (by omega) (by omega) (by omega) (by omega) (by omega) (fun c hc => by rw [show (yup (yup (yup mq8234 403 (((1000 + (8 * rq8234)) + 5).toNat) ((16 * (m 386 1)) + 2)) 403 (((1000 + (8 * rq8234)) + 6).toNat) rq8155) 403 (((1000 + (8 * rq8234)) + 7).toNat) rq8216) 401 (8 * 1 + c) = m 401 (8 * 1 + c) from ((yup_na (by decide)).trans ((yup_na (by decide)).trans ((yup_na (by decide)).trans ((hFq8234 401 _ rfl).trans ((hFq8228 401 _ rfl).trans ((hFq8216 401 _ rfl).trans ((hFq8212 401 _ rfl).trans ((hFq8155 401 _ rfl).trans ((hFq8095 401 _ rfl).trans (yup_na (by decide)))))))))))]; exact hCV c (by omega)) (by omega) (by omega)
              exact y_retU c132_184 ⟨rfl, hT8252, hF8253, by omega, Or.inr ⟨by omega, by omega, by omega, hx⟩⟩
            · have es8266 : mq8228 376 1 = m 376 1 := ((hFq8228 376 1 rfl).trans ((hFq8216 376 1 rfl).trans ((hFq8212 376 1 rfl).trans ((hFq8155 376 1 rfl).trans ((hFq8095 376 1 rfl).trans (yup_na (by decide)))))))
              have tb8267 := hTq8228.atp 376 3 0 3 rfl
              have tb8268 := hTq8228.atp 376 6 0 320 rfl
              have tb8269 := hTq8228.atp 376 8 ((-1)) 320 rfl
              exact y_retU c132_121 ⟨rfl, hTq8228, hF8232, by omega, Or.inl (by omega)⟩
  · refine y_aload 19 c132_18 rfl rfl rfl ?_
    refine y_iload 21 c132_19 rfl rfl ?_
    refine y_putI 24 c132_21 rfl kf376_8 (y_fit0 _) ?_
    have hT8270 := hT.up 376 8 e ((-1)) 320 rfl (by omega)
    have hF8271 := hF.up 376 8 e rfl
    have es8272 : (yup m 376 8 e) 376 1 = m 376 1 := rfl
    have tb8273 := hT.atp 376 1 0 320 rfl
    have es8274 : (yup m 376 8 e) 376 3 = m 376 3 := rfl
    have tb8275 := hT.atp 376 3 0 3 rfl
    have es8276 : (yup m 376 8 e) 376 6 = m 376 6 := rfl
    have tb8277 := hT.atp 376 6 0 320 rfl
    have es8278 : (yup m 376 8 e) 376 8 = e := rfl
    exact y_retU c132_24 ⟨rfl, hT8270, hF8271, by omega, Or.inl (by omega)⟩
