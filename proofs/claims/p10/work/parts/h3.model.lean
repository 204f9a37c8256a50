/-! CONTRACTS: the model, statements. Printed by wip/whole/gen97.py -/
set_option maxRecDepth 100000 in
theorem t137_0 {L : Nat} {xs : Nat → Int32} {d nn : Nat} {m : yM} {v : Int} (hT : Ty gT m) (hl : m 376 6 ≤ m 376 1) (hn : m 376 18 = 1) (h8 : m 376 8 < 0) (hX : XS 0 m) (h84 : 1 ≤ m 384 0) (h90 : m 390 0 ≤ 100) (hv : 0 ≤ v ∧ v ≤ 47) : YC (gZ L xs) (d + 6) 137 [.ref 376, yI v] m nn (qU (fun m' n' => n' = nn ∧ Ty gT m' ∧ Fr wSt0 m m' ∧ m' 376 6 ≤ m' 376 1 ∧ (0 ≤ m' 376 8 ∨ (m' 376 8 < 0 ∧ mu m' ≤ mu m ∧ m' 390 0 = m 390 0 + 1 ∧ XS 0 m')))) := by
  have tb8 := hT.atp 376 8 (-1) 320 rfl
  have tc384 := hT.atp 384 0 0 10 rfl
  have tc386 := hT.atp 386 0 0 12 rfl
  have tc387 := hT.atp 387 0 0 8 rfl
  have tc388 := hT.atp 388 0 0 12 rfl
  have tc389 := hT.atp 389 0 0 48 rfl
  have tc390 := hT.atp 390 0 0 125 rfl
  have hsc := hX.2.2.2.2.2
  have hCV := hX.2.2.2.2.2.2.2.1
  refine YC.mkB [some (.ref 376), some (yI v), none, none, none] kn137 rfl rfl ?_
  have hF : Fr wSt0 m m := Fr.rf
  refine y_aload 1 c137_0 rfl rfl rfl ?_
  have tb7075 := hT.atp 376 3 0 3 rfl
  refine y_callP 4 [.ref 376] [] c137_1 rfl rfl rfl rfl rfl (ycanO km108 ko376) (t108 hT) (fun r7076 hr7076 => ?_)
  refine y_if 15 7 c137_4 rfl rfl (yz_eq (by omega)) (fun hb7077 => ?_) (fun hb7077 => ?_)
  · refine y_aload 16 c137_15 rfl rfl rfl ?_
    refine y_callP 19 [.ref 376] [] c137_16 rfl rfl rfl rfl rfl (ycanO km109 ko376) (t109 hT) (fun r7078 hr7078 => ?_)
    refine y_if 39 22 c137_19 rfl rfl (yz_eq (by omega)) (fun hb7079 => ?_) (fun hb7079 => ?_)
    · refine y_aload 40 c137_39 rfl rfl rfl ?_
      refine y_iconst 42 c137_40 rfl ?_
      refine y_callP 45 [.ref 376, yI 40] [] c137_42 rfl rfl rfl rfl rfl (ycanO km117 ko376) (t117 hT (by omega)) (fun r7080 hr7080 => ?_)
      refine y_if 56 48 c137_45 rfl rfl (yz_eq (by omega)) (fun hb7081 => ?_) (fun hb7081 => ?_)
      · refine y_aload 57 c137_56 rfl rfl rfl ?_
        have tb7083 := hT.atp 376 1 0 320 rfl
        have tb7084 := hT.atp 376 6 0 320 rfl
        have tb7085 := hT.atp 376 8 ((-1)) 320 rfl
        have tb7086 := hT.atp 376 18 0 1 rfl
        refine y_callIB 60 [.ref 376] [] c137_57 rfl rfl rfl rfl rfl (ycanO km130 ko376) (t130_0 hT (by omega) (by omega) (by omega)) (fun rq7082 mq7082 nq7082 hq7082 => ?_)
        obtain ⟨rfl, hTq7082, hFq7082, hq7082⟩ := hq7082
        have x1q7082 : mq7082 376 1 = m 376 1 := (hFq7082 376 1 rfl)
        have hF7087 := hF.tr hFq7082 wVr0_wSt0
        refine y_istore 61 c137_60 rfl rfl ?_
        refine y_aload 62 c137_61 rfl rfl rfl ?_
        refine y_getX 65 (mq7082 376 8) c137_62 rfl kf376_8 rfl ?_
        have tb7088 := hTq7082.atp 376 8 ((-1)) 320 rfl
        refine y_if 69 68 c137_65 rfl rfl (yz_lt (by omega)) (fun hb7089 => ?_) (fun hb7089 => ?_)
        · refine y_aload 70 c137_69 rfl rfl rfl ?_
          refine y_iconst 72 c137_70 rfl ?_
          have tb7090 := hTq7082.atp 376 3 0 3 rfl
          refine y_callP 75 [.ref 376, yI 46] [] c137_72 rfl rfl rfl rfl rfl (ycanO km117 ko376) (t117 hTq7082 (by omega)) (fun r7091 hr7091 => ?_)
          refine y_if 88 78 c137_75 rfl rfl (yz_ne (by omega)) (fun hb7092 => ?_) (fun hb7092 => ?_)
          · refine y_aload 89 c137_88 rfl rfl rfl ?_
            have es7094 : mq7082 376 1 = m 376 1 := (hFq7082 376 1 rfl)
            have tb7095 := hTq7082.atp 376 6 0 320 rfl
            refine y_callUB 92 [.ref 376] [] c137_89 rfl rfl rfl rfl rfl (ycanO km99 ko376) (t99u hTq7082 (by omega)) (fun mq7093 nq7093 hq7093 => ?_)
            obtain ⟨rfl, hTq7093, hFq7093, hq7093⟩ := hq7093
            have x1q7093 : mq7093 376 1 = m 376 1 := ((hFq7093 376 1 rfl).trans (hFq7082 376 1 rfl))
            have hF7096 := hF7087.tr hFq7093 wNx_wSt0
            refine y_aload 93 c137_92 rfl rfl rfl ?_
            refine y_getX 96 (mq7093 376 4) c137_93 rfl kf376_4 rfl ?_
            have tb7097 := hTq7093.atp 376 4 ((-2147483648)) 2147483647 rfl
            refine y_istore 97 c137_96 rfl rfl ?_
            refine y_aload 98 c137_97 rfl rfl rfl ?_
            refine y_getX 101 (mq7093 376 5) c137_98 rfl kf376_5 rfl ?_
            have tb7098 := hTq7093.atp 376 5 0 320 rfl
            refine y_istore 103 c137_101 rfl rfl ?_
            refine y_aload 104 c137_103 rfl rfl rfl ?_
            refine y_aload 105 c137_104 rfl rfl rfl ?_
            have tb7099 := hTq7093.atp 376 3 0 3 rfl
            refine y_callP 108 [.ref 376] [.ref 376] c137_105 rfl rfl rfl rfl rfl (ycanO km115 ko376) (t115 hTq7093) (fun r7100 hr7100 => ?_)
            have es7102 : mq7093 376 1 = m 376 1 := ((hFq7093 376 1 rfl).trans (hFq7082 376 1 rfl))
            have tb7103 := hTq7093.atp 376 6 0 320 rfl
            have es7104 : mq7093 376 8 = mq7082 376 8 := (hFq7093 376 8 rfl)
            refine y_callIB 111 [.ref 376, yI r7100] [] c137_108 rfl rfl rfl rfl rfl (ycanO km105 ko376) (t105 (g := r7100) hTq7093 (by omega) (by omega)) (fun rq7101 mq7101 nq7101 hq7101 => ?_)
            obtain ⟨rfl, hTq7101, hFq7101, hq7101⟩ := hq7101
            have x1q7101 : mq7101 376 1 = m 376 1 := ((hFq7101 376 1 rfl).trans ((hFq7093 376 1 rfl).trans (hFq7082 376 1 rfl)))
            have hF7105 := hF7096.tr hFq7101 wNw_wSt0
            refine y_if 115 114 c137_111 rfl rfl (yz_ne (by omega)) (fun hb7106 => ?_) (fun hb7106 => ?_)
            · refine y_aload 116 c137_115 rfl rfl rfl ?_
              refine y_iconst 118 c137_116 rfl ?_
              have tb7107 := hTq7101.atp 376 3 0 3 rfl
              refine y_callP 121 [.ref 376, yI 40] [] c137_118 rfl rfl rfl rfl rfl (ycanO km117 ko376) (t117 hTq7101 (by omega)) (fun r7108 hr7108 => ?_)
              refine y_if 136 124 c137_121 rfl rfl (yz_eq (by omega)) (fun hb7109 => ?_) (fun hb7109 => ?_)
              · refine y_aload 137 c137_136 rfl rfl rfl ?_
                refine y_iconst 138 c137_137 rfl ?_
                refine y_iload 139 c137_138 rfl rfl ?_
                refine y_iload 140 c137_139 rfl rfl ?_
                refine y_iload 141 c137_140 rfl rfl ?_
                have es7111 : mq7101 376 1 = m 376 1 := ((hFq7101 376 1 rfl).trans ((hFq7093 376 1 rfl).trans (hFq7082 376 1 rfl)))
                have tb7112 := hTq7101.atp 376 6 0 320 rfl
                have tb7113 := hTq7101.atp 376 8 ((-1)) 320 rfl
                have es7114 : mq7101 376 18 = m 376 18 := ((hFq7101 376 18 rfl).trans ((hFq7093 376 18 rfl).trans (hFq7082 376 18 rfl)))
                have es7115 : mq7101 390 0 = m 390 0 := ((hFq7101 390 0 rfl).trans ((hFq7093 390 0 rfl).trans (hFq7082 390 0 rfl)))
                have es7116 : mq7101 386 0 = m 386 0 := ((hFq7101 386 0 rfl).trans ((hFq7093 386 0 rfl).trans (hFq7082 386 0 rfl)))
                have es7117 : mq7101 387 0 = m 387 0 := ((hFq7101 387 0 rfl).trans ((hFq7093 387 0 rfl).trans (hFq7082 387 0 rfl)))
                have es7118 : mq7101 388 0 = m 388 0 := ((hFq7101 388 0 rfl).trans ((hFq7093 388 0 rfl).trans (hFq7082 388 0 rfl)))
                have es7119 : mq7101 376 17 = m 376 17 := ((hFq7101 376 17 rfl).trans ((hFq7093 376 17 rfl).trans (hFq7082 376 17 rfl)))
                have tb7120 := hT.atp 376 17 0 20 rfl
                have es7121 : mq7101 384 0 = m 384 0 := ((hFq7101 384 0 rfl).trans ((hFq7093 384 0 rfl).trans (hFq7082 384 0 rfl)))
                refine y_callIB 144 [.ref 376, yI 4, yI v, yI rq7082, yI (mq7093 376 4)] [] c137_141 rfl rfl rfl rfl rfl (ycanO km127 ko376) (t127_0 hTq7101 (by omega) (by omega) (by omega) (by omega) (by omega) (by omega)) (fun rq7110 mq7110 nq7110 hq7110 => ?_)
                obtain ⟨rfl, hTq7110, hFq7110, hq7110, hE⟩ := hq7110
                unfold EM at hE
                rw [show mq7101 390 0 = m 390 0 from ((hFq7101 390 0 rfl).trans ((hFq7093 390 0 rfl).trans (hFq7082 390 0 rfl)))] at hE
                obtain ⟨k1, k2, k3, k4, k5, k6, k7⟩ := hE
                have k8 : ∀ q, q < 1000 * 0 + 8 * (m 390 0).toNat ∨ 1000 * 0 + 8 * (m 390 0).toNat + 8 ≤ q → mq7110 403 q = m 403 q := fun q hq => (k7 q hq).trans (((hFq7101 403 q rfl).trans ((hFq7093 403 q rfl).trans (hFq7082 403 q rfl))))
                have x1q7110 : mq7110 376 1 = m 376 1 := ((hFq7110 376 1 rfl).trans ((hFq7101 376 1 rfl).trans ((hFq7093 376 1 rfl).trans (hFq7082 376 1 rfl))))
                have hF7122 := hF7105.tr hFq7110 wEm0_wSt0
                refine y_istore 145 c137_144 rfl rfl ?_
                have es7123 : mq7110 376 1 = m 376 1 := ((hFq7110 376 1 rfl).trans ((hFq7101 376 1 rfl).trans ((hFq7093 376 1 rfl).trans (hFq7082 376 1 rfl))))
                have es7124 : mq7110 376 3 = mq7101 376 3 := (hFq7110 376 3 rfl)
                have es7125 : mq7110 376 6 = mq7101 376 6 := (hFq7110 376 6 rfl)
                have es7126 : mq7110 376 8 = mq7101 376 8 := (hFq7110 376 8 rfl)
                have tb7127 := hTq7110.atp 390 0 0 125 rfl
                have es7128 : mq7110 386 0 = m 386 0 := ((hFq7110 386 0 rfl).trans ((hFq7101 386 0 rfl).trans ((hFq7093 386 0 rfl).trans (hFq7082 386 0 rfl))))
                have es7129 : mq7110 387 0 = m 387 0 := ((hFq7110 387 0 rfl).trans ((hFq7101 387 0 rfl).trans ((hFq7093 387 0 rfl).trans (hFq7082 387 0 rfl))))
                have es7130 : mq7110 388 0 = m 388 0 := ((hFq7110 388 0 rfl).trans ((hFq7101 388 0 rfl).trans ((hFq7093 388 0 rfl).trans (hFq7082 388 0 rfl))))
                have es7131 : mq7110 376 17 = m 376 17 := ((hFq7110 376 17 rfl).trans ((hFq7101 376 17 rfl).trans ((hFq7093 376 17 rfl).trans (hFq7082 376 17 rfl))))
                have es7132 : mq7110 384 0 = m 384 0 := ((hFq7110 384 0 rfl).trans ((hFq7101 384 0 rfl).trans ((hFq7093 384 0 rfl).trans (hFq7082 384 0 rfl))))
                have em7133 : mu mq7110 = mu mq7101 := mu_fr (hFq7110 376 1 rfl) (hFq7110 376 3 rfl) (hFq7110 376 6 rfl)
                have f0 : mq7110 403 (1000 * 0 + 8 * (m 390 0).toNat) = _ := k2
                have f1 : mq7110 403 (1000 * 0 + 8 * (m 390 0).toNat + 1) = _ := k3
                have f2 : mq7110 403 (1000 * 0 + 8 * (m 390 0).toNat + 2) = _ := k4
                have f3 : mq7110 403 (1000 * 0 + 8 * (m 390 0).toNat + 3) = _ := k5
                have f4 : mq7110 403 (1000 * 0 + 8 * (m 390 0).toNat + 4) = _ := k6
                have hw : OW mq7110 (1000 * 0 + 8 * (m 390 0).toNat) := by unfold OW; omega
                have hx : XS 0 mq7110 := XS.add hX (by omega) (fun a q ha => hF7122 a q (wSt0_Y a q ha)) (fun q hq => k8 q hq) hw (by omega) (by omega) (by omega) (by omega) (by omega) (by omega) (by omega) (fun c hc => by rw [show mq7110 401 (8 * 0 + c) = m 401 (8 * 0 + c) from ((hFq7110 401 _ rfl).trans ((hFq7101 401 _ rfl).trans ((hFq7093 401 _ rfl).trans (hFq7082 401 _ rfl))))]; exact hCV c (by omega)) (by omega) (by omega)
                exact y_retU c137_145 ⟨rfl, hTq7110, hF7122, by omega, by first | exact Or.inl (by omega) | exact Or.inr ⟨by omega, by omega, by omega, hx⟩⟩
              · refine y_aload 125 c137_124 rfl rfl rfl ?_
                refine y_iload 126 c137_125 rfl rfl ?_
                refine y_iload 127 c137_126 rfl rfl ?_
                refine y_iload 128 c137_127 rfl rfl ?_
                refine y_iload 130 c137_128 rfl rfl ?_
                have es7135 : mq7101 376 1 = m 376 1 := ((hFq7101 376 1 rfl).trans ((hFq7093 376 1 rfl).trans (hFq7082 376 1 rfl)))
                have tb7136 := hTq7101.atp 376 6 0 320 rfl
                have tb7137 := hTq7101.atp 376 8 ((-1)) 320 rfl
                have es7138 : mq7101 376 18 = m 376 18 := ((hFq7101 376 18 rfl).trans ((hFq7093 376 18 rfl).trans (hFq7082 376 18 rfl)))
                have es7139 : mq7101 390 0 = m 390 0 := ((hFq7101 390 0 rfl).trans ((hFq7093 390 0 rfl).trans (hFq7082 390 0 rfl)))
                have es7140 : mq7101 386 0 = m 386 0 := ((hFq7101 386 0 rfl).trans ((hFq7093 386 0 rfl).trans (hFq7082 386 0 rfl)))
                have es7141 : mq7101 387 0 = m 387 0 := ((hFq7101 387 0 rfl).trans ((hFq7093 387 0 rfl).trans (hFq7082 387 0 rfl)))
                have es7142 : mq7101 388 0 = m 388 0 := ((hFq7101 388 0 rfl).trans ((hFq7093 388 0 rfl).trans (hFq7082 388 0 rfl)))
                have es7143 : mq7101 376 17 = m 376 17 := ((hFq7101 376 17 rfl).trans ((hFq7093 376 17 rfl).trans (hFq7082 376 17 rfl)))
                have tb7144 := hT.atp 376 17 0 20 rfl
                have es7145 : mq7101 384 0 = m 384 0 := ((hFq7101 384 0 rfl).trans ((hFq7093 384 0 rfl).trans (hFq7082 384 0 rfl)))
                refine y_callUB 133 [.ref 376, yI v, yI rq7082, yI (mq7093 376 4), yI (mq7093 376 5)] [] c137_130 rfl rfl rfl rfl rfl (ycanO km132 ko376) (t132_0 hTq7101 (by omega) (by omega) (by omega) (((hX.fw hFq7082 wVr0_X).fw hFq7093 wNx_X).fw hFq7101 wNw_X) (by omega) (by omega) (by omega) (by omega) (by omega) (by omega)) (fun mq7134 nq7134 hq7134 => ?_)
                obtain ⟨rfl, hTq7134, hFq7134, hlq7134, hq7134⟩ := hq7134
                have hAq7134 : 0 ≤ mq7134 376 8 ∨ (mq7134 376 8 < 0 ∧ mu mq7134 ≤ mu mq7101 ∧ mq7134 390 0 = m 390 0 + 1) := by rcases hq7134 with q | q; exact Or.inl q; exact Or.inr ⟨q.1, by omega, by omega⟩
                have x1q7134 : mq7134 376 1 = m 376 1 := ((hFq7134 376 1 rfl).trans ((hFq7101 376 1 rfl).trans ((hFq7093 376 1 rfl).trans (hFq7082 376 1 rfl))))
                have hF7146 := hF7105.tr hFq7134 (fun _ _ e => e)
                refine y_goto 145 c137_133 rfl ?_
                have es7147 : mq7134 376 1 = m 376 1 := ((hFq7134 376 1 rfl).trans ((hFq7101 376 1 rfl).trans ((hFq7093 376 1 rfl).trans (hFq7082 376 1 rfl))))
                have tb7148 := hTq7134.atp 376 3 0 3 rfl
                have tb7149 := hTq7134.atp 376 6 0 320 rfl
                have tb7150 := hTq7134.atp 376 8 ((-1)) 320 rfl
                have tb7151 := hTq7134.atp 390 0 0 125 rfl
                have tb7152 := hTq7134.atp 386 0 0 12 rfl
                have tb7153 := hTq7134.atp 387 0 0 8 rfl
                have tb7154 := hTq7134.atp 388 0 0 12 rfl
                have tb7155 := hTq7134.atp 376 17 0 20 rfl
                have es7156 : mq7134 384 0 = m 384 0 := ((hFq7134 384 0 rfl).trans ((hFq7101 384 0 rfl).trans ((hFq7093 384 0 rfl).trans (hFq7082 384 0 rfl))))
                exact y_retU c137_145 ⟨rfl, hTq7134, hF7146, by omega, (by first | exact Or.inl (by omega) | exact Or.inr ⟨by omega, by omega, by omega, (hq7134.resolve_left (by omega)).2.2.2⟩ | (by_cases hq : 0 ≤ mq7134 376 8 <;> first | exact Or.inl (by omega) | exact Or.inr ⟨by omega, by omega, by omega, (hq7134.resolve_left (by omega)).2.2.2⟩))⟩
            · have es7157 : mq7101 376 1 = m 376 1 := ((hFq7101 376 1 rfl).trans ((hFq7093 376 1 rfl).trans (hFq7082 376 1 rfl)))
              have tb7158 := hTq7101.atp 376 3 0 3 rfl
              have tb7159 := hTq7101.atp 376 6 0 320 rfl
              have tb7160 := hTq7101.atp 376 8 ((-1)) 320 rfl
              exact y_retU c137_114 ⟨rfl, hTq7101, hF7105, by omega, Or.inl (by omega)⟩
          · refine y_aload 79 c137_78 rfl rfl rfl ?_
            refine y_iconst 80 c137_79 rfl ?_
            refine y_iload 81 c137_80 rfl rfl ?_
            refine y_iload 82 c137_81 rfl rfl ?_
            refine y_iconst 83 c137_82 rfl ?_
            have es7162 : mq7082 376 1 = m 376 1 := (hFq7082 376 1 rfl)
            have tb7163 := hTq7082.atp 376 6 0 320 rfl
            have es7164 : mq7082 376 18 = m 376 18 := (hFq7082 376 18 rfl)
            have es7165 : mq7082 390 0 = m 390 0 := (hFq7082 390 0 rfl)
            have es7166 : mq7082 386 0 = m 386 0 := (hFq7082 386 0 rfl)
            have es7167 : mq7082 387 0 = m 387 0 := (hFq7082 387 0 rfl)
            have es7168 : mq7082 388 0 = m 388 0 := (hFq7082 388 0 rfl)
            have es7169 : mq7082 376 17 = m 376 17 := (hFq7082 376 17 rfl)
            have tb7170 := hT.atp 376 17 0 20 rfl
            have es7171 : mq7082 384 0 = m 384 0 := (hFq7082 384 0 rfl)
            refine y_callIB 86 [.ref 376, yI 2, yI v, yI rq7082, yI 0] [] c137_83 rfl rfl rfl rfl rfl (ycanO km127 ko376) (t127_0 hTq7082 (by omega) (by omega) (by omega) (by omega) (by omega) (by omega)) (fun rq7161 mq7161 nq7161 hq7161 => ?_)
            obtain ⟨rfl, hTq7161, hFq7161, hq7161, hE⟩ := hq7161
            unfold EM at hE
            rw [show mq7082 390 0 = m 390 0 from (hFq7082 390 0 rfl)] at hE
            obtain ⟨k1, k2, k3, k4, k5, k6, k7⟩ := hE
            have k8 : ∀ q, q < 1000 * 0 + 8 * (m 390 0).toNat ∨ 1000 * 0 + 8 * (m 390 0).toNat + 8 ≤ q → mq7161 403 q = m 403 q := fun q hq => (k7 q hq).trans ((hFq7082 403 q rfl))
            have x1q7161 : mq7161 376 1 = m 376 1 := ((hFq7161 376 1 rfl).trans (hFq7082 376 1 rfl))
            have hF7172 := hF7087.tr hFq7161 wEm0_wSt0
            refine y_istore 87 c137_86 rfl rfl ?_
            have es7173 : mq7161 376 1 = m 376 1 := ((hFq7161 376 1 rfl).trans (hFq7082 376 1 rfl))
            have es7174 : mq7161 376 3 = mq7082 376 3 := (hFq7161 376 3 rfl)
            have es7175 : mq7161 376 6 = mq7082 376 6 := (hFq7161 376 6 rfl)
            have es7176 : mq7161 376 8 = mq7082 376 8 := (hFq7161 376 8 rfl)
            have tb7177 := hTq7161.atp 390 0 0 125 rfl
            have es7178 : mq7161 386 0 = m 386 0 := ((hFq7161 386 0 rfl).trans (hFq7082 386 0 rfl))
            have es7179 : mq7161 387 0 = m 387 0 := ((hFq7161 387 0 rfl).trans (hFq7082 387 0 rfl))
            have es7180 : mq7161 388 0 = m 388 0 := ((hFq7161 388 0 rfl).trans (hFq7082 388 0 rfl))
            have es7181 : mq7161 376 17 = m 376 17 := ((hFq7161 376 17 rfl).trans (hFq7082 376 17 rfl))
            have es7182 : mq7161 384 0 = m 384 0 := ((hFq7161 384 0 rfl).trans (hFq7082 384 0 rfl))
            have em7183 : mu mq7161 = mu mq7082 := mu_fr (hFq7161 376 1 rfl) (hFq7161 376 3 rfl) (hFq7161 376 6 rfl)
            have f0 : mq7161 403 (1000 * 0 + 8 * (m 390 0).toNat) = _ := k2
            have f1 : mq7161 403 (1000 * 0 + 8 * (m 390 0).toNat + 1) = _ := k3
            have f2 : mq7161 403 (1000 * 0 + 8 * (m 390 0).toNat + 2) = _ := k4
            have f3 : mq7161 403 (1000 * 0 + 8 * (m 390 0).toNat + 3) = _ := k5
            have f4 : mq7161 403 (1000 * 0 + 8 * (m 390 0).toNat + 4) = _ := k6
            have hw : OW mq7161 (1000 * 0 + 8 * (m 390 0).toNat) := by unfold OW; omega
            have hx : XS 0 mq7161 := XS.add hX (by omega) (fun a q ha => hF7172 a q (wSt0_Y a q ha)) (fun q hq => k8 q hq) hw (by omega) (by omega) (by omega) (by omega) (by omega) (by omega) (by omega) (fun c hc => by rw [show mq7161 401 (8 * 0 + c) = m 401 (8 * 0 + c) from ((hFq7161 401 _ rfl).trans (hFq7082 401 _ rfl))]; exact hCV c (by omega)) (by omega) (by omega)
            exact y_retU c137_87 ⟨rfl, hTq7161, hF7172, by omega, by first | exact Or.inl (by omega) | exact Or.inr ⟨by omega, by omega, by omega, hx⟩⟩
        · have es7184 : mq7082 376 1 = m 376 1 := (hFq7082 376 1 rfl)
          have tb7185 := hTq7082.atp 376 3 0 3 rfl
          have tb7186 := hTq7082.atp 376 6 0 320 rfl
          exact y_retU c137_68 ⟨rfl, hTq7082, hF7087, by omega, Or.inl (by omega)⟩
      · refine y_aload 49 c137_48 rfl rfl rfl ?_
        refine y_iload 50 c137_49 rfl rfl ?_
        have tb7188 := hT.atp 376 1 0 320 rfl
        have tb7189 := hT.atp 376 6 0 320 rfl
        have tb7190 := hT.atp 376 8 ((-1)) 320 rfl
        have tb7191 := hT.atp 376 18 0 1 rfl
        have tb7192 := hT.atp 376 17 0 20 rfl
        refine y_callUB 53 [.ref 376, yI v] [] c137_50 rfl rfl rfl rfl rfl (ycanO km136 ko376) (t136_0 hT (by omega) (by omega) (by omega) hX (by omega) (by omega) (by omega)) (fun mq7187 nq7187 hq7187 => ?_)
        obtain ⟨rfl, hTq7187, hFq7187, hlq7187, hq7187⟩ := hq7187
        have hAq7187 : 0 ≤ mq7187 376 8 ∨ (mq7187 376 8 < 0 ∧ mu mq7187 ≤ mu m ∧ mq7187 390 0 = m 390 0 + 1) := by rcases hq7187 with q | q; exact Or.inl q; exact Or.inr ⟨q.1, by omega, by omega⟩
        have x1q7187 : mq7187 376 1 = m 376 1 := (hFq7187 376 1 rfl)
        have hF7193 := hF.tr hFq7187 (fun _ _ e => e)
        refine y_goto 145 c137_53 rfl ?_
        have es7194 : mq7187 376 1 = m 376 1 := (hFq7187 376 1 rfl)
        have tb7195 := hTq7187.atp 376 3 0 3 rfl
        have tb7196 := hTq7187.atp 376 6 0 320 rfl
        have tb7197 := hTq7187.atp 376 8 ((-1)) 320 rfl
        have tb7198 := hTq7187.atp 390 0 0 125 rfl
        have tb7199 := hTq7187.atp 386 0 0 12 rfl
        have tb7200 := hTq7187.atp 387 0 0 8 rfl
        have tb7201 := hTq7187.atp 388 0 0 12 rfl
        have tb7202 := hTq7187.atp 376 17 0 20 rfl
        have es7203 : mq7187 384 0 = m 384 0 := (hFq7187 384 0 rfl)
        exact y_retU c137_145 ⟨rfl, hTq7187, hF7193, by omega, (by first | exact Or.inl (by omega) | exact Or.inr ⟨by omega, by omega, by omega, (hq7187.resolve_left (by omega)).2.2.2⟩ | (by_cases hq : 0 ≤ mq7187 376 8 <;> first | exact Or.inl (by omega) | exact Or.inr ⟨by omega, by omega, by omega, (hq7187.resolve_left (by omega)).2.2.2⟩))⟩
    · refine y_aload 23 c137_22 rfl rfl rfl ?_
      have tb7205 := hT.atp 376 1 0 320 rfl
      have tb7206 := hT.atp 376 6 0 320 rfl
      have tb7207 := hT.atp 376 8 ((-1)) 320 rfl
      refine y_callUB 26 [.ref 376] [] c137_23 rfl rfl rfl rfl rfl (ycanO km99 ko376) (t99u hT (by omega)) (fun mq7204 nq7204 hq7204 => ?_)
      obtain ⟨rfl, hTq7204, hFq7204, hq7204⟩ := hq7204
      have x1q7204 : mq7204 376 1 = m 376 1 := (hFq7204 376 1 rfl)
      have hF7208 := hF.tr hFq7204 wNx_wSt0
      refine y_aload 27 c137_26 rfl rfl rfl ?_
      refine y_iconst 29 c137_27 rfl ?_
      refine y_iload 30 c137_29 rfl rfl ?_
      refine y_iconst 31 c137_30 rfl ?_
      refine y_iconst 32 c137_31 rfl ?_
      have es7210 : mq7204 376 1 = m 376 1 := (hFq7204 376 1 rfl)
      have tb7211 := hTq7204.atp 376 3 0 3 rfl
      have tb7212 := hTq7204.atp 376 6 0 320 rfl
      have es7213 : mq7204 376 8 = m 376 8 := (hFq7204 376 8 rfl)
      have es7214 : mq7204 376 18 = m 376 18 := (hFq7204 376 18 rfl)
      have tb7215 := hT.atp 376 18 0 1 rfl
      have es7216 : mq7204 390 0 = m 390 0 := (hFq7204 390 0 rfl)
      have es7217 : mq7204 386 0 = m 386 0 := (hFq7204 386 0 rfl)
      have es7218 : mq7204 387 0 = m 387 0 := (hFq7204 387 0 rfl)
      have es7219 : mq7204 388 0 = m 388 0 := (hFq7204 388 0 rfl)
      have es7220 : mq7204 376 17 = m 376 17 := (hFq7204 376 17 rfl)
      have tb7221 := hT.atp 376 17 0 20 rfl
      have es7222 : mq7204 384 0 = m 384 0 := (hFq7204 384 0 rfl)
      refine y_callIB 35 [.ref 376, yI 8, yI v, yI 0, yI 0] [] c137_32 rfl rfl rfl rfl rfl (ycanO km127 ko376) (t127_0 hTq7204 (by omega) (by omega) (by omega) (by omega) (by omega) (by omega)) (fun rq7209 mq7209 nq7209 hq7209 => ?_)
      obtain ⟨rfl, hTq7209, hFq7209, hq7209, hE⟩ := hq7209
      unfold EM at hE
      rw [show mq7204 390 0 = m 390 0 from (hFq7204 390 0 rfl)] at hE
      obtain ⟨k1, k2, k3, k4, k5, k6, k7⟩ := hE
      have k8 : ∀ q, q < 1000 * 0 + 8 * (m 390 0).toNat ∨ 1000 * 0 + 8 * (m 390 0).toNat + 8 ≤ q → mq7209 403 q = m 403 q := fun q hq => (k7 q hq).trans ((hFq7204 403 q rfl))
      have x1q7209 : mq7209 376 1 = m 376 1 := ((hFq7209 376 1 rfl).trans (hFq7204 376 1 rfl))
      have hF7223 := hF7208.tr hFq7209 wEm0_wSt0
      refine y_istore 36 c137_35 rfl rfl ?_
      refine y_goto 145 c137_36 rfl ?_
      have es7224 : mq7209 376 1 = m 376 1 := ((hFq7209 376 1 rfl).trans (hFq7204 376 1 rfl))
      have es7225 : mq7209 376 3 = mq7204 376 3 := (hFq7209 376 3 rfl)
      have es7226 : mq7209 376 6 = mq7204 376 6 := (hFq7209 376 6 rfl)
      have es7227 : mq7209 376 8 = m 376 8 := ((hFq7209 376 8 rfl).trans (hFq7204 376 8 rfl))
      have tb7228 := hTq7209.atp 390 0 0 125 rfl
      have es7229 : mq7209 386 0 = m 386 0 := ((hFq7209 386 0 rfl).trans (hFq7204 386 0 rfl))
      have es7230 : mq7209 387 0 = m 387 0 := ((hFq7209 387 0 rfl).trans (hFq7204 387 0 rfl))
      have es7231 : mq7209 388 0 = m 388 0 := ((hFq7209 388 0 rfl).trans (hFq7204 388 0 rfl))
      have es7232 : mq7209 376 17 = m 376 17 := ((hFq7209 376 17 rfl).trans (hFq7204 376 17 rfl))
      have es7233 : mq7209 384 0 = m 384 0 := ((hFq7209 384 0 rfl).trans (hFq7204 384 0 rfl))
      have em7234 : mu mq7209 = mu mq7204 := mu_fr (hFq7209 376 1 rfl) (hFq7209 376 3 rfl) (hFq7209 376 6 rfl)
      have f0 : mq7209 403 (1000 * 0 + 8 * (m 390 0).toNat) = _ := k2
      have f1 : mq7209 403 (1000 * 0 + 8 * (m 390 0).toNat + 1) = _ := k3
      have f2 : mq7209 403 (1000 * 0 + 8 * (m 390 0).toNat + 2) = _ := k4
      have f3 : mq7209 403 (1000 * 0 + 8 * (m 390 0).toNat + 3) = _ := k5
      have f4 : mq7209 403 (1000 * 0 + 8 * (m 390 0).toNat + 4) = _ := k6
      have hw : OW mq7209 (1000 * 0 + 8 * (m 390 0).toNat) := by unfold OW; omega
      have hx : XS 0 mq7209 := XS.add hX (by omega) (fun a q ha => hF7223 a q (wSt0_Y a q ha)) (fun q hq => k8 q hq) hw (by omega) (by omega) (by omega) (by omega) (by omega) (by omega) (by omega) (fun c hc => by rw [show mq7209 401 (8 * 0 + c) = m 401 (8 * 0 + c) from ((hFq7209 401 _ rfl).trans (hFq7204 401 _ rfl))]; exact hCV c (by omega)) (by omega) (by omega)
      exact y_retU c137_145 ⟨rfl, hTq7209, hF7223, by omega, by first | exact Or.inl (by omega) | exact Or.inr ⟨by omega, by omega, by omega, hx⟩⟩
  · refine y_aload 8 c137_7 rfl rfl rfl ?_
    refine y_iload 9 c137_8 rfl rfl ?_
    have tb7236 := hT.atp 376 1 0 320 rfl
    have tb7237 := hT.atp 376 6 0 320 rfl
    have tb7238 := hT.atp 376 8 ((-1)) 320 rfl
    have tb7239 := hT.atp 376 18 0 1 rfl
    have tb7240 := hT.atp 376 17 0 20 rfl
    refine y_callUB 12 [.ref 376, yI v] [] c137_9 rfl rfl rfl rfl rfl (ycanO km135 ko376) (t135_0 hT (by omega) (by omega) (by omega) hX (by omega) (by omega) (by omega)) (fun mq7235 nq7235 hq7235 => ?_)
    obtain ⟨rfl, hTq7235, hFq7235, hlq7235, hq7235⟩ := hq7235
    have hAq7235 : 0 ≤ mq7235 376 8 ∨ (mq7235 376 8 < 0 ∧ mu mq7235 ≤ mu m ∧ mq7235 390 0 = m 390 0 + 1) := by rcases hq7235 with q | q; exact Or.inl q; exact Or.inr ⟨q.1, by omega, by omega⟩
    have x1q7235 : mq7235 376 1 = m 376 1 := (hFq7235 376 1 rfl)
    have hF7241 := hF.tr hFq7235 (fun _ _ e => e)
    refine y_goto 145 c137_12 rfl ?_
    have es7242 : mq7235 376 1 = m 376 1 := (hFq7235 376 1 rfl)
    have tb7243 := hTq7235.atp 376 3 0 3 rfl
    have tb7244 := hTq7235.atp 376 6 0 320 rfl
    have tb7245 := hTq7235.atp 376 8 ((-1)) 320 rfl
    have tb7246 := hTq7235.atp 390 0 0 125 rfl
    have tb7247 := hTq7235.atp 386 0 0 12 rfl
    have tb7248 := hTq7235.atp 387 0 0 8 rfl
    have tb7249 := hTq7235.atp 388 0 0 12 rfl
    have tb7250 := hTq7235.atp 376 17 0 20 rfl
    have es7251 : mq7235 384 0 = m 384 0 := (hFq7235 384 0 rfl)
    exact y_retU c137_145 ⟨rfl, hTq7235, hF7241, by omega, (by first | exact Or.inl (by omega) | exact Or.inr ⟨by omega, by omega, by omega, (hq7235.resolve_left (by omega)).2.2.2⟩ | (by_cases hq : 0 ≤ mq7235 376 8 <;> first | exact Or.inl (by omega) | exact Or.inr ⟨by omega, by omega, by omega, (hq7235.resolve_left (by omega)).2.2.2⟩))⟩
set_option maxRecDepth 100000 in
theorem t133_0 {L : Nat} {xs : Nat → Int32} {d nn : Nat} {m : yM} {v : Int} (hT : Ty gT m) (hl : m 376 6 ≤ m 376 1) (hn : m 376 18 = 1) (h8 : m 376 8 < 0) (hX : XS 0 m) (h84 : 1 ≤ m 384 0) (h90 : m 390 0 ≤ 100) (hv : 0 ≤ v ∧ v ≤ 47) : YC (gZ L xs) (d + 6) 133 [.ref 376, yI v] m nn (qU (fun m' n' => n' = nn ∧ Ty gT m' ∧ Fr wSt0 m m' ∧ m' 376 6 ≤ m' 376 1 ∧ (0 ≤ m' 376 8 ∨ (m' 376 8 < 0 ∧ mu m' ≤ mu m ∧ m' 390 0 = m 390 0 + 1 ∧ XS 0 m')))) := by
  have tb8 := hT.atp 376 8 (-1) 320 rfl
  have tc384 := hT.atp 384 0 0 10 rfl
  have tc386 := hT.atp 386 0 0 12 rfl
  have tc387 := hT.atp 387 0 0 8 rfl
  have tc388 := hT.atp 388 0 0 12 rfl
  have tc389 := hT.atp 389 0 0 48 rfl
  have tc390 := hT.atp 390 0 0 125 rfl
  have hsc := hX.2.2.2.2.2
  have hCV := hX.2.2.2.2.2.2.2.1
  refine YC.mkB [some (.ref 376), some (yI v), none, none, none] kn133 rfl rfl ?_
  have hF : Fr wSt0 m m := Fr.rf
  refine y_aload 1 c133_0 rfl rfl rfl ?_
  have tb7253 := hT.atp 376 1 0 320 rfl
  have tb7254 := hT.atp 376 3 0 3 rfl
  have tb7255 := hT.atp 376 6 0 320 rfl
  have tb7256 := hT.atp 376 8 ((-1)) 320 rfl
  refine y_callUB 4 [.ref 376] [] c133_1 rfl rfl rfl rfl rfl (ycanO km99 ko376) (t99u hT (by omega)) (fun mq7252 nq7252 hq7252 => ?_)
  obtain ⟨rfl, hTq7252, hFq7252, hq7252⟩ := hq7252
  have x1q7252 : mq7252 376 1 = m 376 1 := (hFq7252 376 1 rfl)
  have hF7257 := hF.tr hFq7252 wNx_wSt0
  refine y_aload 5 c133_4 rfl rfl rfl ?_
  refine y_getX 8 (mq7252 376 4) c133_5 rfl kf376_4 rfl ?_
  have tb7258 := hTq7252.atp 376 4 ((-2147483648)) 2147483647 rfl
  refine y_istore 9 c133_8 rfl rfl ?_
  refine y_aload 10 c133_9 rfl rfl rfl ?_
  refine y_getX 13 (mq7252 376 5) c133_10 rfl kf376_5 rfl ?_
  have tb7259 := hTq7252.atp 376 5 0 320 rfl
  refine y_istore 14 c133_13 rfl rfl ?_
  refine y_aload 15 c133_14 rfl rfl rfl ?_
  refine y_aload 16 c133_15 rfl rfl rfl ?_
  have tb7260 := hTq7252.atp 376 3 0 3 rfl
  refine y_callP 19 [.ref 376] [.ref 376] c133_16 rfl rfl rfl rfl rfl (ycanO km115 ko376) (t115 hTq7252) (fun r7261 hr7261 => ?_)
  have es7263 : mq7252 376 1 = m 376 1 := (hFq7252 376 1 rfl)
  have tb7264 := hTq7252.atp 376 6 0 320 rfl
  have es7265 : mq7252 376 8 = m 376 8 := (hFq7252 376 8 rfl)
  refine y_callIB 22 [.ref 376, yI r7261] [] c133_19 rfl rfl rfl rfl rfl (ycanO km105 ko376) (t105 (g := r7261) hTq7252 (by omega) (by omega)) (fun rq7262 mq7262 nq7262 hq7262 => ?_)
  obtain ⟨rfl, hTq7262, hFq7262, hq7262⟩ := hq7262
  have x1q7262 : mq7262 376 1 = m 376 1 := ((hFq7262 376 1 rfl).trans (hFq7252 376 1 rfl))
  have hF7266 := hF7257.tr hFq7262 wNw_wSt0
  refine y_if 26 25 c133_22 rfl rfl (yz_ne (by omega)) (fun hb7267 => ?_) (fun hb7267 => ?_)
  · refine y_aload 27 c133_26 rfl rfl rfl ?_
    refine y_iconst 29 c133_27 rfl ?_
    have tb7268 := hTq7262.atp 376 3 0 3 rfl
    refine y_callP 32 [.ref 376, yI 40] [] c133_29 rfl rfl rfl rfl rfl (ycanO km117 ko376) (t117 hTq7262 (by omega)) (fun r7269 hr7269 => ?_)
    refine y_if 44 35 c133_32 rfl rfl (yz_eq (by omega)) (fun hb7270 => ?_) (fun hb7270 => ?_)
    · refine y_aload 45 c133_44 rfl rfl rfl ?_
      refine y_iconst 47 c133_45 rfl ?_
      have es7272 : mq7262 376 1 = m 376 1 := ((hFq7262 376 1 rfl).trans (hFq7252 376 1 rfl))
      have tb7273 := hTq7262.atp 376 6 0 320 rfl
      have tb7274 := hTq7262.atp 376 8 ((-1)) 320 rfl
      refine y_callIB 50 [.ref 376, yI 61] [] c133_47 rfl rfl rfl rfl rfl (ycanO km118 ko376) (t118 hTq7262 (by omega) (by omega)) (fun rq7271 mq7271 nq7271 hq7271 => ?_)
      obtain ⟨rfl, hTq7271, hFq7271, hq7271⟩ := hq7271
      have x1q7271 : mq7271 376 1 = m 376 1 := ((hFq7271 376 1 rfl).trans ((hFq7262 376 1 rfl).trans (hFq7252 376 1 rfl)))
      have hF7275 := hF7266.tr hFq7271 wNw_wSt0
      refine y_if 54 53 c133_50 rfl rfl (yz_ne (by omega)) (fun hb7276 => ?_) (fun hb7276 => ?_)
      · refine y_aload 55 c133_54 rfl rfl rfl ?_
        have es7278 : mq7271 376 1 = m 376 1 := ((hFq7271 376 1 rfl).trans ((hFq7262 376 1 rfl).trans (hFq7252 376 1 rfl)))
        have tb7279 := hTq7271.atp 376 3 0 3 rfl
        have tb7280 := hTq7271.atp 376 6 0 320 rfl
        have tb7281 := hTq7271.atp 376 8 ((-1)) 320 rfl
        have es7282 : mq7271 376 18 = m 376 18 := ((hFq7271 376 18 rfl).trans ((hFq7262 376 18 rfl).trans (hFq7252 376 18 rfl)))
        have tb7283 := hT.atp 376 18 0 1 rfl
        refine y_callIB 58 [.ref 376] [] c133_55 rfl rfl rfl rfl rfl (ycanO km130 ko376) (t130_0 hTq7271 (by omega) (by omega) (by omega)) (fun rq7277 mq7277 nq7277 hq7277 => ?_)
        obtain ⟨rfl, hTq7277, hFq7277, hq7277⟩ := hq7277
        have x1q7277 : mq7277 376 1 = m 376 1 := ((hFq7277 376 1 rfl).trans ((hFq7271 376 1 rfl).trans ((hFq7262 376 1 rfl).trans (hFq7252 376 1 rfl))))
        have hF7284 := hF7275.tr hFq7277 wVr0_wSt0
        refine y_istore 60 c133_58 rfl rfl ?_
        refine y_aload 61 c133_60 rfl rfl rfl ?_
        refine y_getX 64 (mq7277 376 8) c133_61 rfl kf376_8 rfl ?_
        have tb7285 := hTq7277.atp 376 8 ((-1)) 320 rfl
        refine y_if 78 67 c133_64 rfl rfl (yz_ge (by omega)) (fun hb7286 => ?_) (fun hb7286 => ?_)
        · have es7287 : mq7277 376 1 = m 376 1 := ((hFq7277 376 1 rfl).trans ((hFq7271 376 1 rfl).trans ((hFq7262 376 1 rfl).trans (hFq7252 376 1 rfl))))
          have tb7288 := hTq7277.atp 376 3 0 3 rfl
          have tb7289 := hTq7277.atp 376 6 0 320 rfl
          exact y_retU c133_78 ⟨rfl, hTq7277, hF7284, by omega, Or.inl (by omega)⟩
        · refine y_aload 68 c133_67 rfl rfl rfl ?_
          refine y_iconst 69 c133_68 rfl ?_
          refine y_iload 70 c133_69 rfl rfl ?_
          refine y_iload 72 c133_70 rfl rfl ?_
          refine y_iload 73 c133_72 rfl rfl ?_
          have es7291 : mq7277 376 1 = m 376 1 := ((hFq7277 376 1 rfl).trans ((hFq7271 376 1 rfl).trans ((hFq7262 376 1 rfl).trans (hFq7252 376 1 rfl))))
          have tb7292 := hTq7277.atp 376 3 0 3 rfl
          have tb7293 := hTq7277.atp 376 6 0 320 rfl
          have es7294 : mq7277 376 18 = m 376 18 := ((hFq7277 376 18 rfl).trans ((hFq7271 376 18 rfl).trans ((hFq7262 376 18 rfl).trans (hFq7252 376 18 rfl))))
          have es7295 : mq7277 390 0 = m 390 0 := ((hFq7277 390 0 rfl).trans ((hFq7271 390 0 rfl).trans ((hFq7262 390 0 rfl).trans (hFq7252 390 0 rfl))))
          have es7296 : mq7277 386 0 = m 386 0 := ((hFq7277 386 0 rfl).trans ((hFq7271 386 0 rfl).trans ((hFq7262 386 0 rfl).trans (hFq7252 386 0 rfl))))
          have es7297 : mq7277 387 0 = m 387 0 := ((hFq7277 387 0 rfl).trans ((hFq7271 387 0 rfl).trans ((hFq7262 387 0 rfl).trans (hFq7252 387 0 rfl))))
          have es7298 : mq7277 388 0 = m 388 0 := ((hFq7277 388 0 rfl).trans ((hFq7271 388 0 rfl).trans ((hFq7262 388 0 rfl).trans (hFq7252 388 0 rfl))))
          have es7299 : mq7277 376 17 = m 376 17 := ((hFq7277 376 17 rfl).trans ((hFq7271 376 17 rfl).trans ((hFq7262 376 17 rfl).trans (hFq7252 376 17 rfl))))
          have tb7300 := hT.atp 376 17 0 20 rfl
          have es7301 : mq7277 384 0 = m 384 0 := ((hFq7277 384 0 rfl).trans ((hFq7271 384 0 rfl).trans ((hFq7262 384 0 rfl).trans (hFq7252 384 0 rfl))))
          refine y_callIB 76 [.ref 376, yI 5, yI v, yI rq7277, yI (mq7252 376 4)] [] c133_73 rfl rfl rfl rfl rfl (ycanO km127 ko376) (t127_0 hTq7277 (by omega) (by omega) (by omega) (by omega) (by omega) (by omega)) (fun rq7290 mq7290 nq7290 hq7290 => ?_)
          obtain ⟨rfl, hTq7290, hFq7290, hq7290, hE⟩ := hq7290
          unfold EM at hE
          rw [show mq7277 390 0 = m 390 0 from ((hFq7277 390 0 rfl).trans ((hFq7271 390 0 rfl).trans ((hFq7262 390 0 rfl).trans (hFq7252 390 0 rfl))))] at hE
          obtain ⟨k1, k2, k3, k4, k5, k6, k7⟩ := hE
          have k8 : ∀ q, q < 1000 * 0 + 8 * (m 390 0).toNat ∨ 1000 * 0 + 8 * (m 390 0).toNat + 8 ≤ q → mq7290 403 q = m 403 q := fun q hq => (k7 q hq).trans (((hFq7277 403 q rfl).trans ((hFq7271 403 q rfl).trans ((hFq7262 403 q rfl).trans (hFq7252 403 q rfl)))))
          have x1q7290 : mq7290 376 1 = m 376 1 := ((hFq7290 376 1 rfl).trans ((hFq7277 376 1 rfl).trans ((hFq7271 376 1 rfl).trans ((hFq7262 376 1 rfl).trans (hFq7252 376 1 rfl)))))
          have hF7302 := hF7284.tr hFq7290 wEm0_wSt0
          refine y_istore 78 c133_76 rfl rfl ?_
          have es7303 : mq7290 376 1 = m 376 1 := ((hFq7290 376 1 rfl).trans ((hFq7277 376 1 rfl).trans ((hFq7271 376 1 rfl).trans ((hFq7262 376 1 rfl).trans (hFq7252 376 1 rfl)))))
          have es7304 : mq7290 376 3 = mq7277 376 3 := (hFq7290 376 3 rfl)
          have es7305 : mq7290 376 6 = mq7277 376 6 := (hFq7290 376 6 rfl)
          have es7306 : mq7290 376 8 = mq7277 376 8 := (hFq7290 376 8 rfl)
          have tb7307 := hTq7290.atp 390 0 0 125 rfl
          have es7308 : mq7290 386 0 = m 386 0 := ((hFq7290 386 0 rfl).trans ((hFq7277 386 0 rfl).trans ((hFq7271 386 0 rfl).trans ((hFq7262 386 0 rfl).trans (hFq7252 386 0 rfl)))))
          have es7309 : mq7290 387 0 = m 387 0 := ((hFq7290 387 0 rfl).trans ((hFq7277 387 0 rfl).trans ((hFq7271 387 0 rfl).trans ((hFq7262 387 0 rfl).trans (hFq7252 387 0 rfl)))))
          have es7310 : mq7290 388 0 = m 388 0 := ((hFq7290 388 0 rfl).trans ((hFq7277 388 0 rfl).trans ((hFq7271 388 0 rfl).trans ((hFq7262 388 0 rfl).trans (hFq7252 388 0 rfl)))))
          have es7311 : mq7290 376 17 = m 376 17 := ((hFq7290 376 17 rfl).trans ((hFq7277 376 17 rfl).trans ((hFq7271 376 17 rfl).trans ((hFq7262 376 17 rfl).trans (hFq7252 376 17 rfl)))))
          have es7312 : mq7290 384 0 = m 384 0 := ((hFq7290 384 0 rfl).trans ((hFq7277 384 0 rfl).trans ((hFq7271 384 0 rfl).trans ((hFq7262 384 0 rfl).trans (hFq7252 384 0 rfl)))))
          have em7313 : mu mq7290 = mu mq7277 := mu_fr (hFq7290 376 1 rfl) (hFq7290 376 3 rfl) (hFq7290 376 6 rfl)
          have f0 : mq7290 403 (1000 * 0 + 8 * (m 390 0).toNat) = _ := k2
          have f1 : mq7290 403 (1000 * 0 + 8 * (m 390 0).toNat + 1) = _ := k3
          have f2 : mq7290 403 (1000 * 0 + 8 * (m 390 0).toNat + 2) = _ := k4
          have f3 : mq7290 403 (1000 * 0 + 8 * (m 390 0).toNat + 3) = _ := k5
          have f4 : mq7290 403 (1000 * 0 + 8 * (m 390 0).toNat + 4) = _ := k6
          have hw : OW mq7290 (1000 * 0 + 8 * (m 390 0).toNat) := by unfold OW; omega
          have hx : XS 0 mq7290 := XS.add hX (by omega) (fun a q ha => hF7302 a q (wSt0_Y a q ha)) (fun q hq => k8 q hq) hw (by omega) (by omega) (by omega) (by omega) (by omega) (by omega) (by omega) (fun c hc => by rw [show mq7290 401 (8 * 0 + c) = m 401 (8 * 0 + c) from ((hFq7290 401 _ rfl).trans ((hFq7277 401 _ rfl).trans ((hFq7271 401 _ rfl).trans ((hFq7262 401 _ rfl).trans (hFq7252 401 _ rfl)))))]; exact hCV c (by omega)) (by omega) (by omega)
          exact y_retU c133_78 ⟨rfl, hTq7290, hF7302, by omega, by first | exact Or.inl (by omega) | exact Or.inr ⟨by omega, by omega, by omega, hx⟩⟩
      · have es7314 : mq7271 376 1 = m 376 1 := ((hFq7271 376 1 rfl).trans ((hFq7262 376 1 rfl).trans (hFq7252 376 1 rfl)))
        have tb7315 := hTq7271.atp 376 3 0 3 rfl
        have tb7316 := hTq7271.atp 376 6 0 320 rfl
        have tb7317 := hTq7271.atp 376 8 ((-1)) 320 rfl
        exact y_retU c133_53 ⟨rfl, hTq7271, hF7275, by omega, Or.inl (by omega)⟩
    · refine y_aload 36 c133_35 rfl rfl rfl ?_
      refine y_iconst 37 c133_36 rfl ?_
      refine y_iload 38 c133_37 rfl rfl ?_
      refine y_iload 39 c133_38 rfl rfl ?_
      refine y_iload 40 c133_39 rfl rfl ?_
      have es7319 : mq7262 376 1 = m 376 1 := ((hFq7262 376 1 rfl).trans (hFq7252 376 1 rfl))
      have tb7320 := hTq7262.atp 376 6 0 320 rfl
      have tb7321 := hTq7262.atp 376 8 ((-1)) 320 rfl
      have es7322 : mq7262 376 18 = m 376 18 := ((hFq7262 376 18 rfl).trans (hFq7252 376 18 rfl))
      have tb7323 := hT.atp 376 18 0 1 rfl
      have es7324 : mq7262 390 0 = m 390 0 := ((hFq7262 390 0 rfl).trans (hFq7252 390 0 rfl))
      have es7325 : mq7262 386 0 = m 386 0 := ((hFq7262 386 0 rfl).trans (hFq7252 386 0 rfl))
      have es7326 : mq7262 387 0 = m 387 0 := ((hFq7262 387 0 rfl).trans (hFq7252 387 0 rfl))
      have es7327 : mq7262 388 0 = m 388 0 := ((hFq7262 388 0 rfl).trans (hFq7252 388 0 rfl))
      have es7328 : mq7262 376 17 = m 376 17 := ((hFq7262 376 17 rfl).trans (hFq7252 376 17 rfl))
      have tb7329 := hT.atp 376 17 0 20 rfl
      have es7330 : mq7262 384 0 = m 384 0 := ((hFq7262 384 0 rfl).trans (hFq7252 384 0 rfl))
      refine y_callUB 43 [.ref 376, yI ((-1)), yI v, yI (mq7252 376 4), yI (mq7252 376 5)] [] c133_40 rfl rfl rfl rfl rfl (ycanO km132 ko376) (t132_0 hTq7262 (by omega) (by omega) (by omega) ((hX.fw hFq7252 wNx_X).fw hFq7262 wNw_X) (by omega) (by omega) (by omega) (by omega) (by omega) (by omega)) (fun mq7318 nq7318 hq7318 => ?_)
      obtain ⟨rfl, hTq7318, hFq7318, hlq7318, hq7318⟩ := hq7318
      have hAq7318 : 0 ≤ mq7318 376 8 ∨ (mq7318 376 8 < 0 ∧ mu mq7318 ≤ mu mq7262 ∧ mq7318 390 0 = m 390 0 + 1) := by rcases hq7318 with q | q; exact Or.inl q; exact Or.inr ⟨q.1, by omega, by omega⟩
      have x1q7318 : mq7318 376 1 = m 376 1 := ((hFq7318 376 1 rfl).trans ((hFq7262 376 1 rfl).trans (hFq7252 376 1 rfl)))
      have hF7331 := hF7266.tr hFq7318 (fun _ _ e => e)
      have es7332 : mq7318 376 1 = m 376 1 := ((hFq7318 376 1 rfl).trans ((hFq7262 376 1 rfl).trans (hFq7252 376 1 rfl)))
      have tb7333 := hTq7318.atp 376 3 0 3 rfl
      have tb7334 := hTq7318.atp 376 6 0 320 rfl
      have tb7335 := hTq7318.atp 376 8 ((-1)) 320 rfl
      have tb7336 := hTq7318.atp 390 0 0 125 rfl
      have tb7337 := hTq7318.atp 386 0 0 12 rfl
      have tb7338 := hTq7318.atp 387 0 0 8 rfl
      have tb7339 := hTq7318.atp 388 0 0 12 rfl
      have tb7340 := hTq7318.atp 376 17 0 20 rfl
      have es7341 : mq7318 384 0 = m 384 0 := ((hFq7318 384 0 rfl).trans ((hFq7262 384 0 rfl).trans (hFq7252 384 0 rfl)))
      exact y_retU c133_43 ⟨rfl, hTq7318, hF7331, by omega, (by first | exact Or.inl (by omega) | exact Or.inr ⟨by omega, by omega, by omega, (hq7318.resolve_left (by omega)).2.2.2⟩ | (by_cases hq : 0 ≤ mq7318 376 8 <;> first | exact Or.inl (by omega) | exact Or.inr ⟨by omega, by omega, by omega, (hq7318.resolve_left (by omega)).2.2.2⟩))⟩
  · have es7342 : mq7262 376 1 = m 376 1 := ((hFq7262 376 1 rfl).trans (hFq7252 376 1 rfl))
    have tb7343 := hTq7262.atp 376 3 0 3 rfl
    have tb7344 := hTq7262.atp 376 6 0 320 rfl
    have tb7345 := hTq7262.atp 376 8 ((-1)) 320 rfl
    exact y_retU c133_25 ⟨rfl, hTq7262, hF7266, by omega, Or.inl (by omega)⟩
set_option maxRecDepth 100000 in
theorem t137_1 {L : Nat} {xs : Nat → Int32} {d nn : Nat} {m : yM} {v : Int} (hT : Ty gT m) (hl : m 376 6 ≤ m 376 1) (hn : m 376 18 = 0) (h8 : m 376 8 < 0) (hX : XS 1 m) (h84 : 1 ≤ m 384 1) (h90 : m 390 1 ≤ 100) (hv : 0 ≤ v ∧ v ≤ 47) : YC (gZ L xs) (d + 6) 137 [.ref 376, yI v] m nn (qU (fun m' n' => n' = nn ∧ Ty gT m' ∧ Fr wSt1 m m' ∧ m' 376 6 ≤ m' 376 1 ∧ (0 ≤ m' 376 8 ∨ (m' 376 8 < 0 ∧ mu m' ≤ mu m ∧ m' 390 1 = m 390 1 + 1 ∧ XS 1 m')))) := by
  have tb8 := hT.atp 376 8 (-1) 320 rfl
  have tc384 := hT.atp 384 1 0 10 rfl
  have tc386 := hT.atp 386 1 0 12 rfl
  have tc387 := hT.atp 387 1 0 8 rfl
  have tc388 := hT.atp 388 1 0 12 rfl
  have tc389 := hT.atp 389 1 0 48 rfl
  have tc390 := hT.atp 390 1 0 125 rfl
  have hsc := hX.2.2.2.2.2
  have hCV := hX.2.2.2.2.2.2.2.1
  refine YC.mkB [some (.ref 376), some (yI v), none, none, none] kn137 rfl rfl ?_
  have hF : Fr wSt1 m m := Fr.rf
  refine y_aload 1 c137_0 rfl rfl rfl ?_
  have tb8279 := hT.atp 376 3 0 3 rfl
  refine y_callP 4 [.ref 376] [] c137_1 rfl rfl rfl rfl rfl (ycanO km108 ko376) (t108 hT) (fun r8280 hr8280 => ?_)
  refine y_if 15 7 c137_4 rfl rfl (yz_eq (by omega)) (fun hb8281 => ?_) (fun hb8281 => ?_)
  · refine y_aload 16 c137_15 rfl rfl rfl ?_
    refine y_callP 19 [.ref 376] [] c137_16 rfl rfl rfl rfl rfl (ycanO km109 ko376) (t109 hT) (fun r8282 hr8282 => ?_)
    refine y_if 39 22 c137_19 rfl rfl (yz_eq (by omega)) (fun hb8283 => ?_) (fun hb8283 => ?_)
    · refine y_aload 40 c137_39 rfl rfl rfl ?_
      refine y_iconst 42 c137_40 rfl ?_
      refine y_callP 45 [.ref 376, yI 40] [] c137_42 rfl rfl rfl rfl rfl (ycanO km117 ko376) (t117 hT (by omega)) (fun r8284 hr8284 => ?_)
      refine y_if 56 48 c137_45 rfl rfl (yz_eq (by omega)) (fun hb8285 => ?_) (fun hb8285 => ?_)
      · refine y_aload 57 c137_56 rfl rfl rfl ?_
        have tb8287 := hT.atp 376 1 0 320 rfl
        have tb8288 := hT.atp 376 6 0 320 rfl
        have tb8289 := hT.atp 376 8 ((-1)) 320 rfl
        have tb8290 := hT.atp 376 18 0 1 rfl
        refine y_callIB 60 [.ref 376] [] c137_57 rfl rfl rfl rfl rfl (ycanO km130 ko376) (t130_1 hT (by omega) (by omega) (by omega)) (fun rq8286 mq8286 nq8286 hq8286 => ?_)
        obtain ⟨rfl, hTq8286, hFq8286, hq8286⟩ := hq8286
        have x1q8286 : mq8286 376 1 = m 376 1 := (hFq8286 376 1 rfl)
        have hF8291 := hF.tr hFq8286 wVr1_wSt1
        refine y_istore 61 c137_60 rfl rfl ?_
        refine y_aload 62 c137_61 rfl rfl rfl ?_
        refine y_getX 65 (mq8286 376 8) c137_62 rfl kf376_8 rfl ?_
        have tb8292 := hTq8286.atp 376 8 ((-1)) 320 rfl
        refine y_if 69 68 c137_65 rfl rfl (yz_lt (by omega)) (fun hb8293 => ?_) (fun hb8293 => ?_)
        · refine y_aload 70 c137_69 rfl rfl rfl ?_
          refine y_iconst 72 c137_70 rfl ?_
          have tb8294 := hTq8286.atp 376 3 0 3 rfl
          refine y_callP 75 [.ref 376, yI 46] [] c137_72 rfl rfl rfl rfl rfl (ycanO km117 ko376) (t117 hTq8286 (by omega)) (fun r8295 hr8295 => ?_)
          refine y_if 88 78 c137_75 rfl rfl (yz_ne (by omega)) (fun hb8296 => ?_) (fun hb8296 => ?_)
          · refine y_aload 89 c137_88 rfl rfl rfl ?_
            have es8298 : mq8286 376 1 = m 376 1 := (hFq8286 376 1 rfl)
            have tb8299 := hTq8286.atp 376 6 0 320 rfl
            refine y_callUB 92 [.ref 376] [] c137_89 rfl rfl rfl rfl rfl (ycanO km99 ko376) (t99u hTq8286 (by omega)) (fun mq8297 nq8297 hq8297 => ?_)
            obtain ⟨rfl, hTq8297, hFq8297, hq8297⟩ := hq8297
            have x1q8297 : mq8297 376 1 = m 376 1 := ((hFq8297 376 1 rfl).trans (hFq8286 376 1 rfl))
            have hF8300 := hF8291.tr hFq8297 wNx_wSt1
            refine y_aload 93 c137_92 rfl rfl rfl ?_
            refine y_getX 96 (mq8297 376 4) c137_93 rfl kf376_4 rfl ?_
            have tb8301 := hTq8297.atp 376 4 ((-2147483648)) 2147483647 rfl
            refine y_istore 97 c137_96 rfl rfl ?_
            refine y_aload 98 c137_97 rfl rfl rfl ?_
            refine y_getX 101 (mq8297 376 5) c137_98 rfl kf376_5 rfl ?_
            have tb8302 := hTq8297.atp 376 5 0 320 rfl
            refine y_istore 103 c137_101 rfl rfl ?_
            refine y_aload 104 c137_103 rfl rfl rfl ?_
            refine y_aload 105 c137_104 rfl rfl rfl ?_
            have tb8303 := hTq8297.atp 376 3 0 3 rfl
            refine y_callP 108 [.ref 376] [.ref 376] c137_105 rfl rfl rfl rfl rfl (ycanO km115 ko376) (t115 hTq8297) (fun r8304 hr8304 => ?_)
            have es8306 : mq8297 376 1 = m 376 1 := ((hFq8297 376 1 rfl).trans (hFq8286 376 1 rfl))
            have tb8307 := hTq8297.atp 376 6 0 320 rfl
            have es8308 : mq8297 376 8 = mq8286 376 8 := (hFq8297 376 8 rfl)
            refine y_callIB 111 [.ref 376, yI r8304] [] c137_108 rfl rfl rfl rfl rfl (ycanO km105 ko376) (t105 (g := r8304) hTq8297 (by omega) (by omega)) (fun rq8305 mq8305 nq8305 hq8305 => ?_)
            obtain ⟨rfl, hTq8305, hFq8305, hq8305⟩ := hq8305
            have x1q8305 : mq8305 376 1 = m 376 1 := ((hFq8305 376 1 rfl).trans ((hFq8297 376 1 rfl).trans (hFq8286 376 1 rfl)))
            have hF8309 := hF8300.tr hFq8305 wNw_wSt1
            refine y_if 115 114 c137_111 rfl rfl (yz_ne (by omega)) (fun hb8310 => ?_) (fun hb8310 => ?_)
            · refine y_aload 116 c137_115 rfl rfl rfl ?_
              refine y_iconst 118 c137_116 rfl ?_
              have tb8311 := hTq8305.atp 376 3 0 3 rfl
              refine y_callP 121 [.ref 376, yI 40] [] c137_118 rfl rfl rfl rfl rfl (ycanO km117 ko376) (t117 hTq8305 (by omega)) (fun r8312 hr8312 => ?_)
              refine y_if 136 124 c137_121 rfl rfl (yz_eq (by omega)) (fun hb8313 => ?_) (fun hb8313 => ?_)
              · refine y_aload 137 c137_136 rfl rfl rfl ?_
                refine y_iconst 138 c137_137 rfl ?_
                refine y_iload 139 c137_138 rfl rfl ?_
                refine y_iload 140 c137_139 rfl rfl ?_
                refine y_iload 141 c137_140 rfl rfl ?_
                have es8315 : mq8305 376 1 = m 376 1 := ((hFq8305 376 1 rfl).trans ((hFq8297 376 1 rfl).trans (hFq8286 376 1 rfl)))
                have tb8316 := hTq8305.atp 376 6 0 320 rfl
                have tb8317 := hTq8305.atp 376 8 ((-1)) 320 rfl
                have es8318 : mq8305 376 18 = m 376 18 := ((hFq8305 376 18 rfl).trans ((hFq8297 376 18 rfl).trans (hFq8286 376 18 rfl)))
                have es8319 : mq8305 390 1 = m 390 1 := ((hFq8305 390 1 rfl).trans ((hFq8297 390 1 rfl).trans (hFq8286 390 1 rfl)))
                have es8320 : mq8305 386 1 = m 386 1 := ((hFq8305 386 1 rfl).trans ((hFq8297 386 1 rfl).trans (hFq8286 386 1 rfl)))
                have es8321 : mq8305 387 1 = m 387 1 := ((hFq8305 387 1 rfl).trans ((hFq8297 387 1 rfl).trans (hFq8286 387 1 rfl)))
                have es8322 : mq8305 388 1 = m 388 1 := ((hFq8305 388 1 rfl).trans ((hFq8297 388 1 rfl).trans (hFq8286 388 1 rfl)))
                have es8323 : mq8305 376 17 = m 376 17 := ((hFq8305 376 17 rfl).trans ((hFq8297 376 17 rfl).trans (hFq8286 376 17 rfl)))
                have tb8324 := hT.atp 376 17 0 20 rfl
                have es8325 : mq8305 384 1 = m 384 1 := ((hFq8305 384 1 rfl).trans ((hFq8297 384 1 rfl).trans (hFq8286 384 1 rfl)))
                refine y_callIB 144 [.ref 376, yI 4, yI v, yI rq8286, yI (mq8297 376 4)] [] c137_141 rfl rfl rfl rfl rfl (ycanO km127 ko376) (t127_1 hTq8305 (by omega) (by omega) (by omega) (by omega) (by omega) (by omega)) (fun rq8314 mq8314 nq8314 hq8314 => ?_)
                obtain ⟨rfl, hTq8314, hFq8314, hq8314, hE⟩ := hq8314
                unfold EM at hE
                rw [show mq8305 390 1 = m 390 1 from ((hFq8305 390 1 rfl).trans ((hFq8297 390 1 rfl).trans (hFq8286 390 1 rfl)))] at hE
                obtain ⟨k1, k2, k3, k4, k5, k6, k7⟩ := hE
                have k8 : ∀ q, q < 1000 * 1 + 8 * (m 390 1).toNat ∨ 1000 * 1 + 8 * (m 390 1).toNat + 8 ≤ q → mq8314 403 q = m 403 q := fun q hq => (k7 q hq).trans (((hFq8305 403 q rfl).trans ((hFq8297 403 q rfl).trans (hFq8286 403 q rfl))))
                have x1q8314 : mq8314 376 1 = m 376 1 := ((hFq8314 376 1 rfl).trans ((hFq8305 376 1 rfl).trans ((hFq8297 376 1 rfl).trans (hFq8286 376 1 rfl))))
                have hF8326 := hF8309.tr hFq8314 wEm1_wSt1
                refine y_istore 145 c137_144 rfl rfl ?_
                have es8327 : mq8314 376 1 = m 376 1 := ((hFq8314 376 1 rfl).trans ((hFq8305 376 1 rfl).trans ((hFq8297 376 1 rfl).trans (hFq8286 376 1 rfl))))
                have es8328 : mq8314 376 3 = mq8305 376 3 := (hFq8314 376 3 rfl)
                have es8329 : mq8314 376 6 = mq8305 376 6 := (hFq8314 376 6 rfl)
                have es8330 : mq8314 376 8 = mq8305 376 8 := (hFq8314 376 8 rfl)
                have tb8331 := hTq8314.atp 390 1 0 125 rfl
                have es8332 : mq8314 386 1 = m 386 1 := ((hFq8314 386 1 rfl).trans ((hFq8305 386 1 rfl).trans ((hFq8297 386 1 rfl).trans (hFq8286 386 1 rfl))))
                have es8333 : mq8314 387 1 = m 387 1 := ((hFq8314 387 1 rfl).trans ((hFq8305 387 1 rfl).trans ((hFq8297 387 1 rfl).trans (hFq8286 387 1 rfl))))
                have es8334 : mq8314 388 1 = m 388 1 := ((hFq8314 388 1 rfl).trans ((hFq8305 388 1 rfl).trans ((hFq8297 388 1 rfl).trans (hFq8286 388 1 rfl))))
                have es8335 : mq8314 376 17 = m 376 17 := ((hFq8314 376 17 rfl).trans ((hFq8305 376 17 rfl).trans ((hFq8297 376 17 rfl).trans (hFq8286 376 17 rfl))))
                have es8336 : mq8314 384 1 = m 384 1 := ((hFq8314 384 1 rfl).trans ((hFq8305 384 1 rfl).trans ((hFq8297 384 1 rfl).trans (hFq8286 384 1 rfl))))
                have em8337 : mu mq8314 = mu mq8305 := mu_fr (hFq8314 376 1 rfl) (hFq8314 376 3 rfl) (hFq8314 376 6 rfl)
                have f0 : mq8314 403 (1000 * 1 + 8 * (m 390 1).toNat) = _ := k2
                have f1 : mq8314 403 (1000 * 1 + 8 * (m 390 1).toNat + 1) = _ := k3
                have f2 : mq8314 403 (1000 * 1 + 8 * (m 390 1).toNat + 2) = _ := k4
                have f3 : mq8314 403 (1000 * 1 + 8 * (m 390 1).toNat + 3) = _ := k5
                have f4 : mq8314 403 (1000 * 1 + 8 * (m 390 1).toNat + 4) = _ := k6
                have hw : OW mq8314 (1000 * 1 + 8 * (m 390 1).toNat) := by unfold OW; omega
                have hx : XS 1 mq8314 := XS.add hX (by omega) (fun a q ha => hF8326 a q (wSt1_Y a q ha)) (fun q hq => k8 q hq) hw (by omega) (by omega) (by omega) (by omega) (by omega) (by omega) (by omega) (fun c hc => by rw [show mq8314 401 (8 * 1 + c) = m 401 (8 * 1 + c) from ((hFq8314 401 _ rfl).trans ((hFq8305 401 _ rfl).trans ((hFq8297 401 _ rfl).trans (hFq8286 401 _ rfl))))]; exact hCV c (by omega)) (by omega) (by omega)
                exact y_retU c137_145 ⟨rfl, hTq8314, hF8326, by omega, by first | exact Or.inl (by omega) | exact Or.inr ⟨by omega, by omega, by omega, hx⟩⟩
              · refine y_aload 125 c137_124 rfl rfl rfl ?_
                refine y_iload 126 c137_125 rfl rfl ?_
                refine y_iload 127 c137_126 rfl rfl ?_
                refine y_iload 128 c137_127 rfl rfl ?_
                refine y_iload 130 c137_128 rfl rfl ?_
                have es8339 : mq8305 376 1 = m 376 1 := ((hFq8305 376 1 rfl).trans ((hFq8297 376 1 rfl).trans (hFq8286 376 1 rfl)))
                have tb8340 := hTq8305.atp 376 6 0 320 rfl
                have tb8341 := hTq8305.atp 376 8 ((-1)) 320 rfl
                have es8342 : mq8305 376 18 = m 376 18 := ((hFq8305 376 18 rfl).trans ((hFq8297 376 18 rfl).trans (hFq8286 376 18 rfl)))
                have es8343 : mq8305 390 1 = m 390 1 := ((hFq8305 390 1 rfl).trans ((hFq8297 390 1 rfl).trans (hFq8286 390 1 rfl)))
                have es8344 : mq8305 386 1 = m 386 1 := ((hFq8305 386 1 rfl).trans ((hFq8297 386 1 rfl).trans (hFq8286 386 1 rfl)))
                have es8345 : mq8305 387 1 = m 387 1 := ((hFq8305 387 1 rfl).trans ((hFq8297 387 1 rfl).trans (hFq8286 387 1 rfl)))
                have es8346 : mq8305 388 1 = m 388 1 := ((hFq8305 388 1 rfl).trans ((hFq8297 388 1 rfl).trans (hFq8286 388 1 rfl)))
                have es8347 : mq8305 376 17 = m 376 17 := ((hFq8305 376 17 rfl).trans ((hFq8297 376 17 rfl).trans (hFq8286 376 17 rfl)))
                have tb8348 := hT.atp 376 17 0 20 rfl
                have es8349 : mq8305 384 1 = m 384 1 := ((hFq8305 384 1 rfl).trans ((hFq8297 384 1 rfl).trans (hFq8286 384 1 rfl)))
                refine y_callUB 133 [.ref 376, yI v, yI rq8286, yI (mq8297 376 4), yI (mq8297 376 5)] [] c137_130 rfl rfl rfl rfl rfl (ycanO km132 ko376) (t132_1 hTq8305 (by omega) (by omega) (by omega) (((hX.fw hFq8286 wVr1_X).fw hFq8297 wNx_X).fw hFq8305 wNw_X) (by omega) (by omega) (by omega) (by omega) (by omega) (by omega)) (fun mq8338 nq8338 hq8338 => ?_)
                obtain ⟨rfl, hTq8338, hFq8338, hlq8338, hq8338⟩ := hq8338
                have hAq8338 : 0 ≤ mq8338 376 8 ∨ (mq8338 376 8 < 0 ∧ mu mq8338 ≤ mu mq8305 ∧ mq8338 390 1 = m 390 1 + 1) := by rcases hq8338 with q | q; exact Or.inl q; exact Or.inr ⟨q.1, by omega, by omega⟩
                have x1q8338 : mq8338 376 1 = m 376 1 := ((hFq8338 376 1 rfl).trans ((hFq8305 376 1 rfl).trans ((hFq8297 376 1 rfl).trans (hFq8286 376 1 rfl))))
                have hF8350 := hF8309.tr hFq8338 (fun _ _ e => e)
                refine y_goto 145 c137_133 rfl ?_
                have es8351 : mq8338 376 1 = m 376 1 := ((hFq8338 376 1 rfl).trans ((hFq8305 376 1 rfl).trans ((hFq8297 376 1 rfl).trans (hFq8286 376 1 rfl))))
                have tb8352 := hTq8338.atp 376 3 0 3 rfl
                have tb8353 := hTq8338.atp 376 6 0 320 rfl
                have tb8354 := hTq8338.atp 376 8 ((-1)) 320 rfl
                have tb8355 := hTq8338.atp 390 1 0 125 rfl
                have tb8356 := hTq8338.atp 386 1 0 12 rfl
                have tb8357 := hTq8338.atp 387 1 0 8 rfl
                have tb8358 := hTq8338.atp 388 1 0 12 rfl
                have tb8359 := hTq8338.atp 376 17 0 20 rfl
                have es8360 : mq8338 384 1 = m 384 1 := ((hFq8338 384 1 rfl).trans ((hFq8305 384 1 rfl).trans ((hFq8297 384 1 rfl).trans (hFq8286 384 1 rfl))))
                exact y_retU c137_145 ⟨rfl, hTq8338, hF8350, by omega, (by first | exact Or.inl (by omega) | exact Or.inr ⟨by omega, by omega, by omega, (hq8338.resolve_left (by omega)).2.2.2⟩ | (by_cases hq : 0 ≤ mq8338 376 8 <;> first | exact Or.inl (by omega) | exact Or.inr ⟨by omega, by omega, by omega, (hq8338.resolve_left (by omega)).2.2.2⟩))⟩
            · have es8361 : mq8305 376 1 = m 376 1 := ((hFq8305 376 1 rfl).trans ((hFq8297 376 1 rfl).trans (hFq8286 376 1 rfl)))
              have tb8362 := hTq8305.atp 376 3 0 3 rfl
              have tb8363 := hTq8305.atp 376 6 0 320 rfl
              have tb8364 := hTq8305.atp 376 8 ((-1)) 320 rfl
              exact y_retU c137_114 ⟨rfl, hTq8305, hF8309, by omega, Or.inl (by omega)⟩
          · refine y_aload 79 c137_78 rfl rfl rfl ?_
            refine y_iconst 80 c137_79 rfl ?_
            refine y_iload 81 c137_80 rfl rfl ?_
            refine y_iload 82 c137_81 rfl rfl ?_
            refine y_iconst 83 c137_82 rfl ?_
            have es8366 : mq8286 376 1 = m 376 1 := (hFq8286 376 1 rfl)
            have tb8367 := hTq8286.atp 376 6 0 320 rfl
            have es8368 : mq8286 376 18 = m 376 18 := (hFq8286 376 18 rfl)
            have es8369 : mq8286 390 1 = m 390 1 := (hFq8286 390 1 rfl)
            have es8370 : mq8286 386 1 = m 386 1 := (hFq8286 386 1 rfl)
            have es8371 : mq8286 387 1 = m 387 1 := (hFq8286 387 1 rfl)
            have es8372 : mq8286 388 1 = m 388 1 := (hFq8286 388 1 rfl)
            have es8373 : mq8286 376 17 = m 376 17 := (hFq8286 376 17 rfl)
            have tb8374 := hT.atp 376 17 0 20 rfl
            have es8375 : mq8286 384 1 = m 384 1 := (hFq8286 384 1 rfl)
            refine y_callIB 86 [.ref 376, yI 2, yI v, yI rq8286, yI 0] [] c137_83 rfl rfl rfl rfl rfl (ycanO km127 ko376) (t127_1 hTq8286 (by omega) (by omega) (by omega) (by omega) (by omega) (by omega)) (fun rq8365 mq8365 nq8365 hq8365 => ?_)
            obtain ⟨rfl, hTq8365, hFq8365, hq8365, hE⟩ := hq8365
            unfold EM at hE
            rw [show mq8286 390 1 = m 390 1 from (hFq8286 390 1 rfl)] at hE
            obtain ⟨k1, k2, k3, k4, k5, k6, k7⟩ := hE
            have k8 : ∀ q, q < 1000 * 1 + 8 * (m 390 1).toNat ∨ 1000 * 1 + 8 * (m 390 1).toNat + 8 ≤ q → mq8365 403 q = m 403 q := fun q hq => (k7 q hq).trans ((hFq8286 403 q rfl))
            have x1q8365 : mq8365 376 1 = m 376 1 := ((hFq8365 376 1 rfl).trans (hFq8286 376 1 rfl))
            have hF8376 := hF8291.tr hFq8365 wEm1_wSt1
            refine y_istore 87 c137_86 rfl rfl ?_
            have es8377 : mq8365 376 1 = m 376 1 := ((hFq8365 376 1 rfl).trans (hFq8286 376 1 rfl))
            have es8378 : mq8365 376 3 = mq8286 376 3 := (hFq8365 376 3 rfl)
            have es8379 : mq8365 376 6 = mq8286 376 6 := (hFq8365 376 6 rfl)
            have es8380 : mq8365 376 8 = mq8286 376 8 := (hFq8365 376 8 rfl)
            have tb8381 := hTq8365.atp 390 1 0 125 rfl
            have es8382 : mq8365 386 1 = m 386 1 := ((hFq8365 386 1 rfl).trans (hFq8286 386 1 rfl))
            have es8383 : mq8365 387 1 = m 387 1 := ((hFq8365 387 1 rfl).trans (hFq8286 387 1 rfl))
            have es8384 : mq8365 388 1 = m 388 1 := ((hFq8365 388 1 rfl).trans (hFq8286 388 1 rfl))
            have es8385 : mq8365 376 17 = m 376 17 := ((hFq8365 376 17 rfl).trans (hFq8286 376 17 rfl))
            have es8386 : mq8365 384 1 = m 384 1 := ((hFq8365 384 1 rfl).trans (hFq8286 384 1 rfl))
            have em8387 : mu mq8365 = mu mq8286 := mu_fr (hFq8365 376 1 rfl) (hFq8365 376 3 rfl) (hFq8365 376 6 rfl)
            have f0 : mq8365 403 (1000 * 1 + 8 * (m 390 1).toNat) = _ := k2
            have f1 : mq8365 403 (1000 * 1 + 8 * (m 390 1).toNat + 1) = _ := k3
            have f2 : mq8365 403 (1000 * 1 + 8 * (m 390 1).toNat + 2) = _ := k4
            have f3 : mq8365 403 (1000 * 1 + 8 * (m 390 1).toNat + 3) = _ := k5
            have f4 : mq8365 403 (1000 * 1 + 8 * (m 390 1).toNat + 4) = _ := k6
            have hw : OW mq8365 (1000 * 1 + 8 * (m 390 1).toNat) := by unfold OW; omega
            have hx : XS 1 mq8365 := XS.add hX (by omega) (fun a q ha => hF8376 a q (wSt1_Y a q ha)) (fun q hq => k8 q hq) hw (by omega) (by omega) (by omega) (by omega) (by omega) (by omega) (by omega) (fun c hc => by rw [show mq8365 401 (8 * 1 + c) = m 401 (8 * 1 + c) from ((hFq8365 401 _ rfl).trans (hFq8286 401 _ rfl))]; exact hCV c (by omega)) (by omega) (by omega)
            exact y_retU c137_87 ⟨rfl, hTq8365, hF8376, by omega, by first | exact Or.inl (by omega) | exact Or.inr ⟨by omega, by omega, by omega, hx⟩⟩
        · have es8388 : mq8286 376 1 = m 376 1 := (hFq8286 376 1 rfl)
          have tb8389 := hTq8286.atp 376 3 0 3 rfl
          have tb8390 := hTq8286.atp 376 6 0 320 rfl
          exact y_retU c137_68 ⟨rfl, hTq8286, hF8291, by omega, Or.inl (by omega)⟩
      · refine y_aload 49 c137_48 rfl rfl rfl ?_
        refine y_iload 50 c137_49 rfl rfl ?_
        have tb8392 := hT.atp 376 1 0 320 rfl
        have tb8393 := hT.atp 376 6 0 320 rfl
        have tb8394 := hT.atp 376 8 ((-1)) 320 rfl
        have tb8395 := hT.atp 376 18 0 1 rfl
        have tb8396 := hT.atp 376 17 0 20 rfl
        refine y_callUB 53 [.ref 376, yI v] [] c137_50 rfl rfl rfl rfl rfl (ycanO km136 ko376) (t136_1 hT (by omega) (by omega) (by omega) hX (by omega) (by omega) (by omega)) (fun mq8391 nq8391 hq8391 => ?_)
        obtain ⟨rfl, hTq8391, hFq8391, hlq8391, hq8391⟩ := hq8391
        have hAq8391 : 0 ≤ mq8391 376 8 ∨ (mq8391 376 8 < 0 ∧ mu mq8391 ≤ mu m ∧ mq8391 390 1 = m 390 1 + 1) := by rcases hq8391 with q | q; exact Or.inl q; exact Or.inr ⟨q.1, by omega, by omega⟩
        have x1q8391 : mq8391 376 1 = m 376 1 := (hFq8391 376 1 rfl)
        have hF8397 := hF.tr hFq8391 (fun _ _ e => e)
        refine y_goto 145 c137_53 rfl ?_
        have es8398 : mq8391 376 1 = m 376 1 := (hFq8391 376 1 rfl)
        have tb8399 := hTq8391.atp 376 3 0 3 rfl
        have tb8400 := hTq8391.atp 376 6 0 320 rfl
        have tb8401 := hTq8391.atp 376 8 ((-1)) 320 rfl
        have tb8402 := hTq8391.atp 390 1 0 125 rfl
        have tb8403 := hTq8391.atp 386 1 0 12 rfl
        have tb8404 := hTq8391.atp 387 1 0 8 rfl
        have tb8405 := hTq8391.atp 388 1 0 12 rfl
        have tb8406 := hTq8391.atp 376 17 0 20 rfl
        have es8407 : mq8391 384 1 = m 384 1 := (hFq8391 384 1 rfl)
        exact y_retU c137_145 ⟨rfl, hTq8391, hF8397, by omega, (by first | exact Or.inl (by omega) | exact Or.inr ⟨by omega, by omega, by omega, (hq8391.resolve_left (by omega)).2.2.2⟩ | (by_cases hq : 0 ≤ mq8391 376 8 <;> first | exact Or.inl (by omega) | exact Or.inr ⟨by omega, by omega, by omega, (hq8391.resolve_left (by omega)).2.2.2⟩))⟩
    · refine y_aload 23 c137_22 rfl rfl rfl ?_
      have tb8409 := hT.atp 376 1 0 320 rfl
      have tb8410 := hT.atp 376 6 0 320 rfl
      have tb8411 := hT.atp 376 8 ((-1)) 320 rfl
      refine y_callUB 26 [.ref 376] [] c137_23 rfl rfl rfl rfl rfl (ycanO km99 ko376) (t99u hT (by omega)) (fun mq8408 nq8408 hq8408 => ?_)
      obtain ⟨rfl, hTq8408, hFq8408, hq8408⟩ := hq8408
      have x1q8408 : mq8408 376 1 = m 376 1 := (hFq8408 376 1 rfl)
      have hF8412 := hF.tr hFq8408 wNx_wSt1
      refine y_aload 27 c137_26 rfl rfl rfl ?_
      refine y_iconst 29 c137_27 rfl ?_
      refine y_iload 30 c137_29 rfl rfl ?_
      refine y_iconst 31 c137_30 rfl ?_
      refine y_iconst 32 c137_31 rfl ?_
      have es8414 : mq8408 376 1 = m 376 1 := (hFq8408 376 1 rfl)
      have tb8415 := hTq8408.atp 376 3 0 3 rfl
      have tb8416 := hTq8408.atp 376 6 0 320 rfl
      have es8417 : mq8408 376 8 = m 376 8 := (hFq8408 376 8 rfl)
      have es8418 : mq8408 376 18 = m 376 18 := (hFq8408 376 18 rfl)
      have tb8419 := hT.atp 376 18 0 1 rfl
      have es8420 : mq8408 390 1 = m 390 1 := (hFq8408 390 1 rfl)
      have es8421 : mq8408 386 1 = m 386 1 := (hFq8408 386 1 rfl)
      have es8422 : mq8408 387 1 = m 387 1 := (hFq8408 387 1 rfl)
      have es8423 : mq8408 388 1 = m 388 1 := (hFq8408 388 1 rfl)
      have es8424 : mq8408 376 17 = m 376 17 := (hFq8408 376 17 rfl)
      have tb8425 := hT.atp 376 17 0 20 rfl
      have es8426 : mq8408 384 1 = m 384 1 := (hFq8408 384 1 rfl)
      refine y_callIB 35 [.ref 376, yI 8, yI v, yI 0, yI 0] [] c137_32 rfl rfl rfl rfl rfl (ycanO km127 ko376) (t127_1 hTq8408 (by omega) (by omega) (by omega) (by omega) (by omega) (by omega)) (fun rq8413 mq8413 nq8413 hq8413 => ?_)
      obtain ⟨rfl, hTq8413, hFq8413, hq8413, hE⟩ := hq8413
      unfold EM at hE
      rw [show mq8408 390 1 = m 390 1 from (hFq8408 390 1 rfl)] at hE
      obtain ⟨k1, k2, k3, k4, k5, k6, k7⟩ := hE
      have k8 : ∀ q, q < 1000 * 1 + 8 * (m 390 1).toNat ∨ 1000 * 1 + 8 * (m 390 1).toNat + 8 ≤ q → mq8413 403 q = m 403 q := fun q hq => (k7 q hq).trans ((hFq8408 403 q rfl))
      have x1q8413 : mq8413 376 1 = m 376 1 := ((hFq8413 376 1 rfl).trans (hFq8408 376 1 rfl))
      have hF8427 := hF8412.tr hFq8413 wEm1_wSt1
      refine y_istore 36 c137_35 rfl rfl ?_
      refine y_goto 145 c137_36 rfl ?_
      have es8428 : mq8413 376 1 = m 376 1 := ((hFq8413 376 1 rfl).trans (hFq8408 376 1 rfl))
      have es8429 : mq8413 376 3 = mq8408 376 3 := (hFq8413 376 3 rfl)
      have es8430 : mq8413 376 6 = mq8408 376 6 := (hFq8413 376 6 rfl)
      have es8431 : mq8413 376 8 = m 376 8 := ((hFq8413 376 8 rfl).trans (hFq8408 376 8 rfl))
      have tb8432 := hTq8413.atp 390 1 0 125 rfl
      have es8433 : mq8413 386 1 = m 386 1 := ((hFq8413 386 1 rfl).trans (hFq8408 386 1 rfl))
      have es8434 : mq8413 387 1 = m 387 1 := ((hFq8413 387 1 rfl).trans (hFq8408 387 1 rfl))
      have es8435 : mq8413 388 1 = m 388 1 := ((hFq8413 388 1 rfl).trans (hFq8408 388 1 rfl))
      have es8436 : mq8413 376 17 = m 376 17 := ((hFq8413 376 17 rfl).trans (hFq8408 376 17 rfl))
      have es8437 : mq8413 384 1 = m 384 1 := ((hFq8413 384 1 rfl).trans (hFq8408 384 1 rfl))
      have em8438 : mu mq8413 = mu mq8408 := mu_fr (hFq8413 376 1 rfl) (hFq8413 376 3 rfl) (hFq8413 376 6 rfl)
      have f0 : mq8413 403 (1000 * 1 + 8 * (m 390 1).toNat) = _ := k2
      have f1 : mq8413 403 (1000 * 1 + 8 * (m 390 1).toNat + 1) = _ := k3
      have f2 : mq8413 403 (1000 * 1 + 8 * (m 390 1).toNat + 2) = _ := k4
      have f3 : mq8413 403 (1000 * 1 + 8 * (m 390 1).toNat + 3) = _ := k5
      have f4 : mq8413 403 (1000 * 1 + 8 * (m 390 1).toNat + 4) = _ := k6
      have hw : OW mq8413 (1000 * 1 + 8 * (m 390 1).toNat) := by unfold OW; omega
      have hx : XS 1 mq8413 := XS.add hX (by omega) (fun a q ha => hF8427 a q (wSt1_Y a q ha)) (fun q hq => k8 q hq) hw (by omega) (by omega) (by omega) (by omega) (by omega) (by omega) (by omega) (fun c hc => by rw [show mq8413 401 (8 * 1 + c) = m 401 (8 * 1 + c) from ((hFq8413 401 _ rfl).trans (hFq8408 401 _ rfl))]; exact hCV c (by omega)) (by omega) (by omega)
      exact y_retU c137_145 ⟨rfl, hTq8413, hF8427, by omega, by first | exact Or.inl (by omega) | exact Or.inr ⟨by omega, by omega, by omega, hx⟩⟩
  · refine y_aload 8 c137_7 rfl rfl rfl ?_
    refine y_iload 9 c137_8 rfl rfl ?_
    have tb8440 := hT.atp 376 1 0 320 rfl
    have tb8441 := hT.atp 376 6 0 320 rfl
    have tb8442 := hT.atp 376 8 ((-1)) 320 rfl
    have tb8443 := hT.atp 376 18 0 1 rfl
    have tb8444 := hT.atp 376 17 0 20 rfl
    refine y_callUB 12 [.ref 376, yI v] [] c137_9 rfl rfl rfl rfl rfl (ycanO km135 ko376) (t135_1 hT (by omega) (by omega) (by omega) hX (by omega) (by omega) (by omega)) (fun mq8439 nq8439 hq8439 => ?_)
    obtain ⟨rfl, hTq8439, hFq8439, hlq8439, hq8439⟩ := hq8439
    have hAq8439 : 0 ≤ mq8439 376 8 ∨ (mq8439 376 8 < 0 ∧ mu mq8439 ≤ mu m ∧ mq8439 390 1 = m 390 1 + 1) := by rcases hq8439 with q | q; exact Or.inl q; exact Or.inr ⟨q.1, by omega, by omega⟩
    have x1q8439 : mq8439 376 1 = m 376 1 := (hFq8439 376 1 rfl)
    have hF8445 := hF.tr hFq8439 (fun _ _ e => e)
    refine y_goto 145 c137_12 rfl ?_
    have es8446 : mq8439 376 1 = m 376 1 := (hFq8439 376 1 rfl)
    have tb8447 := hTq8439.atp 376 3 0 3 rfl
    have tb8448 := hTq8439.atp 376 6 0 320 rfl
    have tb8449 := hTq8439.atp 376 8 ((-1)) 320 rfl
    have tb8450 := hTq8439.atp 390 1 0 125 rfl
    have tb8451 := hTq8439.atp 386 1 0 12 rfl
    have tb8452 := hTq8439.atp 387 1 0 8 rfl
    have tb8453 := hTq8439.atp 388 1 0 12 rfl
    have tb8454 := hTq8439.atp 376 17 0 20 rfl
    have es8455 : mq8439 384 1 = m 384 1 := (hFq8439 384 1 rfl)
    exact y_retU c137_145 ⟨rfl, hTq8439, hF8445, by omega, (by first | exact Or.inl (by omega) | exact Or.inr ⟨by omega, by omega, by omega, (hq8439.resolve_left (by omega)).2.2.2⟩ | (by_cases hq : 0 ≤ mq8439 376 8 <;> first | exact Or.inl (by omega) | exact Or.inr ⟨by omega, by omega, by omega, (hq8439.resolve_left (by omega)).2.2.2⟩))⟩
set_option maxRecDepth 100000 in
theorem t133_1 {L : Nat} {xs : Nat → Int32} {d nn : Nat} {m : yM} {v : Int} (hT : Ty gT m) (hl : m 376 6 ≤ m 376 1) (hn : m 376 18 = 0) (h8 : m 376 8 < 0) (hX : XS 1 m) (h84 : 1 ≤ m 384 1) (h90 : m 390 1 ≤ 100) (hv : 0 ≤ v ∧ v ≤ 47) : YC (gZ L xs) (d + 6) 133 [.ref 376, yI v] m nn (qU (fun m' n' => n' = nn ∧ Ty gT m' ∧ Fr wSt1 m m' ∧ m' 376 6 ≤ m' 376 1 ∧ (0 ≤ m' 376 8 ∨ (m' 376 8 < 0 ∧ mu m' ≤ mu m ∧ m' 390 1 = m 390 1 + 1 ∧ XS 1 m')))) := by
  have tb8 := hT.atp 376 8 (-1) 320 rfl
  have tc384 := hT.atp 384 1 0 10 rfl
  have tc386 := hT.atp 386 1 0 12 rfl
  have tc387 := hT.atp 387 1 0 8 rfl
  have tc388 := hT.atp 388 1 0 12 rfl
  have tc389 := hT.atp 389 1 0 48 rfl
  have tc390 := hT.atp 390 1 0 125 rfl
  have hsc := hX.2.2.2.2.2
  have hCV := hX.2.2.2.2.2.2.2.1
  refine YC.mkB [some (.ref 376), some (yI v), none, none, none] kn133 rfl rfl ?_
  have hF : Fr wSt1 m m := Fr.rf
  refine y_aload 1 c133_0 rfl rfl rfl ?_
  have tb8457 := hT.atp 376 1 0 320 rfl
  have tb8458 := hT.atp 376 3 0 3 rfl
  have tb8459 := hT.atp 376 6 0 320 rfl
  have tb8460 := hT.atp 376 8 ((-1)) 320 rfl
  refine y_callUB 4 [.ref 376] [] c133_1 rfl rfl rfl rfl rfl (ycanO km99 ko376) (t99u hT (by omega)) (fun mq8456 nq8456 hq8456 => ?_)
  obtain ⟨rfl, hTq8456, hFq8456, hq8456⟩ := hq8456
  have x1q8456 : mq8456 376 1 = m 376 1 := (hFq8456 376 1 rfl)
  have hF8461 := hF.tr hFq8456 wNx_wSt1
  refine y_aload 5 c133_4 rfl rfl rfl ?_
  refine y_getX 8 (mq8456 376 4) c133_5 rfl kf376_4 rfl ?_
  have tb8462 := hTq8456.atp 376 4 ((-2147483648)) 2147483647 rfl
  refine y_istore 9 c133_8 rfl rfl ?_
  refine y_aload 10 c133_9 rfl rfl rfl ?_
  refine y_getX 13 (mq8456 376 5) c133_10 rfl kf376_5 rfl ?_
  have tb8463 := hTq8456.atp 376 5 0 320 rfl
  refine y_istore 14 c133_13 rfl rfl ?_
  refine y_aload 15 c133_14 rfl rfl rfl ?_
  refine y_aload 16 c133_15 rfl rfl rfl ?_
  have tb8464 := hTq8456.atp 376 3 0 3 rfl
  refine y_callP 19 [.ref 376] [.ref 376] c133_16 rfl rfl rfl rfl rfl (ycanO km115 ko376) (t115 hTq8456) (fun r8465 hr8465 => ?_)
  have es8467 : mq8456 376 1 = m 376 1 := (hFq8456 376 1 rfl)
  have tb8468 := hTq8456.atp 376 6 0 320 rfl
  have es8469 : mq8456 376 8 = m 376 8 := (hFq8456 376 8 rfl)
  refine y_callIB 22 [.ref 376, yI r8465] [] c133_19 rfl rfl rfl rfl rfl (ycanO km105 ko376) (t105 (g := r8465) hTq8456 (by omega) (by omega)) (fun rq8466 mq8466 nq8466 hq8466 => ?_)
  obtain ⟨rfl, hTq8466, hFq8466, hq8466⟩ := hq8466
  have x1q8466 : mq8466 376 1 = m 376 1 := ((hFq8466 376 1 rfl).trans (hFq8456 376 1 rfl))
  have hF8470 := hF8461.tr hFq8466 wNw_wSt1
  refine y_if 26 25 c133_22 rfl rfl (yz_ne (by omega)) (fun hb8471 => ?_) (fun hb8471 => ?_)
  · refine y_aload 27 c133_26 rfl rfl rfl ?_
    refine y_iconst 29 c133_27 rfl ?_
    have tb8472 := hTq8466.atp 376 3 0 3 rfl
    refine y_callP 32 [.ref 376, yI 40] [] c133_29 rfl rfl rfl rfl rfl (ycanO km117 ko376) (t117 hTq8466 (by omega)) (fun r8473 hr8473 => ?_)
    refine y_if 44 35 c133_32 rfl rfl (yz_eq (by omega)) (fun hb8474 => ?_) (fun hb8474 => ?_)
    · refine y_aload 45 c133_44 rfl rfl rfl ?_
      refine y_iconst 47 c133_45 rfl ?_
      have es8476 : mq8466 376 1 = m 376 1 := ((hFq8466 376 1 rfl).trans (hFq8456 376 1 rfl))
      have tb8477 := hTq8466.atp 376 6 0 320 rfl
      have tb8478 := hTq8466.atp 376 8 ((-1)) 320 rfl
      refine y_callIB 50 [.ref 376, yI 61] [] c133_47 rfl rfl rfl rfl rfl (ycanO km118 ko376) (t118 hTq8466 (by omega) (by omega)) (fun rq8475 mq8475 nq8475 hq8475 => ?_)
      obtain ⟨rfl, hTq8475, hFq8475, hq8475⟩ := hq8475
      have x1q8475 : mq8475 376 1 = m 376 1 := ((hFq8475 376 1 rfl).trans ((hFq8466 376 1 rfl).trans (hFq8456 376 1 rfl)))
      have hF8479 := hF8470.tr hFq8475 wNw_wSt1
      refine y_if 54 53 c133_50 rfl rfl (yz_ne (by omega)) (fun hb8480 => ?_) (fun hb8480 => ?_)
      · refine y_aload 55 c133_54 rfl rfl rfl ?_
        have es8482 : mq8475 376 1 = m 376 1 := ((hFq8475 376 1 rfl).trans ((hFq8466 376 1 rfl).trans (hFq8456 376 1 rfl)))
        have tb8483 := hTq8475.atp 376 3 0 3 rfl
        have tb8484 := hTq8475.atp 376 6 0 320 rfl
        have tb8485 := hTq8475.atp 376 8 ((-1)) 320 rfl
        have es8486 : mq8475 376 18 = m 376 18 := ((hFq8475 376 18 rfl).trans ((hFq8466 376 18 rfl).trans (hFq8456 376 18 rfl)))
        have tb8487 := hT.atp 376 18 0 1 rfl
        refine y_callIB 58 [.ref 376] [] c133_55 rfl rfl rfl rfl rfl (ycanO km130 ko376) (t130_1 hTq8475 (by omega) (by omega) (by omega)) (fun rq8481 mq8481 nq8481 hq8481 => ?_)
        obtain ⟨rfl, hTq8481, hFq8481, hq8481⟩ := hq8481
        have x1q8481 : mq8481 376 1 = m 376 1 := ((hFq8481 376 1 rfl).trans ((hFq8475 376 1 rfl).trans ((hFq8466 376 1 rfl).trans (hFq8456 376 1 rfl))))
        have hF8488 := hF8479.tr hFq8481 wVr1_wSt1
        refine y_istore 60 c133_58 rfl rfl ?_
        refine y_aload 61 c133_60 rfl rfl rfl ?_
        refine y_getX 64 (mq8481 376 8) c133_61 rfl kf376_8 rfl ?_
        have tb8489 := hTq8481.atp 376 8 ((-1)) 320 rfl
        refine y_if 78 67 c133_64 rfl rfl (yz_ge (by omega)) (fun hb8490 => ?_) (fun hb8490 => ?_)
        · have es8491 : mq8481 376 1 = m 376 1 := ((hFq8481 376 1 rfl).trans ((hFq8475 376 1 rfl).trans ((hFq8466 376 1 rfl).trans (hFq8456 376 1 rfl))))
          have tb8492 := hTq8481.atp 376 3 0 3 rfl
          have tb8493 := hTq8481.atp 376 6 0 320 rfl
          exact y_retU c133_78 ⟨rfl, hTq8481, hF8488, by omega, Or.inl (by omega)⟩
        · refine y_aload 68 c133_67 rfl rfl rfl ?_
          refine y_iconst 69 c133_68 rfl ?_
          refine y_iload 70 c133_69 rfl rfl ?_
          refine y_iload 72 c133_70 rfl rfl ?_
          refine y_iload 73 c133_72 rfl rfl ?_
          have es8495 : mq8481 376 1 = m 376 1 := ((hFq8481 376 1 rfl).trans ((hFq8475 376 1 rfl).trans ((hFq8466 376 1 rfl).trans (hFq8456 376 1 rfl))))
          have tb8496 := hTq8481.atp 376 3 0 3 rfl
          have tb8497 := hTq8481.atp 376 6 0 320 rfl
          have es8498 : mq8481 376 18 = m 376 18 := ((hFq8481 376 18 rfl).trans ((hFq8475 376 18 rfl).trans ((hFq8466 376 18 rfl).trans (hFq8456 376 18 rfl))))
          have es8499 : mq8481 390 1 = m 390 1 := ((hFq8481 390 1 rfl).trans ((hFq8475 390 1 rfl).trans ((hFq8466 390 1 rfl).trans (hFq8456 390 1 rfl))))
          have es8500 : mq8481 386 1 = m 386 1 := ((hFq8481 386 1 rfl).trans ((hFq8475 386 1 rfl).trans ((hFq8466 386 1 rfl).trans (hFq8456 386 1 rfl))))
          have es8501 : mq8481 387 1 = m 387 1 := ((hFq8481 387 1 rfl).trans ((hFq8475 387 1 rfl).trans ((hFq8466 387 1 rfl).trans (hFq8456 387 1 rfl))))
          have es8502 : mq8481 388 1 = m 388 1 := ((hFq8481 388 1 rfl).trans ((hFq8475 388 1 rfl).trans ((hFq8466 388 1 rfl).trans (hFq8456 388 1 rfl))))
          have es8503 : mq8481 376 17 = m 376 17 := ((hFq8481 376 17 rfl).trans ((hFq8475 376 17 rfl).trans ((hFq8466 376 17 rfl).trans (hFq8456 376 17 rfl))))
          have tb8504 := hT.atp 376 17 0 20 rfl
          have es8505 : mq8481 384 1 = m 384 1 := ((hFq8481 384 1 rfl).trans ((hFq8475 384 1 rfl).trans ((hFq8466 384 1 rfl).trans (hFq8456 384 1 rfl))))
          refine y_callIB 76 [.ref 376, yI 5, yI v, yI rq8481, yI (mq8456 376 4)] [] c133_73 rfl rfl rfl rfl rfl (ycanO km127 ko376) (t127_1 hTq8481 (by omega) (by omega) (by omega) (by omega) (by omega) (by omega)) (fun rq8494 mq8494 nq8494 hq8494 => ?_)
          obtain ⟨rfl, hTq8494, hFq8494, hq8494, hE⟩ := hq8494
          unfold EM at hE
          rw [show mq8481 390 1 = m 390 1 from ((hFq8481 390 1 rfl).trans ((hFq8475 390 1 rfl).trans ((hFq8466 390 1 rfl).trans (hFq8456 390 1 rfl))))] at hE
          obtain ⟨k1, k2, k3, k4, k5, k6, k7⟩ := hE
          have k8 : ∀ q, q < 1000 * 1 + 8 * (m 390 1).toNat ∨ 1000 * 1 + 8 * (m 390 1).toNat + 8 ≤ q → mq8494 403 q = m 403 q := fun q hq => (k7 q hq).trans (((hFq8481 403 q rfl).trans ((hFq8475 403 q rfl).trans ((hFq8466 403 q rfl).trans (hFq8456 403 q rfl)))))
          have x1q8494 : mq8494 376 1 = m 376 1 := ((hFq8494 376 1 rfl).trans ((hFq8481 376 1 rfl).trans ((hFq8475 376 1 rfl).trans ((hFq8466 376 1 rfl).trans (hFq8456 376 1 rfl)))))
          have hF8506 := hF8488.tr hFq8494 wEm1_wSt1
          refine y_istore 78 c133_76 rfl rfl ?_
          have es8507 : mq8494 376 1 = m 376 1 := ((hFq8494 376 1 rfl).trans ((hFq8481 376 1 rfl).trans ((hFq8475 376 1 rfl).trans ((hFq8466 376 1 rfl).trans (hFq8456 376 1 rfl)))))
          have es8508 : mq8494 376 3 = mq8481 376 3 := (hFq8494 376 3 rfl)
          have es8509 : mq8494 376 6 = mq8481 376 6 := (hFq8494 376 6 rfl)
          have es8510 : mq8494 376 8 = mq8481 376 8 := (hFq8494 376 8 rfl)
          have tb8511 := hTq8494.atp 390 1 0 125 rfl
          have es8512 : mq8494 386 1 = m 386 1 := ((hFq8494 386 1 rfl).trans ((hFq8481 386 1 rfl).trans ((hFq8475 386 1 rfl).trans ((hFq8466 386 1 rfl).trans (hFq8456 386 1 rfl)))))
          have es8513 : mq8494 387 1 = m 387 1 := ((hFq8494 387 1 rfl).trans ((hFq8481 387 1 rfl).trans ((hFq8475 387 1 rfl).trans ((hFq8466 387 1 rfl).trans (hFq8456 387 1 rfl)))))
          have es8514 : mq8494 388 1 = m 388 1 := ((hFq8494 388 1 rfl).trans ((hFq8481 388 1 rfl).trans ((hFq8475 388 1 rfl).trans ((hFq8466 388 1 rfl).trans (hFq8456 388 1 rfl)))))
          have es8515 : mq8494 376 17 = m 376 17 := ((hFq8494 376 17 rfl).trans ((hFq8481 376 17 rfl).trans ((hFq8475 376 17 rfl).trans ((hFq8466 376 17 rfl).trans (hFq8456 376 17 rfl)))))
          have es8516 : mq8494 384 1 = m 384 1 := ((hFq8494 384 1 rfl).trans ((hFq8481 384 1 rfl).trans ((hFq8475 384 1 rfl).trans ((hFq8466 384 1 rfl).trans (hFq8456 384 1 rfl)))))
          have em8517 : mu mq8494 = mu mq8481 := mu_fr (hFq8494 376 1 rfl) (hFq8494 376 3 rfl) (hFq8494 376 6 rfl)
          have f0 : mq8494 403 (1000 * 1 + 8 * (m 390 1).toNat) = _ := k2
          have f1 : mq8494 403 (1000 * 1 + 8 * (m 390 1).toNat + 1) = _ := k3
          have f2 : mq8494 403 (1000 * 1 + 8 * (m 390 1).toNat + 2) = _ := k4
          have f3 : mq8494 403 (1000 * 1 + 8 * (m 390 1).toNat + 3) = _ := k5
          have f4 : mq8494 403 (1000 * 1 + 8 * (m 390 1).toNat + 4) = _ := k6
          have hw : OW mq8494 (1000 * 1 + 8 * (m 390 1).toNat) := by unfold OW; omega
          have hx : XS 1 mq8494 := XS.add hX (by omega) (fun a q ha => hF8506 a q (wSt1_Y a q ha)) (fun q hq => k8 q hq) hw (by omega) (by omega) (by omega) (by omega) (by omega) (by omega) (by omega) (fun c hc => by rw [show mq8494 401 (8 * 1 + c) = m 401 (8 * 1 + c) from ((hFq8494 401 _ rfl).trans ((hFq8481 401 _ rfl).trans ((hFq8475 401 _ rfl).trans ((hFq8466 401 _ rfl).trans (hFq8456 401 _ rfl)))))]; exact hCV c (by omega)) (by omega) (by omega)
          exact y_retU c133_78 ⟨rfl, hTq8494, hF8506, by omega, by first | exact Or.inl (by omega) | exact Or.inr ⟨by omega, by omega, by omega, hx⟩⟩
      · have es8518 : mq8475 376 1 = m 376 1 := ((hFq8475 376 1 rfl).trans ((hFq8466 376 1 rfl).trans (hFq8456 376 1 rfl)))
        have tb8519 := hTq8475.atp 376 3 0 3 rfl
        have tb8520 := hTq8475.atp 376 6 0 320 rfl
        have tb8521 := hTq8475.atp 376 8 ((-1)) 320 rfl
        exact y_retU c133_53 ⟨rfl, hTq8475, hF8479, by omega, Or.inl (by omega)⟩
    · refine y_aload 36 c133_35 rfl rfl rfl ?_
      refine y_iconst 37 c133_36 rfl ?_
      refine y_iload 38 c133_37 rfl rfl ?_
      refine y_iload 39 c133_38 rfl rfl ?_
      refine y_iload 40 c133_39 rfl rfl ?_
      have es8523 : mq8466 376 1 = m 376 1 := ((hFq8466 376 1 rfl).trans (hFq8456 376 1 rfl))
      have tb8524 := hTq8466.atp 376 6 0 320 rfl
      have tb8525 := hTq8466.atp 376 8 ((-1)) 320 rfl
      have es8526 : mq8466 376 18 = m 376 18 := ((hFq8466 376 18 rfl).trans (hFq8456 376 18 rfl))
      have tb8527 := hT.atp 376 18 0 1 rfl
      have es8528 : mq8466 390 1 = m 390 1 := ((hFq8466 390 1 rfl).trans (hFq8456 390 1 rfl))
      have es8529 : mq8466 386 1 = m 386 1 := ((hFq8466 386 1 rfl).trans (hFq8456 386 1 rfl))
      have es8530 : mq8466 387 1 = m 387 1 := ((hFq8466 387 1 rfl).trans (hFq8456 387 1 rfl))
      have es8531 : mq8466 388 1 = m 388 1 := ((hFq8466 388 1 rfl).trans (hFq8456 388 1 rfl))
      have es8532 : mq8466 376 17 = m 376 17 := ((hFq8466 376 17 rfl).trans (hFq8456 376 17 rfl))
      have tb8533 := hT.atp 376 17 0 20 rfl
      have es8534 : mq8466 384 1 = m 384 1 := ((hFq8466 384 1 rfl).trans (hFq8456 384 1 rfl))
      refine y_callUB 43 [.ref 376, yI ((-1)), yI v, yI (mq8456 376 4), yI (mq8456 376 5)] [] c133_40 rfl rfl rfl rfl rfl (ycanO km132 ko376) (t132_1 hTq8466 (by omega) (by omega) (by omega) ((hX.fw hFq8456 wNx_X).fw hFq8466 wNw_X) (by omega) (by omega) (by omega) (by omega) (by omega) (by omega)) (fun mq8522 nq8522 hq8522 => ?_)
      obtain ⟨rfl, hTq8522, hFq8522, hlq8522, hq8522⟩ := hq8522
      have hAq8522 : 0 ≤ mq8522 376 8 ∨ (mq8522 376 8 < 0 ∧ mu mq8522 ≤ mu mq8466 ∧ mq8522 390 1 = m 390 1 + 1) := by rcases hq8522 with q | q; exact Or.inl q; exact Or.inr ⟨q.1, by omega, by omega⟩
      have x1q8522 : mq8522 376 1 = m 376 1 := ((hFq8522 376 1 rfl).trans ((hFq8466 376 1 rfl).trans (hFq8456 376 1 rfl)))
      have hF8535 := hF8470.tr hFq8522 (fun _ _ e => e)
      have es8536 : mq8522 376 1 = m 376 1 := ((hFq8522 376 1 rfl).trans ((hFq8466 376 1 rfl).trans (hFq8456 376 1 rfl)))
      have tb8537 := hTq8522.atp 376 3 0 3 rfl
      have tb8538 := hTq8522.atp 376 6 0 320 rfl
      have tb8539 := hTq8522.atp 376 8 ((-1)) 320 rfl
      have tb8540 := hTq8522.atp 390 1 0 125 rfl
      have tb8541 := hTq8522.atp 386 1 0 12 rfl
      have tb8542 := hTq8522.atp 387 1 0 8 rfl
      have tb8543 := hTq8522.atp 388 1 0 12 rfl
      have tb8544 := hTq8522.atp 376 17 0 20 rfl
      have es8545 : mq8522 384 1 = m 384 1 := ((hFq8522 384 1 rfl).trans ((hFq8466 384 1 rfl).trans (hFq8456 384 1 rfl)))
      exact y_retU c133_43 ⟨rfl, hTq8522, hF8535, by omega, (by first | exact Or.inl (by omega) | exact Or.inr ⟨by omega, by omega, by omega, (hq8522.resolve_left (by omega)).2.2.2⟩ | (by_cases hq : 0 ≤ mq8522 376 8 <;> first | exact Or.inl (by omega) | exact Or.inr ⟨by omega, by omega, by omega, (hq8522.resolve_left (by omega)).2.2.2⟩))⟩
  · have es8546 : mq8466 376 1 = m 376 1 := ((hFq8466 376 1 rfl).trans (hFq8456 376 1 rfl))
    have tb8547 := hTq8466.atp 376 3 0 3 rfl
    have tb8548 := hTq8466.atp 376 6 0 320 rfl
    have tb8549 := hTq8466.atp 376 8 ((-1)) 320 rfl
    exact y_retU c133_25 ⟨rfl, hTq8466, hF8470, by omega, Or.inl (by omega)⟩
