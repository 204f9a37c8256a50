section
/-! CONTRACTS: the model, statements. Printed by wip/whole/gen97.py -/
set_option maxRecDepth 100000 in
theorem t137_0 {L : Nat} {xs : Nat → Int32} {d nn : Nat} {m : yM} {v : Int} (hT : Ty gT m) (hl : m 376 6 ≤ m 376 1) (hn : m 376 18 = 1) (h8 : m 376 8 < 0) (hX : XS 0 m) (h84 : 1 ≤ m 384 0) (h90 : m 390 0 ≤ 100) (hv : 0 ≤ v ∧ v ≤ 47) : YC (gZ L xs) (d + 6) 137 [.ref 376, yI v] m nn (qU (fun m' n' => n' = nn ∧ Ty gT m' ∧ Fr wSt0 m m' ∧ m' 376 6 ≤ m' 376 1 ∧ (0 ≤ m' 376 8 ∨ (m' 376 8 < 0 ∧ mu m' ≤ mu m ∧ m' 390 0 = m 390 0 + 1 ∧ XS 0 m')))) := by
  have tb8 := hT.atp 376 8 (-1) 320 rfl
  have tc384 := hT.atp 384 0 0 10 rfl
  have tc386 := hT.atp 386 0 0 12 rfl
  have tc387 := hT.atp 387 0 0 8 rfl
  have tc388 := hT.atp 388 0 0 12 rfl
  have tc389 := hT.atp 389 0 0 48 rfl
  have tc390 := hT.atp 390 0 0 125 rfl
  have hsc := hX.2.2.2.2.2
  have hCV := hX.2.2.2.2.2.2.2.1
  refine YC.mkB [some (.ref 376), some (yI v), none, none, none] kn137 rfl rfl ?_
  have hF : Fr wSt0 m m := Fr.rf
  refine y_aload 1 c137_0 rfl rfl rfl ?_
  have tb7075 := hT.atp 376 3 0 3 rfl
  refine y_callP 4 [.ref 376] [] c137_1 rfl rfl rfl rfl rfl (ycanO km108 ko376) (t108 hT) (fun r7076 hr7076 => ?_)
  refine y_if 15 7 c137_4 rfl rfl (yz_eq (by omega)) (fun hb7077 => ?_) (fun hb7077 => ?_)
  · refine y_aload 16 c137_15 rfl rfl rfl ?_
    refine y_callP 19 [.ref 376] [] c137_16 rfl rfl rfl rfl rfl (ycanO km109 ko376) (t109 hT) (fun r7078 hr7078 => ?_)
    refine y_if 39 22 c137_19 rfl rfl (yz_eq (by omega)) (fun hb7079 => ?_) (fun hb7079 => ?_)
    · refine y_aload 40 c137_39 rfl rfl rfl ?_
      refine y_iconst 42 c137_40 rfl ?_
      refine y_callP 45 [.ref 376, yI 40] [] c137_42 rfl rfl rfl rfl rfl (ycanO km117 ko376) (t117 hT (by omega)) (fun r7080 hr7080 => ?_)
      refine y_if 56 48 c137_45 rfl rfl (yz_eq (by omega)) (fun hb7081 => ?_) (fun hb7081 => ?_)
      · refine y_aload 57 c137_56 rfl rfl rfl ?_
        have tb7083 := hT.atp 376 1 0 320 rfl
        have tb7084 := hT.atp 376 6 0 320 rfl
        have tb7085 := hT.atp 376 8 ((-1)) 320 rfl
        have tb7086 := hT.atp 376 18 0 1 rfl
        refine y_callIB 60 [.ref 376] [] c137_57 rfl rfl rfl rfl rfl (ycanO km130 ko376) (t130_0 hT (by omega) (by omega) (by omega)) (fun rq7082 mq7082 nq7082 hq7082 => ?_)
        obtain ⟨rfl, hTq7082, hFq7082, hq7082⟩ := hq7082
        have x1q7082 : mq7082 376 1 = m 376 1 := (hFq7082 376 1 rfl)
        have hF7087 := hF.tr hFq7082 wVr0_wSt0
        refine y_istore 61 c137_60 rfl rfl ?_
        refine y_aload 62 c137_61 rfl rfl rfl ?_
        refine y_getX 65 (mq7082 376 8) c137_62 rfl kf376_8 rfl ?_
        have tb7088 := hTq7082.atp 376 8 ((-1)) 320 rfl
        refine y_if 69 68 c137_65 rfl rfl (yz_lt (by omega)) (fun hb7089 => ?_) (fun hb7089 => ?_)
        · refine y_aload 70 c137_69 rfl rfl rfl ?_
          refine y_iconst 72 c137_70 rfl ?_
          have tb7090 := hTq7082.atp 376 3 0 3 rfl
          refine y_callP 75 [.ref 376, yI 46] [] c137_72 rfl rfl rfl rfl rfl (ycanO km117 ko376) (t117 hTq7082 (by omega)) (fun r7091 hr7091 => ?_)
          refine y_if 88 78 c137_75 rfl rfl (yz_ne (by omega)) (fun hb7092 => ?_) (fun hb7092 => ?_)
          · refine y_aload 89 c137_88 rfl rfl rfl ?_
            have es7094 : mq7082 376 1 = m 376 1 := (hFq7082 376 1 rfl)
            have tb7095 := hTq7082.atp 376 6 0 320 rfl
            refine y_callUB 92 [.ref 376] [] c137_89 rfl rfl rfl rfl rfl (ycanO km99 ko376) (t99u hTq7082 (by omega)) (fun mq7093 nq7093 hq7093 => ?_)
            obtain ⟨rfl, hTq7093, hFq7093, hq7093⟩ := hq7093
            have x1q7093 : mq7093 376 1 = m 376 1 := ((hFq7093 376 1 rfl).trans (hFq7082 376 1 rfl))
            have hF7096 := hF7087.tr hFq7093 wNx_wSt0
            refine y_aload 93 c137_92 rfl rfl rfl ?_
            refine y_getX 96 (mq7093 376 4) c137_93 rfl kf376_4 rfl ?_
            have tb7097 := hTq7093.atp 376 4 ((-2147483648)) 2147483647 rfl
            refine y_istore 97 c137_96 rfl rfl ?_
            refine y_aload 98 c137_97 rfl rfl rfl ?_
            refine y_getX 101 (mq7093 376 5) c137_98 rfl kf376_5 rfl ?_
            have tb7098 := hTq7093.atp 376 5 0 320 rfl
            refine y_istore 103 c137_101 rfl rfl ?_
            refine y_aload 104 c137_103 rfl rfl rfl ?_
            refine y_aload 105 c137_104 rfl rfl rfl ?_
            have tb7099 := hTq7093.atp 376 3 0 3 rfl
            refine y_callP 108 [.ref 376] [.ref 376] c137_105 rfl rfl rfl rfl rfl (ycanO km115 ko376) (t115 hTq7093) (fun r7100 hr7100 => ?_)
            have es7102 : mq7093 376 1 = m 376 1 := ((hFq7093 376 1 rfl).trans (hFq7082 376 1 rfl))
            have tb7103 := hTq7093.atp 376 6 0 320 rfl
            have es7104 : mq7093 376 8 = mq7082 376 8 := (hFq7093 376 8 rfl)
            refine y_callIB 111 [.ref 376, yI r7100] [] c137_108 rfl rfl rfl rfl rfl (ycanO km105 ko376) (t105 (g := r7100) hTq7093 (by omega) (by omega)) (fun rq7101 mq7101 nq7101 hq7101 => ?_)
            obtain ⟨rfl, hTq7101, hFq7101, hq7101⟩ := hq7101
            have x1q7101 : mq7101 376 1 = m 376 1 := ((hFq7101 376 1 rfl).trans ((hFq7093 376 1 rfl).trans (hFq7082 376 1 rfl)))
            have hF7105 := hF7096.tr hFq7101 wNw_wSt0
            refine y_if 115 114 c137_111 rfl rfl (yz_ne (by omega)) (fun hb7106 => ?_) (fun hb7106 => ?_)
            · refine y_aload 116 c137_115 rfl rfl rfl ?_
              refine y_iconst 118 c137_116 rfl ?_
              have tb7107 := hTq7101.atp 376 3 0 3 rfl
              refine y_callP 121 [.ref 376, yI 40] [] c137_118 rfl rfl rfl rfl rfl (ycanO km117 ko376) (t117 hTq7101 (by omega)) (fun r7108 hr7108 => ?_)
              refine y_if 136 124 c137_121 rfl rfl (yz_eq (by omega)) (fun hb7109 => ?_) (fun hb7109 => ?_)
              · refine y_aload 137 c137_136 rfl rfl rfl ?_
                refine y_iconst 138 c137_137 rfl ?_
                refine y_iload 139 c137_138 rfl rfl ?_
                refine y_iload 140 c137_139 rfl rfl ?_
                refine y_iload 141 c137_140 rfl rfl ?_
                have es7111 : mq7101 376 1 = m 376 1 := ((hFq7101 376 1 rfl).trans ((hFq7093 376 1 rfl).trans (hFq7082 376 1 rfl)))
                have tb7112 := hTq7101.atp 376 6 0 320 rfl
                have tb7113 := hTq7101.atp 376 8 ((-1)) 320 rfl
                have es7114 : mq7101 376 18 = m 376 18 := ((hFq7101 376 18 rfl).trans ((hFq7093 376 18 rfl).trans (hFq7082 376 18 rfl)))
                have es7115 : mq7101 390 0 = m 390 0 := ((hFq7101 390 0 rfl).trans ((hFq7093 390 0 rfl).trans (hFq7082 390 0 rfl)))
                have es7116 : mq7101 386 0 = m 386 0 := ((hFq7101 386 0 rfl).trans ((hFq7093 386 0 rfl).trans (hFq7082 386 0 rfl)))
                have es7117 : mq7101 387 0 = m 387 0 := ((hFq7101 387 0 rfl).trans ((hFq7093 387 0 rfl).trans (hFq7082 387 0 rfl)))
                have es7118 : mq7101 388 0 = m 388 0 := ((hFq7101 388 0 rfl).trans ((hFq7093 388 0 rfl).trans (hFq7082 388 0 rfl)))
                have es7119 : mq7101 376 17 = m 376 17 := ((hFq7101 376 17 rfl).trans ((hFq7093 376 17 rfl).trans (hFq7082 376 17 rfl)))
                have tb7120 := hT.atp 376 17 0 20 rfl
                have es7121 : mq7101 384 0 = m 384 0 := ((hFq7101 384 0 rfl).trans ((hFq7093 384 0 rfl).trans (hFq7082 384 0 rfl)))
                refine y_callIB 144 [.ref 376, yI 4, yI v, yI rq7082, yI (mq7093 376 4)] [] c137_141 rfl rfl rfl rfl rfl (ycanO km127 ko376) (t127_0 hTq7101 (by omega) (by omega) (by omega) (by omega) (by omega) (by omega)) (fun rq7110 mq7110 nq7110 hq7110 => ?_)
                obtain ⟨rfl, hTq7110, hFq7110, hq7110, hE⟩ := hq7110
                unfold EM at hE
                rw [show mq7101 390 0 = m 390 0 from ((hFq7101 390 0 rfl).trans ((hFq7093 390 0 rfl).trans (hFq7082 390 0 rfl)))] at hE
                obtain ⟨k1, k2, k3, k4, k5, k6, k7⟩ := hE
                have k8 : ∀ q, q < 1000 * 0 + 8 * (m 390 0).toNat ∨ 1000 * 0 + 8 * (m 390 0).toNat + 8 ≤ q → mq7110 403 q = m 403 q := fun q hq => (k7 q hq).trans (((hFq7101 403 q rfl).trans ((hFq7093 403 q rfl).trans (hFq7082 403 q rfl))))
                have x1q7110 : mq7110 376 1 = m 376 1 := ((hFq7110 376 1 rfl).trans ((hFq7101 376 1 rfl).trans ((hFq7093 376 1 rfl).trans (hFq7082 376 1 rfl))))
                have hF7122 := hF7105.tr hFq7110 wEm0_wSt0
                refine y_istore 145 c137_144 rfl rfl ?_
                have es7123 : mq7110 376 1 = m 376 1 := ((hFq7110 376 1 rfl).trans ((hFq7101 376 1 rfl).trans ((hFq7093 376 1 rfl).trans (hFq7082 376 1 rfl))))
                have es7124 : mq7110 376 3 = mq7101 376 3 := (hFq7110 376 3 rfl)
                have es7125 : mq7110 376 6 = mq7101 376 6 := (hFq7110 376 6 rfl)
                have es7126 : mq7110 376 8 = mq7101 376 8 := (hFq7110 376 8 rfl)
                have tb7127 := hTq7110.atp 390 0 0 125 rfl
                have es7128 : mq7110 386 0 = m 386 0 := ((hFq7110 386 0 rfl).trans ((hFq7101 386 0 rfl).trans ((hFq7093 386 0 rfl).trans (hFq7082 386 0 rfl))))
                have es7129 : mq7110 387 0 = m 387 0 := ((hFq7110 387 0 rfl).trans ((hFq7101 387 0 rfl).trans ((hFq7093 387 0 rfl).trans (hFq7082 387 0 rfl))))
                have es7130 : mq7110 388 0 = m 388 0 := ((hFq7110 388 0 rfl).trans ((hFq7101 388 0 rfl).trans ((hFq7093 388 0 rfl).trans (hFq7082 388 0 rfl))))
                have es7131 : mq7110 376 17 = m 376 17 := ((hFq7110 376 17 rfl).trans ((hFq7101 376 17 rfl).trans ((hFq7093 376 17 rfl).trans (hFq7082 376 17 rfl))))
                have es7132 : mq7110 384 0 = m 384 0 := ((hFq7110 384 0 rfl).trans ((hFq7101 384 0 rfl).trans ((hFq7093 384 0 rfl).trans (hFq7082 384 0 rfl))))
                have em7133 : mu mq7110 = mu mq7101 := mu_fr (hFq7110 376 1 rfl) (hFq7110 376 3 rfl) (hFq7110 376 6 rfl)
                have f0 : mq7110 403 (1000 * 0 + 8 * (m 390 0).toNat) = _ := k2
                have f1 : mq7110 403 (1000 * 0 + 8 * (m 390 0).toNat + 1) = _ := k3
                have f2 : mq7110 403 (1000 * 0 + 8 * (m 390 0).toNat + 2) = _ := k4
                have f3 : mq7110 403 (1000 * 0 + 8 * (m 390 0).toNat + 3) = _ := k5
                have f4 : mq7110 403 (1000 * 0 + 8 * (m 390 0).toNat + 4) = _ := k6
                have hw : OW mq7110 (1000 * 0 + 8 * (m 390 0).toNat) := by unfold OW; omega
                have hx : XS 0 mq7110 := XS.add hX (by omega) (fun a q ha => hF7122 a q (wSt0_Y a q ha)) (fun q hq => k8 q hq) hw (by omega) (by omega) (by omega) (by omega) (by omega) (by omega) (by omega) (fun c hc => by rw [show mq7110 401 (8 * 0 + c) = m 401 (8 * 0 + c) from ((hFq7110 401 _ rfl).trans ((hFq7101 401 _ rfl).trans ((hFq7093 401 _ rfl).trans (hFq7082 401 _ rfl))))]; exact hCV c (by omega)) (by omega) (by omega)
                exact y_retU c137_145 ⟨rfl, hTq7110, hF7122, by omega, by first | exact Or.inl (by omega) | exact Or.inr ⟨by omega, by omega, by omega, hx⟩⟩
              · refine y_aload 125 c137_124 rfl rfl rfl ?_
                refine y_iload 126 c137_125 rfl rfl ?_
                refine y_iload 127 c137_126 rfl rfl ?_
                refine y_iload 128 c137_127 rfl rfl ?_
                refine y_iload 130 c137_128 rfl rfl ?_
                have es7135 : mq7101 376 1 = m 376 1 := ((hFq7101 376 1 rfl).trans ((hFq7093 376 1 rfl).trans (hFq7082 376 1 rfl)))
                have tb7136 := hTq7101.atp 376 6 0 320 rfl
                have tb7137 := hTq7101.atp 376 8 ((-1)) 320 rfl
                have es7138 : mq7101 376 18 = m 376 18 := ((hFq7101 376 18 rfl).trans ((hFq7093 376 18 rfl).trans (hFq7082 376 18 rfl)))
                have es7139 : mq7101 390 0 = m 390 0 := ((hFq7101 390 0 rfl).trans ((hFq7093 390 0 rfl).trans (hFq7082 390 0 rfl)))
                have es7140 : mq7101 386 0 = m 386 0 := ((hFq7101 386 0 rfl).trans ((hFq7093 386 0 rfl).trans (hFq7082 386 0 rfl)))
                have es7141 : mq7101 387 0 = m 387 0 := ((hFq7101 387 0 rfl).trans ((hFq7093 387 0 rfl).trans (hFq7082 387 0 rfl)))
                have es7142 : mq7101 388 0 = m 388 0 := ((hFq7101 388 0 rfl).trans ((hFq7093 388 0 rfl).trans (hFq7082 388 0 rfl)))
                have es7143 : mq7101 376 17 = m 376 17 := ((hFq7101 376 17 rfl).trans ((hFq7093 376 17 rfl).trans (hFq7082 376 17 rfl)))
                have tb7144 := hT.atp 376 17 0 20 rfl
                have es7145 : mq7101 384 0 = m 384 0 := ((hFq7101 384 0 rfl).trans ((hFq7093 384 0 rfl).trans (hFq7082 384 0 rfl)))
                refine y_callUB 133 [.ref 376, yI v, yI rq7082, yI (mq7093 376 4), yI (mq7093 376 5)] [] c137_130 rfl rfl rfl rfl rfl (ycanO km132 ko376) (t132_0 hTq7101 (by omega) (by omega) (by omega) (((hX.fw hFq7082 wVr0_X).fw hFq7093 wNx_X).fw hFq7101 wNw_X) (by omega) (by omega) (by omega) (by omega) (by omega) (by omega)) (fun mq7134 nq7134 hq7134 => ?_)
                obtain ⟨rfl, hTq7134, hFq7134, hlq7134, hq7134⟩ := hq7134
                have hAq7134 : 0 ≤ mq7134 376 8 ∨ (mq7134 376 8 < 0 ∧ mu mq7134 ≤ mu mq7101 ∧ mq7134 390 0 = m 390 0 + 1) := by rcases hq7134 with q | q; exact Or.inl q; exact Or.inr ⟨q.1, by omega, by omega⟩
                have x1q7134 : mq7134 376 1 = m 376 1 := ((hFq7134 376 1 rfl).trans ((hFq7101 376 1 rfl).trans ((hFq7093 376 1 rfl).trans (hFq7082 376 1 rfl))))
                have hF7146 := hF7105.tr hFq7134 (fun _ _ e => e)
                refine y_goto 145 c137_133 rfl ?_
                have es7147 : mq7134 376 1 = m 376 1 := ((hFq7134 376 1 rfl).trans ((hFq7101 376 1 rfl).trans ((hFq7093 376 1 rfl).trans (hFq7082 376 1 rfl))))
                have tb7148 := hTq7134.atp 376 3 0 3 rfl
                have tb7149 := hTq7134.atp 376 6 0 320 rfl
                have tb7150 := hTq7134.atp 376 8 ((-1)) 320 rfl
                have tb7151 := hTq7134.atp 390 0 0 125 rfl
                have tb7152 := hTq7134.atp 386 0 0 12 rfl
                have tb7153 := hTq7134.atp 387 0 0 8 rfl
                have tb7154 := hTq7134.atp 388 0 0 12 rfl
                have tb7155 := hTq7134.atp 376 17 0 20 rfl
                have es7156 : mq7134 384 0 = m 384 0 := ((hFq7134 384 0 rfl).trans ((hFq7101 384 0 rfl).trans ((hFq7093 384 0 rfl).trans (hFq7082 384 0 rfl))))
                exact y_retU c137_145 ⟨rfl, hTq7134, hF7146, by omega, (by first | exact Or.inl (by omega) | exact Or.inr ⟨by omega, by omega, by omega, (hq7134.resolve_left (by omega)).2.2.2⟩ | (by_cases hq : 0 ≤ mq7134 376 8 <;> first | exact Or.inl (by omega) | exact Or.inr ⟨by omega, by omega, by omega, (hq7134.resolve_left (by omega)).2.2.2⟩))⟩
            · have es7157 : mq7101 376 1 = m 376 1 := ((hFq7101 376 1 rfl).trans ((hFq7093 376 1 rfl).trans (hFq7082 376 1 rfl)))
              have tb7158 := hTq7101.atp 376 3 0 3 rfl
              have tb7159 := hTq7101.atp 376 6 0 320 rfl
              have tb7160 := hTq7101.atp 376 8 ((-1)) 320 rfl
              exact y_retU c137_114 ⟨rfl, hTq7101, hF7105, by omega, Or.inl (by omega)⟩
          · refine y_aload 79 c137_78 rfl rfl rfl ?_
            refine y_iconst 80 c137_79 rfl ?_
            refine y_iload 81 c137_80 rfl rfl ?_
            refine y_iload 82 c137_81 rfl rfl ?_
            refine y_iconst 83 c137_82 rfl ?_
            have es7162 : mq7082 376 1 = m 376 1 := (hFq7082 376 1 rfl)
            have tb7163 := hTq7082.atp 376 6 0 320 rfl
            have es7164 : mq7082 376 18 = m 376 18 := (hFq7082 376 18 rfl)
            have es7165 : mq7082 390 0 = m 390 0 := (hFq7082 390 0 rfl)
            have es7166 : mq7082 386 0 = m 386 0 := (hFq7082 386 0 rfl)
            have es7167 : mq7082 387 0 = m 387 0 := (hFq7082 387 0 rfl)
            have es7168 : mq7082 388 0 = m 388 0 := (hFq7082 388 0 rfl)
            have es7169 : mq7082 376 17 = m 376 17 := (hFq7082 376 17 rfl)
            have tb7170 := hT.atp 376 17 0 20 rfl
            have es7171 : mq7082 384 0 = m 384 0 := (hFq7082 384 0 rfl)
            refine y_callIB 86 [.ref 376, yI 2, yI v, yI rq7082, yI 0] [] c137_83 rfl rfl rfl rfl rfl (ycanO km127 ko376) (t127_0 hTq7082 (by omega) (by omega) (by omega) (by omega) (by omega) (by omega)) (fun rq7161 mq7161 nq7161 hq7161 => ?_)
            obtain ⟨rfl, hTq7161, hFq7161, hq7161, hE⟩ := hq7161
            unfold EM at hE
            rw [show mq7082 390 0 = m 390 0 from (hFq7082 390 0 rfl)] at hE
            obtain ⟨k1, k2, k3, k4, k5, k6, k7⟩ := hE
            have k8 : ∀ q, q < 1000 * 0 + 8 * (m 390 0).toNat ∨ 1000 * 0 + 8 * (m 390 0).toNat + 8 ≤ q → mq7161 403 q = m 403 q := fun q hq => (k7 q hq).trans ((hFq7082 403 q rfl))
            have x1q7161 : mq7161 376 1 = m 376 1 := ((hFq7161 376 1 rfl).trans (hFq7082 376 1 rfl))
            have hF7172 := hF7087.tr hFq7161 wEm0_wSt0
            refine y_istore 87 c137_86 rfl rfl ?_
            have es7173 : mq7161 376 1 = m 376 1 := ((hFq7161 376 1 rfl).trans (hFq7082 376 1 rfl))
            have es7174 : mq7161 376 3 = mq7082 376 3 := (hFq7161 376 3 rfl)
            have es7175 : mq7161 376 6 = mq7082 376 6 := (hFq7161 376 6 rfl)
            have es7176 : mq7161 376 8 = mq7082 376 8 := (hFq7161 376 8 rfl)
            have tb7177 := hTq7161.atp 390 0 0 125 rfl
            have es7178 : mq7161 386 0 = m 386 0 := ((hFq7161 386 0 rfl).trans (hFq7082 386 0 rfl))
            have es7179 : mq7161 387 0 = m 387 0 := ((hFq7161 387 0 rfl).trans (hFq7082 387 0 rfl))
            have es7180 : mq7161 388 0 = m 388 0 := ((hFq7161 388 0 rfl).trans (hFq7082 388 0 rfl))
            have es7181 : mq7161 376 17 = m 376 17 := ((hFq7161 376 17 rfl).trans (hFq7082 376 17 rfl))
            have es7182 : mq7161 384 0 = m 384 0 := ((hFq7161 384 0 rfl).trans (hFq7082 384 0 rfl))
            have em7183 : mu mq7161 = mu mq7082 := mu_fr (hFq7161 376 1 rfl) (hFq7161 376 3 rfl) (hFq7161 376 6 rfl)
            have f0 : mq7161 403 (1000 * 0 + 8 * (m 390 0).toNat) = _ := k2
            have f1 : mq7161 403 (1000 * 0 + 8 * (m 390 0).toNat + 1) = _ := k3
            have f2 : mq7161 403 (1000 * 0 + 8 * (m 390 0).toNat + 2) = _ := k4
            have f3 : mq7161 403 (1000 * 0 + 8 * (m 390 0).toNat + 3) = _ := k5
            have f4 : mq7161 403 (1000 * 0 + 8 * (m 390 0).toNat + 4) = _ := k6
            have hw : OW mq7161 (1000 * 0 + 8 * (m 390 0).toNat) := by unfold OW; omega
            have hx : XS 0 mq7161 := XS.add hX (by omega) (fun a q ha => hF7172 a q (wSt0_Y a q ha)) (fun q hq => k8 q hq) hw (by omega) (by omega) (by omega) (by omega) (by omega) (by omega) (by omega) (fun c hc => by rw [show mq7161 401 (8 * 0 + c) = m 401 (8 * 0 + c) from ((hFq7161 401 _ rfl).trans (hFq7082 401 _ rfl))]; exact hCV c (by omega)) (by omega) (by omega)
            exact y_retU c137_87 ⟨rfl, hTq7161, hF7172, by omega, by first | exact Or.inl (by omega) | exact Or.inr ⟨by omega, by omega, by omega, hx⟩⟩
        · have es7184 : mq7082 376 1 = m 376 1 := (hFq7082 376 1 rfl)
          have tb7185 := hTq7082.atp 376 3 0 3 rfl
          have tb7186 := hTq7082.atp 376 6 0 320 rfl
          exact y_retU c137_68 ⟨rfl, hTq7082, hF7087, by omega, Or.inl (by omega)⟩
      · refine y_aload 49 c137_48 rfl rfl rfl ?_
        refine y_iload 50 c137_49 rfl rfl ?_
        have tb7188 := hT.atp 376 1 0 320 rfl
        have tb7189 := hT.atp 376 6 0 320 rfl
        have tb7190 := hT.atp 376 8 ((-1)) 320 rfl
        have tb7191 := hT.atp 376 18 0 1 rfl
        have tb7192 := hT.atp 376 17 0 20 rfl
        refine y_callUB 53 [.ref 376, yI v] [] c137_50 rfl rfl rfl rfl rfl (ycanO km136 ko376) (t136_0 hT (by omega) (by omega) (by omega) hX (by omega) (by omega) (by omega)) (fun mq7187 nq7187 hq7187 => ?_)
        obtain ⟨rfl, hTq7187, hFq7187, hlq7187, hq7187⟩ := hq7187
        have hAq7187 : 0 ≤ mq7187 376 8 ∨ (mq7187 376 8 < 0 ∧ mu mq7187 ≤ mu m ∧ mq7187 390 0 = m 390 0 + 1) := by rcases hq7187 with q | q; exact Or.inl q; exact Or.inr ⟨q.1, by omega, by omega⟩
        have x1q7187 : mq7187 376 1 = m 376 1 := (hFq7187 376 1 rfl)
        have hF7193 := hF.tr hFq7187 (fun _ _ e => e)
        refine y_goto 145 c137_53 rfl ?_
        have es7194 : mq7187 376 1 = m 376 1 := (hFq7187 376 1 rfl)
        have tb7195 := hTq7187.atp 376 3 0 3 rfl
        have tb7196 := hTq7187.atp 376 6 0 320 rfl
        have tb7197 := hTq7187.atp 376 8 ((-1)) 320 rfl
        have tb7198 := hTq7187.atp 390 0 0 125 rfl
        have tb7199 := hTq7187.atp 386 0 0 12 rfl
        have tb7200 := hTq7187.atp 387 0 0 8 rfl
        have tb7201 := hTq7187.atp 388 0 0 12 rfl
        have tb7202 := hTq7187.atp 376 17 0 20 rfl
        have es7203 : mq7187 384 0 = m 384 0 := (hFq7187 384 0 rfl)
        exact y_retU c137_145 ⟨rfl, hTq7187, hF7193, by omega, (by first | exact Or.inl (by omega) | exact Or.inr ⟨by omega, by omega, by omega, (hq7187.resolve_left (by omega)).2.2.2⟩ | (by_cases hq : 0 ≤ mq7187 376 8 <;> first | exact Or.inl (by omega) | exact Or.inr ⟨by omega, by omega, by omega, (hq7187.resolve_left (by omega)).2.2.2⟩))⟩
    · refine y_aload 23 c137_22 rfl rfl rfl ?_
      have tb7205 := hT.atp 376 1 0 320 rfl
      have tb7206 := hT.atp 376 6 0 320 rfl
      have tb7207 := hT.atp 376 8 ((-1)) 320 rfl
      refine y_callUB 26 [.ref 376] [] c137_23 rfl rfl rfl rfl rfl (ycanO km99 ko376) (t99u hT (by omega)) (fun mq7204 nq7204 hq7204 => ?_)
      obtain ⟨rfl, hTq7204, hFq7204, hq7204⟩ := hq7204
      have x1q7204 : mq7204 376 1 = m 376 1 := (hFq7204 376 1 rfl)
      have hF7208 := hF.tr hFq7204 wNx_wSt0
      refine y_aload 27 c137_26 rfl rfl rfl ?_
      refine y_iconst 29 c137_27 rfl ?_
      refine y_iload 30 c137_29 rfl rfl ?_
      refine y_iconst 31 c137_30 rfl ?_
      refine y_iconst 32 c137_31 rfl ?_
      have es7210 : mq7204 376 1 = m 376 1 := (hFq7204 376 1 rfl)
      have tb7211 := hTq7204.atp 376 3 0 3 rfl
      have tb7212 := hTq7204.atp 376 6 0 320 rfl
      have es7213 : mq7204 376 8 = m 376 8 := (hFq7204 376 8 rfl)
      have es7214 : mq7204 376 18 = m 376 18 := (hFq7204 376 18 rfl)
      have tb7215 := hT.atp 376 18 0 1 rfl
      have es7216 : mq7204 390 0 = m 390 0 := (hFq7204 390 0 rfl)
      have es7217 : mq7204 386 0 = m 386 0 := (hFq7204 386 0 rfl)
      have es7218 : mq7204 387 0 = m 387 0 := (hFq7204 387 0 rfl)
      have es7219 : mq7204 388 0 = m 388 0 := (hFq7204 388 0 rfl)
      have es7220 : mq7204 376 17 = m 376 17 := (hFq7204 376 17 rfl)
      have tb7221 := hT.atp 376 17 0 20 rfl
      have es7222 : mq7204 384 0 = m 384 0 := (hFq7204 384 0 rfl)
      refine y_callIB 35 [.ref 376, yI 8, yI v, yI 0, yI 0] [] c137_32 rfl rfl rfl rfl rfl (ycanO km127 ko376) (t127_0 hTq7204 (by omega) (by omega) (by omega) (by omega) (by omega) (by omega)) (fun rq7209 mq7209 nq7209 hq7209 => ?_)
      obtain ⟨rfl, hTq7209, hFq7209, hq7209, hE⟩ := hq7209
      unfold EM at hE
      rw [show mq7204 390 0 = m 390 0 from (hFq7204 390 0 rfl)] at hE
      obtain ⟨k1, k2, k3, k4, k5, k6, k7⟩ := hE
      have k8 : ∀ q, q < 1000 * 0 + 8 * (m 390 0).toNat ∨ 1000 * 0 + 8 * (m 390 0).toNat + 8 ≤ q → mq7209 403 q = m 403 q := fun q hq => (k7 q hq).trans ((hFq7204 403 q rfl))
      have x1q7209 : mq7209 376 1 = m 376 1 := ((hFq7209 376 1 rfl).trans (hFq7204 376 1 rfl))
      have hF7223 := hF7208.tr hFq7209 wEm0_wSt0
      refine y_istore 36 c137_35 rfl rfl ?_
      refine y_goto 145 c137_36 rfl ?_
      have es7224 : mq7209 376 1 = m 376 1 := ((hFq7209 376 1 rfl).trans (hFq7204 376 1 rfl))
      have es7225 : mq7209 376 3 = mq7204 376 3 := (hFq7209 376 3 rfl)
      have es7226 : mq7209 376 6 = mq7204 376 6 := (hFq7209 376 6 rfl)
      have es7227 : mq7209 376 8 = m 376 8 := ((hFq7209 376 8 rfl).trans (hFq7204 376 8 rfl))
      have tb7228 := hTq7209.atp 390 0 0 125 rfl
      have es7229 : mq7209 386 0 = m 386 0 := ((hFq7209 386 0 rfl).trans (hFq7204 386 0 rfl))
      have es7230 : mq7209 387 0 = m 387 0 := ((hFq7209 387 0 rfl).trans (hFq7204 387 0 rfl))
      have es7231 : mq7209 388 0 = m 388 0 := ((hFq7209 388 0 rfl).trans (hFq7204 388 0 rfl))
      have es7232 : mq7209 376 17 = m 376 17 := ((hFq7209 376 17 rfl).trans (hFq7204 376 17 rfl))
      have es7233 : mq7209 384 0 = m 384 0 := ((hFq7209 384 0 rfl).trans (hFq7204 384 0 rfl))
      have em7234 : mu mq7209 = mu mq7204 := mu_fr (hFq7209 376 1 rfl) (hFq7209 376 3 rfl) (hFq7209 376 6 rfl)
      have f0 : mq7209 403 (1000 * 0 + 8 * (m 390 0).toNat) = _ := k2
      have f1 : mq7209 403 (1000 * 0 + 8 * (m 390 0).toNat + 1) = _ := k3
      have f2 : mq7209 403 (1000 * 0 + 8 * (m 390 0).toNat + 2) = _ := k4
      have f3 : mq7209 403 (1000 * 0 + 8 * (m 390 0).toNat + 3) = _ := k5
      have f4 : mq7209 403 (1000 * 0 + 8 * (m 390 0).toNat + 4) = _ := k6
      have hw : OW mq7209 (1000 * 0 + 8 * (m 390 0).toNat) := by unfold OW; omega
      have hx : XS 0 mq7209 := XS.add hX (by omega) (fun a q ha => hF7223 a q (wSt0_Y a q ha)) (fun q hq => k8 q hq) hw (by omega) (by omega) (by omega) (by omega) (by omega) (by omega) (by omega) (fun c hc => by rw [show mq7209 401 (8 * 0 + c) = m 401 (8 * 0 + c) from ((hFq7209 401 _ rfl).trans (hFq7204 401 _ rfl))]; exact hCV c (by omega)) (by omega) (by omega)
      exact y_retU c137_145 ⟨rfl, hTq7209, hF7223, by omega, by first | exact Or.inl (by omega) | exact Or.inr ⟨by omega, by omega, by omega, hx⟩⟩
  · refine y_aload 8 c137_7 rfl rfl rfl ?_
    refine y_iload 9 c137_8 rfl rfl ?_
    have tb7236 := hT.atp 376 1 0 320 rfl
    have tb7237 := hT.atp 376 6 0 320 rfl
    have tb7238 := hT.atp 376 8 ((-1)) 320 rfl
    have tb7239 := hT.atp 376 18 0 1 rfl
    have tb7240 := hT.atp 376 17 0 20 rfl
    refine y_callUB 12 [.ref 376, yI v] [] c137_9 rfl rfl rfl rfl rfl (ycanO km135 ko376) (t135_0 hT (by omega) (by omega) (by omega) hX (by omega) (by omega) (by omega)) (fun mq7235 nq7235 hq7235 => ?_)
    obtain ⟨rfl, hTq7235, hFq7235, hlq7235, hq7235⟩ := hq7235
    have hAq7235 : 0 ≤ mq7235 376 8 ∨ (mq7235 376 8 < 0 ∧ mu mq7235 ≤ mu m ∧ mq7235 390 0 = m 390 0 + 1) := by rcases hq7235 with q | q; exact Or.inl q; exact Or.inr ⟨q.1, by omega, by omega⟩
    have x1q7235 : mq7235 376 1 = m 376 1 := (hFq7235 376 1 rfl)
    have hF7241 := hF.tr hFq7235 (fun _ _ e => e)
    refine y_goto 145 c137_12 rfl ?_
    have es7242 : mq7235 376 1 = m 376 1 := (hFq7235 376 1 rfl)
    have tb7243 := hTq7235.atp 376 3 0 3 rfl
    have tb7244 := hTq7235.atp 376 6 0 320 rfl
    have tb7245 := hTq7235.atp 376 8 ((-1)) 320 rfl
    have tb7246 := hTq7235.atp 390 0 0 125 rfl
    have tb7247 := hTq7235.atp 386 0 0 12 rfl
    have tb7248 := hTq7235.atp 387 0 0 8 rfl
    have tb7249 := hTq7235.atp 388 0 0 12 rfl
    have tb7250 := hTq7235.atp 376 17 0 20 rfl
    have es7251 : mq7235 384 0 = m 384 0 := (hFq7235 384 0 rfl)
    exact y_retU c137_145 ⟨rfl, hTq7235, hF7241, by omega, (by first | exact Or.inl (by omega) | exact Or.inr ⟨by omega, by omega, by omega, (hq7235.resolve_left (by omega)).2.2.2⟩ | (by_cases hq : 0 ≤ mq7235 376 8 <;> first | exact Or.inl (by omega) | exact Or.inr ⟨by omega, by omega, by omega, (hq7235.resolve_left (by omega)).2.2.2⟩))⟩
set_option maxRecDepth 100000 in
theorem t133_0 {L : Nat} {xs : Nat → Int32} {d nn : Nat} {m : yM} {v : Int} (hT : Ty gT m) (hl : m 376 6 ≤ m 376 1) (hn : m 376 18 = 1) (h8 : m 376 8 < 0) (hX : XS 0 m) (h84 : 1 ≤ m 384 0) (h90 : m 390 0 ≤ 100) (hv : 0 ≤ v ∧ v ≤ 47) : YC (gZ L xs) (d + 6) 133 [.ref 376, yI v] m nn (qU (fun m' n' => n' = nn ∧ Ty gT m' ∧ Fr wSt0 m m' ∧ m' 376 6 ≤ m' 376 1 ∧ (0 ≤ m' 376 8 ∨ (m' 376 8 < 0 ∧ mu m' ≤ mu m ∧ m' 390 0 = m 390 0 + 1 ∧ XS 0 m')))) := by
  have tb8 := hT.atp 376 8 (-1) 320 rfl
  have tc384 := hT.atp 384 0 0 10 rfl
  have tc386 := hT.atp 386 0 0 12 rfl
  have tc387 := hT.atp 387 0 0 8 rfl
  have tc388 := hT.atp 388 0 0 12 rfl
  have tc389 := hT.atp 389 0 0 48 rfl
  have tc390 := hT.atp 390 0 0 125 rfl
  have hsc := hX.2.2.2.2.2
  have hCV := hX.2.2.2.2.2.2.2.1
  refine YC.mkB [some (.ref 376), some (yI v), none, none, none] kn133 rfl rfl ?_
  have hF : Fr wSt0 m m := Fr.rf
  refine y_aload 1 c133_0 rfl rfl rfl ?_
  have tb7253 := hT.atp 376 1 0 320 rfl
  have tb7254 := hT.atp 376 3 0 3 rfl
  have tb7255 := hT.atp 376 6 0 320 rfl
  have tb7256 := hT.atp 376 8 ((-1)) 320 rfl
  refine y_callUB 4 [.ref 376] [] c133_1 rfl rfl rfl rfl rfl (ycanO km99 ko376) (t99u hT (by omega)) (fun mq7252 nq7252 hq7252 => ?_)
  obtain ⟨rfl, hTq7252, hFq7252, hq7252⟩ := hq7252
  have x1q7252 : mq7252 376 1 = m 376 1 := (hFq7252 376 1 rfl)
  have hF7257 := hF.tr hFq7252 wNx_wSt0
  refine y_aload 5 c133_4 rfl rfl rfl ?_
  refine y_getX 8 (mq7252 376 4) c133_5 rfl kf376_4 rfl ?_
  have tb7258 := hTq7252.atp 376 4 ((-2147483648)) 2147483647 rfl
  refine y_istore 9 c133_8 rfl rfl ?_
  refine y_aload 10 c133_9 rfl rfl rfl ?_
  refine y_getX 13 (mq7252 376 5) c133_10 rfl kf376_5 rfl ?_
  have tb7259 := hTq7252.atp 376 5 0 320 rfl
  refine y_istore 14 c133_13 rfl rfl ?_
  refine y_aload 15 c133_14 rfl rfl rfl ?_
  refine y_aload 16 c133_15 rfl rfl rfl ?_
  have tb7260 := hTq7252.atp 376 3 0 3 rfl
  refine y_callP 19 [.ref 376] [.ref 376] c133_16 rfl rfl rfl rfl rfl (ycanO km115 ko376) (t115 hTq7252) (fun r7261 hr7261 => ?_)
  have es7263 : mq7252 376 1 = m 376 1 := (hFq7252 376 1 rfl)
  have tb7264 := hTq7252.atp 376 6 0 320 rfl
  have es7265 : mq7252 376 8 = m 376 8 := (hFq7252 376 8 rfl)
  refine y_callIB 22 [.ref 376, yI r7261] [] c133_19 rfl rfl rfl rfl rfl (ycanO km105 ko376) (t105 (g := r7261) hTq7252 (by omega) (by omega)) (fun rq7262 mq7262 nq7262 hq7262 => ?_)
  obtain ⟨rfl, hTq7262, hFq7262, hq7262⟩ := hq7262
  have x1q7262 : mq7262 376 1 = m 376 1 := ((hFq7262 376 1 rfl).trans (hFq7252 376 1 rfl))
  have hF7266 := hF7257.tr hFq7262 wNw_wSt0
  refine y_if 26 25 c133_22 rfl rfl (yz_ne (by omega)) (fun hb7267 => ?_) (fun hb7267 => ?_)
  · refine y_aload 27 c133_26 rfl rfl rfl ?_
    refine y_iconst 29 c133_27 rfl ?_
    have tb7268 := hTq7262.atp 376 3 0 3 rfl
    refine y_callP 32 [.ref 376, yI 40] [] c133_29 rfl rfl rfl rfl rfl (ycanO km117 ko376) (t117 hTq7262 (by omega)) (fun r7269 hr7269 => ?_)
    refine y_if 44 35 c133_32 rfl rfl (yz_eq (by omega)) (fun hb7270 => ?_) (fun hb7270 => ?_)
    · refine y_aload 45 c133_44 rfl rfl rfl ?_
      refine y_iconst 47 c133_45 rfl ?_
      have es7272 : mq7262 376 1 = m 376 1 := ((hFq7262 376 1 rfl).trans (hFq7252 376 1 rfl))
      have tb7273 := hTq7262.atp 376 6 0 320 rfl
      have tb7274 := hTq7262.atp 376 8 ((-1)) 320 rfl
      refine y_callIB 50 [.ref 376, yI 61] [] c133_47 rfl rfl rfl rfl rfl (ycanO km118 ko376) (t118 hTq7262 (by omega) (by omega)) (fun rq7271 mq7271 nq7271 hq7271 => ?_)
      obtain ⟨rfl, hTq7271, hFq7271, hq7271⟩ := hq7271
      have x1q7271 : mq7271 376 1 = m 376 1 := ((hFq7271 376 1 rfl).trans ((hFq7262 376 1 rfl).trans (hFq7252 376 1 rfl)))
      have hF7275 := hF7266.tr hFq7271 wNw_wSt0
      refine y_if 54 53 c133_50 rfl rfl (yz_ne (by omega)) (fun hb7276 => ?_) (fun hb7276 => ?_)
      · refine y_aload 55 c133_54 rfl rfl rfl ?_
        have es7278 : mq7271 376 1 = m 376 1 := ((hFq7271 376 1 rfl).trans ((hFq7262 376 1 rfl).trans (hFq7252 376 1 rfl)))
        have tb7279 := hTq7271.atp 376 3 0 3 rfl
        have tb7280 := hTq7271.atp 376 6 0 320 rfl
        have tb7281 := hTq7271.atp 376 8 ((-1)) 320 rfl
        have es7282 : mq7271 376 18 = m 376 18 := ((hFq7271 376 18 rfl).trans ((hFq7262 376 18 rfl).trans (hFq7252 376 18 rfl)))
        have tb7283 := hT.atp 376 18 0 1 rfl
        refine y_callIB 58 [.ref 376] [] c133_55 rfl rfl rfl rfl rfl (ycanO km130 ko376) (t130_0 hTq7271 (by omega) (by omega) (by omega)) (fun rq7277 mq7277 nq7277 hq7277 => ?_)
        obtain ⟨rfl, hTq7277, hFq7277, hq7277⟩ := hq7277
        have x1q7277 : mq7277 376 1 = m 376 1 := ((hFq7277 376 1 rfl).trans ((hFq7271 376 1 rfl).trans ((hFq7262 376 1 rfl).trans (hFq7252 376 1 rfl))))
        have hF7284 := hF7275.tr hFq7277 wVr0_wSt0
        refine y_istore 60 c133_58 rfl rfl ?_
        refine y_aload 61 c133_60 rfl rfl rfl ?_
        refine y_getX 64 (mq7277 376 8) c133_61 rfl kf376_8 rfl ?_
        have tb7285 := hTq7277.atp 376 8 ((-1)) 320 rfl
        refine y_if 78 67 c133_64 rfl rfl (yz_ge (by omega)) (fun hb7286 => ?_) (fun hb7286 => ?_)
        · have es7287 : mq7277 376 1 = m 376 1 := ((hFq7277 376 1 rfl).trans ((hFq7271 376 1 rfl).trans ((hFq7262 376 1 rfl).trans (hFq7252 376 1 rfl))))
          have tb7288 := hTq7277.atp 376 3 0 3 rfl
          have tb7289 := hTq7277.atp 376 6 0 320 rfl
          exact y_retU c133_78 ⟨rfl, hTq7277, hF7284, by omega, Or.inl (by omega)⟩
        · refine y_aload 68 c133_67 rfl rfl rfl ?_
          refine y_iconst 69 c133_68 rfl ?_
          refine y_iload 70 c133_69 rfl rfl ?_
          refine y_iload 72 c133_70 rfl rfl ?_
          refine y_iload 73 c133_72 rfl rfl ?_
          have es7291 : mq7277 376 1 = m 376 1 := ((hFq7277 376 1 rfl).trans ((hFq7271 376 1 rfl).trans ((hFq7262 376 1 rfl).trans (hFq7252 376 1 rfl))))
          have tb7292 := hTq7277.atp 376 3 0 3 rfl
          have tb7293 := hTq7277.atp 376 6 0 320 rfl
          have es7294 : mq7277 376 18 = m 376 18 := ((hFq7277 376 18 rfl).trans ((hFq7271 376 18 rfl).trans ((hFq7262 376 18 rfl).trans (hFq7252 376 18 rfl))))
          have es7295 : mq7277 390 0 = m 390 0 := ((hFq7277 390 0 rfl).trans ((hFq7271 390 0 rfl).trans ((hFq7262 390 0 rfl).trans (hFq7252 390 0 rfl))))
          have es7296 : mq7277 386 0 = m 386 0 := ((hFq7277 386 0 rfl).trans ((hFq7271 386 0 rfl).trans ((hFq7262 386 0 rfl).trans (hFq7252 386 0 rfl))))
          have es7297 : mq7277 387 0 = m 387 0 := ((hFq7277 387 0 rfl).trans ((hFq7271 387 0 rfl).trans ((hFq7262 387 0 rfl).trans (hFq7252 387 0 rfl))))
          have es7298 : mq7277 388 0 = m 388 0 := ((hFq7277 388 0 rfl).trans ((hFq7271 388 0 rfl).trans ((hFq7262 388 0 rfl).trans (hFq7252 388 0 rfl))))
          have es7299 : mq7277 376 17 = m 376 17 := ((hFq7277 376 17 rfl).trans ((hFq7271 376 17 rfl).trans ((hFq7262 376 17 rfl).trans (hFq7252 376 17 rfl))))
          have tb7300 := hT.atp 376 17 0 20 rfl
          have es7301 : mq7277 384 0 = m 384 0 := ((hFq7277 384 0 rfl).trans ((hFq7271 384 0 rfl).trans ((hFq7262 384 0 rfl).trans (hFq7252 384 0 rfl))))
          refine y_callIB 76 [.ref 376, yI 5, yI v, yI rq7277, yI (mq7252 376 4)] [] c133_73 rfl rfl rfl rfl rfl (ycanO km127 ko376) (t127_0 hTq7277 (by omega) (by omega) (by omega) (by omega) (by omega) (by omega)) (fun rq7290 mq7290 nq7290 hq7290 => ?_)
          obtain ⟨rfl, hTq7290, hFq7290, hq7290, hE⟩ := hq7290
          unfold EM at hE
          rw [show mq7277 390 0 = m 390 0 from ((hFq7277 390 0 rfl).trans ((hFq7271 390 0 rfl).trans ((hFq7262 390 0 rfl).trans (hFq7252 390 0 rfl))))] at hE
          obtain ⟨k1, k2, k3, k4, k5, k6, k7⟩ := hE
          have k8 : ∀ q, q < 1000 * 0 + 8 * (m 390 0).toNat ∨ 1000 * 0 + 8 * (m 390 0).toNat + 8 ≤ q → mq7290 403 q = m 403 q := fun q hq => (k7 q hq).trans (((hFq7277 403 q rfl).trans ((hFq7271 403 q rfl).trans ((hFq7262 403 q rfl).trans (hFq7252 403 q rfl)))))
          have x1q7290 : mq7290 376 1 = m 376 1 := ((hFq7290 376 1 rfl).trans ((hFq7277 376 1 rfl).trans ((hFq7271 376 1 rfl).trans ((hFq7262 376 1 rfl).trans (hFq7252 376 1 rfl)))))
          have hF7302 := hF7284.tr hFq7290 wEm0_wSt0
          refine y_istore 78 c133_76 rfl rfl ?_
          have es7303 : mq7290 376 1 = m 376 1 := ((hFq7290 376 1 rfl).trans ((hFq7277 376 1 rfl).trans ((hFq7271 376 1 rfl).trans ((hFq7262 376 1 rfl).trans (hFq7252 376 1 rfl)))))
          have es7304 : mq7290 376 3 = mq7277 376 3 := (hFq7290 376 3 rfl)
          have es7305 : mq7290 376 6 = mq7277 376 6 := (hFq7290 376 6 rfl)
          have es7306 : mq7290 376 8 = mq7277 376 8 := (hFq7290 376 8 rfl)
          have tb7307 := hTq7290.atp 390 0 0 125 rfl
          have es7308 : mq7290 386 0 = m 386 0 := ((hFq7290 386 0 rfl).trans ((hFq7277 386 0 rfl).trans ((hFq7271 386 0 rfl).trans ((hFq7262 386 0 rfl).trans (hFq7252 386 0 rfl)))))
          have es7309 : mq7290 387 0 = m 387 0 := ((hFq7290 387 0 rfl).trans ((hFq7277 387 0 rfl).trans ((hFq7271 387 0 rfl).trans ((hFq7262 387 0 rfl).trans (hFq7252 387 0 rfl)))))
          have es7310 : mq7290 388 0 = m 388 0 := ((hFq7290 388 0 rfl).trans ((hFq7277 388 0 rfl).trans ((hFq7271 388 0 rfl).trans ((hFq7262 388 0 rfl).trans (hFq7252 388 0 rfl)))))
          have es7311 : mq7290 376 17 = m 376 17 := ((hFq7290 376 17 rfl).trans ((hFq7277 376 17 rfl).trans ((hFq7271 376 17 rfl).trans ((hFq7262 376 17 rfl).trans (hFq7252 376 17 rfl)))))
          have es7312 : mq7290 384 0 = m 384 0 := ((hFq7290 384 0 rfl).trans ((hFq7277 384 0 rfl).trans ((hFq7271 384 0 rfl).trans ((hFq7262 384 0 rfl).trans (hFq7252 384 0 rfl)))))
          have em7313 : mu mq7290 = mu mq7277 := mu_fr (hFq7290 376 1 rfl) (hFq7290 376 3 rfl) (hFq7290 376 6 rfl)
          have f0 : mq7290 403 (1000 * 0 + 8 * (m 390 0).toNat) = _ := k2
          have f1 : mq7290 403 (1000 * 0 + 8 * (m 390 0).toNat + 1) = _ := k3
          have f2 : mq7290 403 (1000 * 0 + 8 * (m 390 0).toNat + 2) = _ := k4
          have f3 : mq7290 403 (1000 * 0 + 8 * (m 390 0).toNat + 3) = _ := k5
          have f4 : mq7290 403 (1000 * 0 + 8 * (m 390 0).toNat + 4) = _ := k6
          have hw : OW mq7290 (1000 * 0 + 8 * (m 390 0).toNat) := by unfold OW; omega
          have hx : XS 0 mq7290 := XS.add hX (by omega) (fun a q ha => hF7302 a q (wSt0_Y a q ha)) (fun q hq => k8 q hq) hw (by omega) (by omega) (by omega) (by omega) (by omega) (by omega) (by omega) (fun c hc => by rw [show mq7290 401 (8 * 0 + c) = m 401 (8 * 0 + c) from ((hFq7290 401 _ rfl).trans ((hFq7277 401 _ rfl).trans ((hFq7271 401 _ rfl).trans ((hFq7262 401 _ rfl).trans (hFq7252 401 _ rfl)))))]; exact hCV c (by omega)) (by omega) (by omega)
          exact y_retU c133_78 ⟨rfl, hTq7290, hF7302, by omega, by first | exact Or.inl (by omega) | exact Or.inr ⟨by omega, by omega, by omega, hx⟩⟩
      · have es7314 : mq7271 376 1 = m 376 1 := ((hFq7271 376 1 rfl).trans ((hFq7262 376 1 rfl).trans (hFq7252 376 1 rfl)))
        have tb7315 := hTq7271.atp 376 3 0 3 rfl
        have tb7316 := hTq7271.atp 376 6 0 320 rfl
        have tb7317 := hTq7271.atp 376 8 ((-1)) 320 rfl
        exact y_retU c133_53 ⟨rfl, hTq7271, hF7275, by omega, Or.inl (by omega)⟩
    · refine y_aload 36 c133_35 rfl rfl rfl ?_
      refine y_iconst 37 c133_36 rfl ?_
      refine y_iload 38 c133_37 rfl rfl ?_
      refine y_iload 39 c133_38 rfl rfl ?_
      refine y_iload 40 c133_39 rfl rfl ?_
      have es7319 : mq7262 376 1 = m 376 1 := ((hFq7262 376 1 rfl).trans (hFq7252 376 1 rfl))
      have tb7320 := hTq7262.atp 376 6 0 320 rfl
      have tb7321 := hTq7262.atp 376 8 ((-1)) 320 rfl
      have es7322 : mq7262 376 18 = m 376 18 := ((hFq7262 376 18 rfl).trans (hFq7252 376 18 rfl))
      have tb7323 := hT.atp 376 18 0 1 rfl
      have es7324 : mq7262 390 0 = m 390 0 := ((hFq7262 390 0 rfl).trans (hFq7252 390 0 rfl))
      have es7325 : mq7262 386 0 = m 386 0 := ((hFq7262 386 0 rfl).trans (hFq7252 386 0 rfl))
      have es7326 : mq7262 387 0 = m 387 0 := ((hFq7262 387 0 rfl).trans (hFq7252 387 0 rfl))
      have es7327 : mq7262 388 0 = m 388 0 := ((hFq7262 388 0 rfl).trans (hFq7252 388 0 rfl))
      have es7328 : mq7262 376 17 = m 376 17 := ((hFq7262 376 17 rfl).trans (hFq7252 376 17 rfl))
      have tb7329 := hT.atp 376 17 0 20 rfl
      have es7330 : mq7262 384 0 = m 384 0 := ((hFq7262 384 0 rfl).trans (hFq7252 384 0 rfl))
      refine y_callUB 43 [.ref 376, yI ((-1)), yI v, yI (mq7252 376 4), yI (mq7252 376 5)] [] c133_40 rfl rfl rfl rfl rfl (ycanO km132 ko376) (t132_0 hTq7262 (by omega) (by omega) (by omega) ((hX.fw hFq7252 wNx_X).fw hFq7262 wNw_X) (by omega) (by omega) (by omega) (by omega) (by omega) (by omega)) (fun mq7318 nq7318 hq7318 => ?_)
      obtain ⟨rfl, hTq7318, hFq7318, hlq7318, hq7318⟩ := hq7318
      have hAq7318 : 0 ≤ mq7318 376 8 ∨ (mq7318 376 8 < 0 ∧ mu mq7318 ≤ mu mq7262 ∧ mq7318 390 0 = m 390 0 + 1) := by rcases hq7318 with q | q; exact Or.inl q; exact Or.inr ⟨q.1, by omega, by omega⟩
      have x1q7318 : mq7318 376 1 = m 376 1 := ((hFq7318 376 1 rfl).trans ((hFq7262 376 1 rfl).trans (hFq7252 376 1 rfl)))
      have hF7331 := hF7266.tr hFq7318 (fun _ _ e => e)
      have es7332 : mq7318 376 1 = m 376 1 := ((hFq7318 376 1 rfl).trans ((hFq7262 376 1 rfl).trans (hFq7252 376 1 rfl)))
      have tb7333 := hTq7318.atp 376 3 0 3 rfl
      have tb7334 := hTq7318.atp 376 6 0 320 rfl
      have tb7335 := hTq7318.atp 376 8 ((-1)) 320 rfl
      have tb7336 := hTq7318.atp 390 0 0 125 rfl
      have tb7337 := hTq7318.atp 386 0 0 12 rfl
      have tb7338 := hTq7318.atp 387 0 0 8 rfl
      have tb7339 := hTq7318.atp 388 0 0 12 rfl
      have tb7340 := hTq7318.atp 376 17 0 20 rfl
      have es7341 : mq7318 384 0 = m 384 0 := ((hFq7318 384 0 rfl).trans ((hFq7262 384 0 rfl).trans (hFq7252 384 0 rfl)))
      exact y_retU c133_43 ⟨rfl, hTq7318, hF7331, by omega, (by first | exact Or.inl (by omega) | exact Or.inr ⟨by omega, by omega, by omega, (hq7318.resolve_left (by omega)).2.2.2⟩ | (by_cases hq : 0 ≤ mq7318 376 8 <;> first | exact Or.inl (by omega) | exact Or.inr ⟨by omega, by omega, by omega, (hq7318.resolve_left (by omega)).2.2.2⟩))⟩
  · have es7342 : mq7262 376 1 = m 376 1 := ((hFq7262 376 1 rfl).trans (hFq7252 376 1 rfl))
    have tb7343 := hTq7262.atp 376 3 0 3 rfl
    have tb7344 := hTq7262.atp 376 6 0 320 rfl
    have tb7345 := hTq7262.atp 376 8 ((-1)) 320 rfl
    exact y_retU c133_25 ⟨rfl, hTq7262, hF7266, by omega, Or.inl (by omega)⟩
set_option maxRecDepth 100000 in
theorem t137_1 {L : Nat} {xs : Nat → Int32} {d nn : Nat} {m : yM} {v : Int} (hT : Ty gT m) (hl : m 376 6 ≤ m 376 1) (hn : m 376 18 = 0) (h8 : m 376 8 < 0) (hX : XS 1 m) (h84 : 1 ≤ m 384 1) (h90 : m 390 1 ≤ 100) (hv : 0 ≤ v ∧ v ≤ 47) : YC (gZ L xs) (d + 6) 137 [.ref 376, yI v] m nn (qU (fun m' n' => n' = nn ∧ Ty gT m' ∧ Fr wSt1 m m' ∧ m' 376 6 ≤ m' 376 1 ∧ (0 ≤ m' 376 8 ∨ (m' 376 8 < 0 ∧ mu m' ≤ mu m ∧ m' 390 1 = m 390 1 + 1 ∧ XS 1 m')))) := by
  have tb8 := hT.atp 376 8 (-1) 320 rfl
  have tc384 := hT.atp 384 1 0 10 rfl
  have tc386 := hT.atp 386 1 0 12 rfl
  have tc387 := hT.atp 387 1 0 8 rfl
  have tc388 := hT.atp 388 1 0 12 rfl
  have tc389 := hT.atp 389 1 0 48 rfl
  have tc390 := hT.atp 390 1 0 125 rfl
  have hsc := hX.2.2.2.2.2
  have hCV := hX.2.2.2.2.2.2.2.1
  refine YC.mkB [some (.ref 376), some (yI v), none, none, none] kn137 rfl rfl ?_
  have hF : Fr wSt1 m m := Fr.rf
  refine y_aload 1 c137_0 rfl rfl rfl ?_
  have tb8279 := hT.atp 376 3 0 3 rfl
  refine y_callP 4 [.ref 376] [] c137_1 rfl rfl rfl rfl rfl (ycanO km108 ko376) (t108 hT) (fun r8280 hr8280 => ?_)
  refine y_if 15 7 c137_4 rfl rfl (yz_eq (by omega)) (fun hb8281 => ?_) (fun hb8281 => ?_)
  · refine y_aload 16 c137_15 rfl rfl rfl ?_
    refine y_callP 19 [.ref 376] [] c137_16 rfl rfl rfl rfl rfl (ycanO km109 ko376) (t109 hT) (fun r8282 hr8282 => ?_)
    refine y_if 39 22 c137_19 rfl rfl (yz_eq (by omega)) (fun hb8283 => ?_) (fun hb8283 => ?_)
    · refine y_aload 40 c137_39 rfl rfl rfl ?_
      refine y_iconst 42 c137_40 rfl ?_
      refine y_callP 45 [.ref 376, yI 40] [] c137_42 rfl rfl rfl rfl rfl (ycanO km117 ko376) (t117 hT (by omega)) (fun r8284 hr8284 => ?_)
      refine y_if 56 48 c137_45 rfl rfl (yz_eq (by omega)) (fun hb8285 => ?_) (fun hb8285 => ?_)
      · refine y_aload 57 c137_56 rfl rfl rfl ?_
        have tb8287 := hT.atp 376 1 0 320 rfl
        have tb8288 := hT.atp 376 6 0 320 rfl
        have tb8289 := hT.atp 376 8 ((-1)) 320 rfl
        have tb8290 := hT.atp 376 18 0 1 rfl
        refine y_callIB 60 [.ref 376] [] c137_57 rfl rfl rfl rfl rfl (ycanO km130 ko376) (t130_1 hT (by omega) (by omega) (by omega)) (fun rq8286 mq8286 nq8286 hq8286 => ?_)
        obtain ⟨rfl, hTq8286, hFq8286, hq8286⟩ := hq8286
        have x1q8286 : mq8286 376 1 = m 376 1 := (hFq8286 376 1 rfl)
        have hF8291 := hF.tr hFq8286 wVr1_wSt1
        refine y_istore 61 c137_60 rfl rfl ?_
        refine y_aload 62 c137_61 rfl rfl rfl ?_
        refine y_getX 65 (mq8286 376 8) c137_62 rfl kf376_8 rfl ?_
        have tb8292 := hTq8286.atp 376 8 ((-1)) 320 rfl
        refine y_if 69 68 c137_65 rfl rfl (yz_lt (by omega)) (fun hb8293 => ?_) (fun hb8293 => ?_)
        · refine y_aload 70 c137_69 rfl rfl rfl ?_
          refine y_iconst 72 c137_70 rfl ?_
          have tb8294 := hTq8286.atp 376 3 0 3 rfl
          refine y_callP 75 [.ref 376, yI 46] [] c137_72 rfl rfl rfl rfl rfl (ycanO km117 ko376) (t117 hTq8286 (by omega)) (fun r8295 hr8295 => ?_)
          refine y_if 88 78 c137_75 rfl rfl (yz_ne (by omega)) (fun hb8296 => ?_) (fun hb8296 => ?_)
          · refine y_aload 89 c137_88 rfl rfl rfl ?_
            have es8298 : mq8286 376 1 = m 376 1 := (hFq8286 376 1 rfl)
            have tb8299 := hTq8286.atp 376 6 0 320 rfl
            refine y_callUB 92 [.ref 376] [] c137_89 rfl rfl rfl rfl rfl (ycanO km99 ko376) (t99u hTq8286 (by omega)) (fun mq8297 nq8297 hq8297 => ?_)
            obtain ⟨rfl, hTq8297, hFq8297, hq8297⟩ := hq8297
            have x1q8297 : mq8297 376 1 = m 376 1 := ((hFq8297 376 1 rfl).trans (hFq8286 376 1 rfl))
            have hF8300 := hF8291.tr hFq8297 wNx_wSt1
            refine y_aload 93 c137_92 rfl rfl rfl ?_
            refine y_getX 96 (mq8297 376 4) c137_93 rfl kf376_4 rfl ?_
            have tb8301 := hTq8297.atp 376 4 ((-2147483648)) 2147483647 rfl
            refine y_istore 97 c137_96 rfl rfl ?_
            refine y_aload 98 c137_97 rfl rfl rfl ?_
            refine y_getX 101 (mq8297 376 5) c137_98 rfl kf376_5 rfl ?_
            have tb8302 := hTq8297.atp 376 5 0 320 rfl
            refine y_istore 103 c137_101 rfl rfl ?_
            refine y_aload 104 c137_103 rfl rfl rfl ?_
            refine y_aload 105 c137_104 rfl rfl rfl ?_
            have tb8303 := hTq8297.atp 376 3 0 3 rfl
            refine y_callP 108 [.ref 376] [.ref 376] c137_105 rfl rfl rfl rfl rfl (ycanO km115 ko376) (t115 hTq8297) (fun r8304 hr8304 => ?_)
            have es8306 : mq8297 376 1 = m 376 1 := ((hFq8297 376 1 rfl).trans (hFq8286 376 1 rfl))
            have tb8307 := hTq8297.atp 376 6 0 320 rfl
            have es8308 : mq8297 376 8 = mq8286 376 8 := (hFq8297 376 8 rfl)
            refine y_callIB 111 [.ref 376, yI r8304] [] c137_108 rfl rfl rfl rfl rfl (ycanO km105 ko376) (t105 (g := r8304) hTq8297 (by omega) (by omega)) (fun rq8305 mq8305 nq8305 hq8305 => ?_)
            obtain ⟨rfl, hTq8305, hFq8305, hq8305⟩ := hq8305
            have x1q8305 : mq8305 376 1 = m 376 1 := ((hFq8305 376 1 rfl).trans ((hFq8297 376 1 rfl).trans (hFq8286 376 1 rfl)))
            have hF8309 := hF8300.tr hFq8305 wNw_wSt1
            refine y_if 115 114 c137_111 rfl rfl (yz_ne (by omega)) (fun hb8310 => ?_) (fun hb8310 => ?_)
            · refine y_aload 116 c137_115 rfl rfl rfl ?_
              refine y_iconst 118 c137_116 rfl ?_
              have tb8311 := hTq8305.atp 376 3 0 3 rfl
              refine y_callP 121 [.ref 376, yI 40] [] c137_118 rfl rfl rfl rfl rfl (ycanO km117 ko376) (t117 hTq8305 (by omega)) (fun r8312 hr8312 => ?_)
              refine y_if 136 124 c137_121 rfl rfl (yz_eq (by omega)) (fun hb8313 => ?_) (fun hb8313 => ?_)
              · refine y_aload 137 c137_136 rfl rfl rfl ?_
                refine y_iconst 138 c137_137 rfl ?_
                refine y_iload 139 c137_138 rfl rfl ?_
                refine y_iload 140 c137_139 rfl rfl ?_
                refine y_iload 141 c137_140 rfl rfl ?_
                have es8315 : mq8305 376 1 = m 376 1 := ((hFq8305 376 1 rfl).trans ((hFq8297 376 1 rfl).trans (hFq8286 376 1 rfl)))
                have tb8316 := hTq8305.atp 376 6 0 320 rfl
                have tb8317 := hTq8305.atp 376 8 ((-1)) 320 rfl
                have es8318 : mq8305 376 18 = m 376 18 := ((hFq8305 376 18 rfl).trans ((hFq8297 376 18 rfl).trans (hFq8286 376 18 rfl)))
                have es8319 : mq8305 390 1 = m 390 1 := ((hFq8305 390 1 rfl).trans ((hFq8297 390 1 rfl).trans (hFq8286 390 1 rfl)))
                have es8320 : mq8305 386 1 = m 386 1 := ((hFq8305 386 1 rfl).trans ((hFq8297 386 1 rfl).trans (hFq8286 386 1 rfl)))
                have es8321 : mq8305 387 1 = m 387 1 := ((hFq8305 387 1 rfl).trans ((hFq8297 387 1 rfl).trans (hFq8286 387 1 rfl)))
                have es8322 : mq8305 388 1 = m 388 1 := ((hFq8305 388 1 rfl).trans ((hFq8297 388 1 rfl).trans (hFq8286 388 1 rfl)))
                have es8323 : mq8305 376 17 = m 376 17 := ((hFq8305 376 17 rfl).trans ((hFq8297 376 17 rfl).trans (hFq8286 376 17 rfl)))
                have tb8324 := hT.atp 376 17 0 20 rfl
                have es8325 : mq8305 384 1 = m 384 1 := ((hFq8305 384 1 rfl).trans ((hFq8297 384 1 rfl).trans (hFq8286 384 1 rfl)))
                refine y_callIB 144 [.ref 376, yI 4, yI v, yI rq8286, yI (mq8297 376 4)] [] c137_141 rfl rfl rfl rfl rfl (ycanO km127 ko376) (t127_1 hTq8305 (by omega) (by omega) (by omega) (by omega) (by omega) (by omega)) (fun rq8314 mq8314 nq8314 hq8314 => ?_)
                obtain ⟨rfl, hTq8314, hFq8314, hq8314, hE⟩ := hq8314
                unfold EM at hE
                rw [show mq8305 390 1 = m 390 1 from ((hFq8305 390 1 rfl).trans ((hFq8297 390 1 rfl).trans (hFq8286 390 1 rfl)))] at hE
                obtain ⟨k1, k2, k3, k4, k5, k6, k7⟩ := hE
                have k8 : ∀ q, q < 1000 * 1 + 8 * (m 390 1).toNat ∨ 1000 * 1 + 8 * (m 390 1).toNat + 8 ≤ q → mq8314 403 q = m 403 q := fun q hq => (k7 q hq).trans (((hFq8305 403 q rfl).trans ((hFq8297 403 q rfl).trans (hFq8286 403 q rfl))))
                have x1q8314 : mq8314 376 1 = m 376 1 := ((hFq8314 376 1 rfl).trans ((hFq8305 376 1 rfl).trans ((hFq8297 376 1 rfl).trans (hFq8286 376 1 rfl))))
                have hF8326 := hF8309.tr hFq8314 wEm1_wSt1
                refine y_istore 145 c137_144 rfl rfl ?_
                have es8327 : mq8314 376 1 = m 376 1 := ((hFq8314 376 1 rfl).trans ((hFq8305 376 1 rfl).trans ((hFq8297 376 1 rfl).trans (hFq8286 376 1 rfl))))
                have es8328 : mq8314 376 3 = mq8305 376 3 := (hFq8314 376 3 rfl)
                have es8329 : mq8314 376 6 = mq8305 376 6 := (hFq8314 376 6 rfl)
                have es8330 : mq8314 376 8 = mq8305 376 8 := (hFq8314 376 8 rfl)
                have tb8331 := hTq8314.atp 390 1 0 125 rfl
                have es8332 : mq8314 386 1 = m 386 1 := ((hFq8314 386 1 rfl).trans ((hFq8305 386 1 rfl).trans ((hFq8297 386 1 rfl).trans (hFq8286 386 1 rfl))))
                have es8333 : mq8314 387 1 = m 387 1 := ((hFq8314 387 1 rfl).trans ((hFq8305 387 1 rfl).trans ((hFq8297 387 1 rfl).trans (hFq8286 387 1 rfl))))
                have es8334 : mq8314 388 1 = m 388 1 := ((hFq8314 388 1 rfl).trans ((hFq8305 388 1 rfl).trans ((hFq8297 388 1 rfl).trans (hFq8286 388 1 rfl))))
                have es8335 : mq8314 376 17 = m 376 17 := ((hFq8314 376 17 rfl).trans ((hFq8305 376 17 rfl).trans ((hFq8297 376 17 rfl).trans (hFq8286 376 17 rfl))))
                have es8336 : mq8314 384 1 = m 384 1 := ((hFq8314 384 1 rfl).trans ((hFq8305 384 1 rfl).trans ((hFq8297 384 1 rfl).trans (hFq8286 384 1 rfl))))
                have em8337 : mu mq8314 = mu mq8305 := mu_fr (hFq8314 376 1 rfl) (hFq8314 376 3 rfl) (hFq8314 376 6 rfl)
                have f0 : mq8314 403 (1000 * 1 + 8 * (m 390 1).toNat) = _ := k2
                have f1 : mq8314 403 (1000 * 1 + 8 * (m 390 1).toNat + 1) = _ := k3
                have f2 : mq8314 403 (1000 * 1 + 8 * (m 390 1).toNat + 2) = _ := k4
                have f3 : mq8314 403 (1000 * 1 + 8 * (m 390 1).toNat + 3) = _ := k5
                have f4 : mq8314 403 (1000 * 1 + 8 * (m 390 1).toNat + 4) = _ := k6
                have hw : OW mq8314 (1000 * 1 + 8 * (m 390 1).toNat) := by unfold OW; omega
                have hx : XS 1 mq8314 := XS.add hX (by omega) (fun a q ha => hF8326 a q (wSt1_Y a q ha)) (fun q hq => k8 q hq) hw (by omega) (by omega) (by omega) (by omega) (by omega) (by omega) (by omega) (fun c hc => by rw [show mq8314 401 (8 * 1 + c) = m 401 (8 * 1 + c) from ((hFq8314 401 _ rfl).trans ((hFq8305 401 _ rfl).trans ((hFq8297 401 _ rfl).trans (hFq8286 401 _ rfl))))]; exact hCV c (by omega)) (by omega) (by omega)
                exact y_retU c137_145 ⟨rfl, hTq8314, hF8326, by omega, by first | exact Or.inl (by omega) | exact Or.inr ⟨by omega, by omega, by omega, hx⟩⟩
              · refine y_aload 125 c137_124 rfl rfl rfl ?_
                refine y_iload 126 c137_125 rfl rfl ?_
                refine y_iload 127 c137_126 rfl rfl ?_
                refine y_iload 128 c137_127 rfl rfl ?_
                refine y_iload 130 c137_128 rfl rfl ?_
                have es8339 : mq8305 376 1 = m 376 1 := ((hFq8305 376 1 rfl).trans ((hFq8297 376 1 rfl).trans (hFq8286 376 1 rfl)))
                have tb8340 := hTq8305.atp 376 6 0 320 rfl
                have tb8341 := hTq8305.atp 376 8 ((-1)) 320 rfl
                have es8342 : mq8305 376 18 = m 376 18 := ((hFq8305 376 18 rfl).trans ((hFq8297 376 18 rfl).trans (hFq8286 376 18 rfl)))
                have es8343 : mq8305 390 1 = m 390 1 := ((hFq8305 390 1 rfl).trans ((hFq8297 390 1 rfl).trans (hFq8286 390 1 rfl)))
                have es8344 : mq8305 386 1 = m 386 1 := ((hFq8305 386 1 rfl).trans ((hFq8297 386 1 rfl).trans (hFq8286 386 1 rfl)))
                have es8345 : mq8305 387 1 = m 387 1 := ((hFq8305 387 1 rfl).trans ((hFq8297 387 1 rfl).trans (hFq8286 387 1 rfl)))
                have es8346 : mq8305 388 1 = m 388 1 := ((hFq8305 388 1 rfl).trans ((hFq8297 388 1 rfl).trans (hFq8286 388 1 rfl)))
                have es8347 : mq8305 376 17 = m 376 17 := ((hFq8305 376 17 rfl).trans ((hFq8297 376 17 rfl).trans (hFq8286 376 17 rfl)))
                have tb8348 := hT.atp 376 17 0 20 rfl
                have es8349 : mq8305 384 1 = m 384 1 := ((hFq8305 384 1 rfl).trans ((hFq8297 384 1 rfl).trans (hFq8286 384 1 rfl)))
                refine y_callUB 133 [.ref 376, yI v, yI rq8286, yI (mq8297 376 4), yI (mq8297 376 5)] [] c137_130 rfl rfl rfl rfl rfl (ycanO km132 ko376) (t132_1 hTq8305 (by omega) (by omega) (by omega) (((hX.fw hFq8286 wVr1_X).fw hFq8297 wNx_X).fw hFq8305 wNw_X) (by omega) (by omega) (by omega) (by omega) (by omega) (by omega)) (fun mq8338 nq8338 hq8338 => ?_)
                obtain ⟨rfl, hTq8338, hFq8338, hlq8338, hq8338⟩ := hq8338
                have hAq8338 : 0 ≤ mq8338 376 8 ∨ (mq8338 376 8 < 0 ∧ mu mq8338 ≤ mu mq8305 ∧ mq8338 390 1 = m 390 1 + 1) := by rcases hq8338 with q | q; exact Or.inl q; exact Or.inr ⟨q.1, by omega, by omega⟩
                have x1q8338 : mq8338 376 1 = m 376 1 := ((hFq8338 376 1 rfl).trans ((hFq8305 376 1 rfl).trans ((hFq8297 376 1 rfl).trans (hFq8286 376 1 rfl))))
                have hF8350 := hF8309.tr hFq8338 (fun _ _ e => e)
                refine y_goto 145 c137_133 rfl ?_
                have es8351 : mq8338 376 1 = m 376 1 := ((hFq8338 376 1 rfl).trans ((hFq8305 376 1 rfl).trans ((hFq8297 376 1 rfl).trans (hFq8286 376 1 rfl))))
                have tb8352 := hTq8338.atp 376 3 0 3 rfl
                have tb8353 := hTq8338.atp 376 6 0 320 rfl
                have tb8354 := hTq8338.atp 376 8 ((-1)) 320 rfl
                have tb8355 := hTq8338.atp 390 1 0 125 rfl
                have tb8356 := hTq8338.atp 386 1 0 12 rfl
                have tb8357 := hTq8338.atp 387 1 0 8 rfl
                have tb8358 := hTq8338.atp 388 1 0 12 rfl
                have tb8359 := hTq8338.atp 376 17 0 20 rfl
                have es8360 : mq8338 384 1 = m 384 1 := ((hFq8338 384 1 rfl).trans ((hFq8305 384 1 rfl).trans ((hFq8297 384 1 rfl).trans (hFq8286 384 1 rfl))))
                exact y_retU c137_145 ⟨rfl, hTq8338, hF8350, by omega, (by first | exact Or.inl (by omega) | exact Or.inr ⟨by omega, by omega, by omega, (hq8338.resolve_left (by omega)).2.2.2⟩ | (by_cases hq : 0 ≤ mq8338 376 8 <;> first | exact Or.inl (by omega) | exact Or.inr ⟨by omega, by omega, by omega, (hq8338.resolve_left (by omega)).2.2.2⟩))⟩
            · have es8361 : mq8305 376 1 = m 376 1 := ((hFq8305 376 1 rfl).trans ((hFq8297 376 1 rfl).trans (hFq8286 376 1 rfl)))
              have tb8362 := hTq8305.atp 376 3 0 3 rfl
              have tb8363 := hTq8305.atp 376 6 0 320 rfl
              have tb8364 := hTq8305.atp 376 8 ((-1)) 320 rfl
              exact y_retU c137_114 ⟨rfl, hTq8305, hF8309, by omega, Or.inl (by omega)⟩
          · refine y_aload 79 c137_78 rfl rfl rfl ?_
            refine y_iconst 80 c137_79 rfl ?_
            refine y_iload 81 c137_80 rfl rfl ?_
            refine y_iload 82 c137_81 rfl rfl ?_
            refine y_iconst 83 c137_82 rfl ?_
            have es8366 : mq8286 376 1 = m 376 1 := (hFq8286 376 1 rfl)
            have tb8367 := hTq8286.atp 376 6 0 320 rfl
            have es8368 : mq8286 376 18 = m 376 18 := (hFq8286 376 18 rfl)
            have es8369 : mq8286 390 1 = m 390 1 := (hFq8286 390 1 rfl)
            have es8370 : mq8286 386 1 = m 386 1 := (hFq8286 386 1 rfl)
            have es8371 : mq8286 387 1 = m 387 1 := (hFq8286 387 1 rfl)
            have es8372 : mq8286 388 1 = m 388 1 := (hFq8286 388 1 rfl)
            have es8373 : mq8286 376 17 = m 376 17 := (hFq8286 376 17 rfl)
            have tb8374 := hT.atp 376 17 0 20 rfl
            have es8375 : mq8286 384 1 = m 384 1 := (hFq8286 384 1 rfl)
            refine y_callIB 86 [.ref 376, yI 2, yI v, yI rq8286, yI 0] [] c137_83 rfl rfl rfl rfl rfl (ycanO km127 ko376) (t127_1 hTq8286 (by omega) (by omega) (by omega) (by omega) (by omega) (by omega)) (fun rq8365 mq8365 nq8365 hq8365 => ?_)
            obtain ⟨rfl, hTq8365, hFq8365, hq8365, hE⟩ := hq8365
            unfold EM at hE
            rw [show mq8286 390 1 = m 390 1 from (hFq8286 390 1 rfl)] at hE
            obtain ⟨k1, k2, k3, k4, k5, k6, k7⟩ := hE
            have k8 : ∀ q, q < 1000 * 1 + 8 * (m 390 1).toNat ∨ 1000 * 1 + 8 * (m 390 1).toNat + 8 ≤ q → mq8365 403 q = m 403 q := fun q hq => (k7 q hq).trans ((hFq8286 403 q rfl))
            have x1q8365 : mq8365 376 1 = m 376 1 := ((hFq8365 376 1 rfl).trans (hFq8286 376 1 rfl))
            have hF8376 := hF8291.tr hFq8365 wEm1_wSt1
            refine y_istore 87 c137_86 rfl rfl ?_
            have es8377 : mq8365 376 1 = m 376 1 := ((hFq8365 376 1 rfl).trans (hFq8286 376 1 rfl))
            have es8378 : mq8365 376 3 = mq8286 376 3 := (hFq8365 376 3 rfl)
            have es8379 : mq8365 376 6 = mq8286 376 6 := (hFq8365 376 6 rfl)
            have es8380 : mq8365 376 8 = mq8286 376 8 := (hFq8365 376 8 rfl)
            have tb8381 := hTq8365.atp 390 1 0 125 rfl
            have es8382 : mq8365 386 1 = m 386 1 := ((hFq8365 386 1 rfl).trans (hFq8286 386 1 rfl))
            have es8383 : mq8365 387 1 = m 387 1 := ((hFq8365 387 1 rfl).trans (hFq8286 387 1 rfl))
            have es8384 : mq8365 388 1 = m 388 1 := ((hFq8365 388 1 rfl).trans (hFq8286 388 1 rfl))
            have es8385 : mq8365 376 17 = m 376 17 := ((hFq8365 376 17 rfl).trans (hFq8286 376 17 rfl))
            have es8386 : mq8365 384 1 = m 384 1 := ((hFq8365 384 1 rfl).trans (hFq8286 384 1 rfl))
            have em8387 : mu mq8365 = mu mq8286 := mu_fr (hFq8365 376 1 rfl) (hFq8365 376 3 rfl) (hFq8365 376 6 rfl)
            have f0 : mq8365 403 (1000 * 1 + 8 * (m 390 1).toNat) = _ := k2
            have f1 : mq8365 403 (1000 * 1 + 8 * (m 390 1).toNat + 1) = _ := k3
            have f2 : mq8365 403 (1000 * 1 + 8 * (m 390 1).toNat + 2) = _ := k4
            have f3 : mq8365 403 (1000 * 1 + 8 * (m 390 1).toNat + 3) = _ := k5
            have f4 : mq8365 403 (1000 * 1 + 8 * (m 390 1).toNat + 4) = _ := k6
            have hw : OW mq8365 (1000 * 1 + 8 * (m 390 1).toNat) := by unfold OW; omega
            have hx : XS 1 mq8365 := XS.add hX (by omega) (fun a q ha => hF8376 a q (wSt1_Y a q ha)) (fun q hq => k8 q hq) hw (by omega) (by omega) (by omega) (by omega) (by omega) (by omega) (by omega) (fun c hc => by rw [show mq8365 401 (8 * 1 + c) = m 401 (8 * 1 + c) from ((hFq8365 401 _ rfl).trans (hFq8286 401 _ rfl))]; exact hCV c (by omega)) (by omega) (by omega)
            exact y_retU c137_87 ⟨rfl, hTq8365, hF8376, by omega, by first | exact Or.inl (by omega) | exact Or.inr ⟨by omega, by omega, by omega, hx⟩⟩
        · have es8388 : mq8286 376 1 = m 376 1 := (hFq8286 376 1 rfl)
          have tb8389 := hTq8286.atp 376 3 0 3 rfl
          have tb8390 := hTq8286.atp 376 6 0 320 rfl
          exact y_retU c137_68 ⟨rfl, hTq8286, hF8291, by omega, Or.inl (by omega)⟩
      · refine y_aload 49 c137_48 rfl rfl rfl ?_
        refine y_iload 50 c137_49 rfl rfl ?_
        have tb8392 := hT.atp 376 1 0 320 rfl
        have tb8393 := hT.atp 376 6 0 320 rfl
        have tb8394 := hT.atp 376 8 ((-1)) 320 rfl
        have tb8395 := hT.atp 376 18 0 1 rfl
        have tb8396 := hT.atp 376 17 0 20 rfl
        refine y_callUB 53 [.ref 376, yI v] [] c137_50 rfl rfl rfl rfl rfl (ycanO km136 ko376) (t136_1 hT (by omega) (by omega) (by omega) hX (by omega) (by omega) (by omega)) (fun mq8391 nq8391 hq8391 => ?_)
        obtain ⟨rfl, hTq8391, hFq8391, hlq8391, hq8391⟩ := hq8391
        have hAq8391 : 0 ≤ mq8391 376 8 ∨ (mq8391 376 8 < 0 ∧ mu mq8391 ≤ mu m ∧ mq8391 390 1 = m 390 1 + 1) := by rcases hq8391 with q | q; exact Or.inl q; exact Or.inr ⟨q.1, by omega, by omega⟩
        have x1q8391 : mq8391 376 1 = m 376 1 := (hFq8391 376 1 rfl)
        have hF8397 := hF.tr hFq8391 (fun _ _ e => e)
        refine y_goto 145 c137_53 rfl ?_
        have es8398 : mq8391 376 1 = m 376 1 := (hFq8391 376 1 rfl)
        have tb8399 := hTq8391.atp 376 3 0 3 rfl
        have tb8400 := hTq8391.atp 376 6 0 320 rfl
        have tb8401 := hTq8391.atp 376 8 ((-1)) 320 rfl
        have tb8402 := hTq8391.atp 390 1 0 125 rfl
        have tb8403 := hTq8391.atp 386 1 0 12 rfl
        have tb8404 := hTq8391.atp 387 1 0 8 rfl
        have tb8405 := hTq8391.atp 388 1 0 12 rfl
        have tb8406 := hTq8391.atp 376 17 0 20 rfl
        have es8407 : mq8391 384 1 = m 384 1 := (hFq8391 384 1 rfl)
        exact y_retU c137_145 ⟨rfl, hTq8391, hF8397, by omega, (by first | exact Or.inl (by omega) | exact Or.inr ⟨by omega, by omega, by omega, (hq8391.resolve_left (by omega)).2.2.2⟩ | (by_cases hq : 0 ≤ mq8391 376 8 <;> first | exact Or.inl (by omega) | exact Or.inr ⟨by omega, by omega, by omega, (hq8391.resolve_left (by omega)).2.2.2⟩))⟩
    · refine y_aload 23 c137_22 rfl rfl rfl ?_
      have tb8409 := hT.atp 376 1 0 320 rfl
      have tb8410 := hT.atp 376 6 0 320 rfl
      have tb8411 := hT.atp 376 8 ((-1)) 320 rfl
      refine y_callUB 26 [.ref 376] [] c137_23 rfl rfl rfl rfl rfl (ycanO km99 ko376) (t99u hT (by omega)) (fun mq8408 nq8408 hq8408 => ?_)
      obtain ⟨rfl, hTq8408, hFq8408, hq8408⟩ := hq8408
      have x1q8408 : mq8408 376 1 = m 376 1 := (hFq8408 376 1 rfl)
      have hF8412 := hF.tr hFq8408 wNx_wSt1
      refine y_aload 27 c137_26 rfl rfl rfl ?_
      refine y_iconst 29 c137_27 rfl ?_
      refine y_iload 30 c137_29 rfl rfl ?_
      refine y_iconst 31 c137_30 rfl ?_
      refine y_iconst 32 c137_31 rfl ?_
      have es8414 : mq8408 376 1 = m 376 1 := (hFq8408 376 1 rfl)
      have tb8415 := hTq8408.atp 376 3 0 3 rfl
      have tb8416 := hTq8408.atp 376 6 0 320 rfl
      have es8417 : mq8408 376 8 = m 376 8 := (hFq8408 376 8 rfl)
      have es8418 : mq8408 376 18 = m 376 18 := (hFq8408 376 18 rfl)
      have tb8419 := hT.atp 376 18 0 1 rfl
      have es8420 : mq8408 390 1 = m 390 1 := (hFq8408 390 1 rfl)
      have es8421 : mq8408 386 1 = m 386 1 := (hFq8408 386 1 rfl)
      have es8422 : mq8408 387 1 = m 387 1 := (hFq8408 387 1 rfl)
      have es8423 : mq8408 388 1 = m 388 1 := (hFq8408 388 1 rfl)
      have es8424 : mq8408 376 17 = m 376 17 := (hFq8408 376 17 rfl)
      have tb8425 := hT.atp 376 17 0 20 rfl
      have es8426 : mq8408 384 1 = m 384 1 := (hFq8408 384 1 rfl)
      refine y_callIB 35 [.ref 376, yI 8, yI v, yI 0, yI 0] [] c137_32 rfl rfl rfl rfl rfl (ycanO km127 ko376) (t127_1 hTq8408 (by omega) (by omega) (by omega) (by omega) (by omega) (by omega)) (fun rq8413 mq8413 nq8413 hq8413 => ?_)
      obtain ⟨rfl, hTq8413, hFq8413, hq8413, hE⟩ := hq8413
      unfold EM at hE
      rw [show mq8408 390 1 = m 390 1 from (hFq8408 390 1 rfl)] at hE
      obtain ⟨k1, k2, k3, k4, k5, k6, k7⟩ := hE
      have k8 : ∀ q, q < 1000 * 1 + 8 * (m 390 1).toNat ∨ 1000 * 1 + 8 * (m 390 1).toNat + 8 ≤ q → mq8413 403 q = m 403 q := fun q hq => (k7 q hq).trans ((hFq8408 403 q rfl))
      have x1q8413 : mq8413 376 1 = m 376 1 := ((hFq8413 376 1 rfl).trans (hFq8408 376 1 rfl))
      have hF8427 := hF8412.tr hFq8413 wEm1_wSt1
      refine y_istore 36 c137_35 rfl rfl ?_
      refine y_goto 145 c137_36 rfl ?_
      have es8428 : mq8413 376 1 = m 376 1 := ((hFq8413 376 1 rfl).trans (hFq8408 376 1 rfl))
      have es8429 : mq8413 376 3 = mq8408 376 3 := (hFq8413 376 3 rfl)
      have es8430 : mq8413 376 6 = mq8408 376 6 := (hFq8413 376 6 rfl)
      have es8431 : mq8413 376 8 = m 376 8 := ((hFq8413 376 8 rfl).trans (hFq8408 376 8 rfl))
      have tb8432 := hTq8413.atp 390 1 0 125 rfl
      have es8433 : mq8413 386 1 = m 386 1 := ((hFq8413 386 1 rfl).trans (hFq8408 386 1 rfl))
      have es8434 : mq8413 387 1 = m 387 1 := ((hFq8413 387 1 rfl).trans (hFq8408 387 1 rfl))
      have es8435 : mq8413 388 1 = m 388 1 := ((hFq8413 388 1 rfl).trans (hFq8408 388 1 rfl))
      have es8436 : mq8413 376 17 = m 376 17 := ((hFq8413 376 17 rfl).trans (hFq8408 376 17 rfl))
      have es8437 : mq8413 384 1 = m 384 1 := ((hFq8413 384 1 rfl).trans (hFq8408 384 1 rfl))
      have em8438 : mu mq8413 = mu mq8408 := mu_fr (hFq8413 376 1 rfl) (hFq8413 376 3 rfl) (hFq8413 376 6 rfl)
      have f0 : mq8413 403 (1000 * 1 + 8 * (m 390 1).toNat) = _ := k2
      have f1 : mq8413 403 (1000 * 1 + 8 * (m 390 1).toNat + 1) = _ := k3
      have f2 : mq8413 403 (1000 * 1 + 8 * (m 390 1).toNat + 2) = _ := k4
      have f3 : mq8413 403 (1000 * 1 + 8 * (m 390 1).toNat + 3) = _ := k5
      have f4 : mq8413 403 (1000 * 1 + 8 * (m 390 1).toNat + 4) = _ := k6
      have hw : OW mq8413 (1000 * 1 + 8 * (m 390 1).toNat) := by unfold OW; omega
      have hx : XS 1 mq8413 := XS.add hX (by omega) (fun a q ha => hF8427 a q (wSt1_Y a q ha)) (fun q hq => k8 q hq) hw (by omega) (by omega) (by omega) (by omega) (by omega) (by omega) (by omega) (fun c hc => by rw [show mq8413 401 (8 * 1 + c) = m 401 (8 * 1 + c) from ((hFq8413 401 _ rfl).trans (hFq8408 401 _ rfl))]; exact hCV c (by omega)) (by omega) (by omega)
      exact y_retU c137_145 ⟨rfl, hTq8413, hF8427, by omega, by first | exact Or.inl (by omega) | exact Or.inr ⟨by omega, by omega, by omega, hx⟩⟩
  · refine y_aload 8 c137_7 rfl rfl rfl ?_
    refine y_iload 9 c137_8 rfl rfl ?_
    have tb8440 := hT.atp 376 1 0 320 rfl
    have tb8441 := hT.atp 376 6 0 320 rfl
    have tb8442 := hT.atp 376 8 ((-1)) 320 rfl
    have tb8443 := hT.atp 376 18 0 1 rfl
    have tb8444 := hT.atp 376 17 0 20 rfl
    refine y_callUB 12 [.ref 376, yI v] [] c137_9 rfl rfl rfl rfl rfl (ycanO km135 ko376) (t135_1 hT (by omega) (by omega) (by omega) hX (by omega) (by omega) (by omega)) (fun mq8439 nq8439 hq8439 => ?_)
    obtain ⟨rfl, hTq8439, hFq8439, hlq8439, hq8439⟩ := hq8439
    have hAq8439 : 0 ≤ mq8439 376 8 ∨ (mq8439 376 8 < 0 ∧ mu mq8439 ≤ mu m ∧ mq8439 390 1 = m 390 1 + 1) := by rcases hq8439 with q | q; exact Or.inl q; exact Or.inr ⟨q.1, by omega, by omega⟩
    have x1q8439 : mq8439 376 1 = m 376 1 := (hFq8439 376 1 rfl)
    have hF8445 := hF.tr hFq8439 (fun _ _ e => e)
    refine y_goto 145 c137_12 rfl ?_
    have es8446 : mq8439 376 1 = m 376 1 := (hFq8439 376 1 rfl)
    have tb8447 := hTq8439.atp 376 3 0 3 rfl
    have tb8448 := hTq8439.atp 376 6 0 320 rfl
    have tb8449 := hTq8439.atp 376 8 ((-1)) 320 rfl
    have tb8450 := hTq8439.atp 390 1 0 125 rfl
    have tb8451 := hTq8439.atp 386 1 0 12 rfl
    have tb8452 := hTq8439.atp 387 1 0 8 rfl
    have tb8453 := hTq8439.atp 388 1 0 12 rfl
    have tb8454 := hTq8439.atp 376 17 0 20 rfl
    have es8455 : mq8439 384 1 = m 384 1 := (hFq8439 384 1 rfl)
    exact y_retU c137_145 ⟨rfl, hTq8439, hF8445, by omega, (by first | exact Or.inl (by omega) | exact Or.inr ⟨by omega, by omega, by omega, (hq8439.resolve_left (by omega)).2.2.2⟩ | (by_cases hq : 0 ≤ mq8439 376 8 <;> first | exact Or.inl (by omega) | exact Or.inr ⟨by omega, by omega, by omega, (hq8439.resolve_left (by omega)).2.2.2⟩))⟩
set_option maxRecDepth 100000 in
theorem t133_1 {L : Nat} {xs : Nat → Int32} {d nn : Nat} {m : yM} {v : Int} (hT : Ty gT m) (hl : m 376 6 ≤ m 376 1) (hn : m 376 18 = 0) (h8 : m 376 8 < 0) (hX : XS 1 m) (h84 : 1 ≤ m 384 1) (h90 : m 390 1 ≤ 100) (hv : 0 ≤ v ∧ v ≤ 47) : YC (gZ L xs) (d + 6) 133 [.ref 376, yI v] m nn (qU (fun m' n' => n' = nn ∧ Ty gT m' ∧ Fr wSt1 m m' ∧ m' 376 6 ≤ m' 376 1 ∧ (0 ≤ m' 376 8 ∨ (m' 376 8 < 0 ∧ mu m' ≤ mu m ∧ m' 390 1 = m 390 1 + 1 ∧ XS 1 m')))) := by
  have tb8 := hT.atp 376 8 (-1) 320 rfl
  have tc384 := hT.atp 384 1 0 10 rfl
  have tc386 := hT.atp 386 1 0 12 rfl
  have tc387 := hT.atp 387 1 0 8 rfl
  have tc388 := hT.atp 388 1 0 12 rfl
  have tc389 := hT.atp 389 1 0 48 rfl
  have tc390 := hT.atp 390 1 0 125 rfl
  have hsc := hX.2.2.2.2.2
  have hCV := hX.2.2.2.2.2.2.2.1
  refine YC.mkB [some (.ref 376), some (yI v), none, none, none] kn133 rfl rfl ?_
  have hF : Fr wSt1 m m := Fr.rf
  refine y_aload 1 c133_0 rfl rfl rfl ?_
  have tb8457 := hT.atp 376 1 0 320 rfl
  have tb8458 := hT.atp 376 3 0 3 rfl
  have tb8459 := hT.atp 376 6 0 320 rfl
  have tb8460 := hT.atp 376 8 ((-1)) 320 rfl
  refine y_callUB 4 [.ref 376] [] c133_1 rfl rfl rfl rfl rfl (ycanO km99 ko376) (t99u hT (by omega)) (fun mq8456 nq8456 hq8456 => ?_)
  obtain ⟨rfl, hTq8456, hFq8456, hq8456⟩ := hq8456
  have x1q8456 : mq8456 376 1 = m 376 1 := (hFq8456 376 1 rfl)
  have hF8461 := hF.tr hFq8456 wNx_wSt1
  refine y_aload 5 c133_4 rfl rfl rfl ?_
  refine y_getX 8 (mq8456 376 4) c133_5 rfl kf376_4 rfl ?_
  have tb8462 := hTq8456.atp 376 4 ((-2147483648)) 2147483647 rfl
  refine y_istore 9 c133_8 rfl rfl ?_
  refine y_aload 10 c133_9 rfl rfl rfl ?_
  refine y_getX 13 (mq8456 376 5) c133_10 rfl kf376_5 rfl ?_
  have tb8463 := hTq8456.atp 376 5 0 320 rfl
  refine y_istore 14 c133_13 rfl rfl ?_
  refine y_aload 15 c133_14 rfl rfl rfl ?_
  refine y_aload 16 c133_15 rfl rfl rfl ?_
  have tb8464 := hTq8456.atp 376 3 0 3 rfl
  refine y_callP 19 [.ref 376] [.ref 376] c133_16 rfl rfl rfl rfl rfl (ycanO km115 ko376) (t115 hTq8456) (fun r8465 hr8465 => ?_)
  have es8467 : mq8456 376 1 = m 376 1 := (hFq8456 376 1 rfl)
  have tb8468 := hTq8456.atp 376 6 0 320 rfl
  have es8469 : mq8456 376 8 = m 376 8 := (hFq8456 376 8 rfl)
  refine y_callIB 22 [.ref 376, yI r8465] [] c133_19 rfl rfl rfl rfl rfl (ycanO km105 ko376) (t105 (g := r8465) hTq8456 (by omega) (by omega)) (fun rq8466 mq8466 nq8466 hq8466 => ?_)
  obtain ⟨rfl, hTq8466, hFq8466, hq8466⟩ := hq8466
  have x1q8466 : mq8466 376 1 = m 376 1 := ((hFq8466 376 1 rfl).trans (hFq8456 376 1 rfl))
  have hF8470 := hF8461.tr hFq8466 wNw_wSt1
  refine y_if 26 25 c133_22 rfl rfl (yz_ne (by omega)) (fun hb8471 => ?_) (fun hb8471 => ?_)
  · refine y_aload 27 c133_26 rfl rfl rfl ?_
    refine y_iconst 29 c133_27 rfl ?_
    have tb8472 := hTq8466.atp 376 3 0 3 rfl
    refine y_callP 32 [.ref 376, yI 40] [] c133_29 rfl rfl rfl rfl rfl (ycanO km117 ko376) (t117 hTq8466 (by omega)) (fun r8473 hr8473 => ?_)
    refine y_if 44 35 c133_32 rfl rfl (yz_eq (by omega)) (fun hb8474 => ?_) (fun hb8474 => ?_)
    · refine y_aload 45 c133_44 rfl rfl rfl ?_
      refine y_iconst 47 c133_45 rfl ?_
      have es8476 : mq8466 376 1 = m 376 1 := ((hFq8466 376 1 rfl).trans (hFq8456 376 1 rfl))
      have tb8477 := hTq8466.atp 376 6 0 320 rfl
      have tb8478 := hTq8466.atp 376 8 ((-1)) 320 rfl
      refine y_callIB 50 [.ref 376, yI 61] [] c133_47 rfl rfl rfl rfl rfl (ycanO km118 ko376) (t118 hTq8466 (by omega) (by omega)) (fun rq8475 mq8475 nq8475 hq8475 => ?_)
      obtain ⟨rfl, hTq8475, hFq8475, hq8475⟩ := hq8475
      have x1q8475 : mq8475 376 1 = m 376 1 := ((hFq8475 376 1 rfl).trans ((hFq8466 376 1 rfl).trans (hFq8456 376 1 rfl)))
      have hF8479 := hF8470.tr hFq8475 wNw_wSt1
      refine y_if 54 53 c133_50 rfl rfl (yz_ne (by omega)) (fun hb8480 => ?_) (fun hb8480 => ?_)
      · refine y_aload 55 c133_54 rfl rfl rfl ?_
        have es8482 : mq8475 376 1 = m 376 1 := ((hFq8475 376 1 rfl).trans ((hFq8466 376 1 rfl).trans (hFq8456 376 1 rfl)))
        have tb8483 := hTq8475.atp 376 3 0 3 rfl
        have tb8484 := hTq8475.atp 376 6 0 320 rfl
        have tb8485 := hTq8475.atp 376 8 ((-1)) 320 rfl
        have es8486 : mq8475 376 18 = m 376 18 := ((hFq8475 376 18 rfl).trans ((hFq8466 376 18 rfl).trans (hFq8456 376 18 rfl)))
        have tb8487 := hT.atp 376 18 0 1 rfl
        refine y_callIB 58 [.ref 376] [] c133_55 rfl rfl rfl rfl rfl (ycanO km130 ko376) (t130_1 hTq8475 (by omega) (by omega) (by omega)) (fun rq8481 mq8481 nq8481 hq8481 => ?_)
        obtain ⟨rfl, hTq8481, hFq8481, hq8481⟩ := hq8481
        have x1q8481 : mq8481 376 1 = m 376 1 := ((hFq8481 376 1 rfl).trans ((hFq8475 376 1 rfl).trans ((hFq8466 376 1 rfl).trans (hFq8456 376 1 rfl))))
        have hF8488 := hF8479.tr hFq8481 wVr1_wSt1
        refine y_istore 60 c133_58 rfl rfl ?_
        refine y_aload 61 c133_60 rfl rfl rfl ?_
        refine y_getX 64 (mq8481 376 8) c133_61 rfl kf376_8 rfl ?_
        have tb8489 := hTq8481.atp 376 8 ((-1)) 320 rfl
        refine y_if 78 67 c133_64 rfl rfl (yz_ge (by omega)) (fun hb8490 => ?_) (fun hb8490 => ?_)
        · have es8491 : mq8481 376 1 = m 376 1 := ((hFq8481 376 1 rfl).trans ((hFq8475 376 1 rfl).trans ((hFq8466 376 1 rfl).trans (hFq8456 376 1 rfl))))
          have tb8492 := hTq8481.atp 376 3 0 3 rfl
          have tb8493 := hTq8481.atp 376 6 0 320 rfl
          exact y_retU c133_78 ⟨rfl, hTq8481, hF8488, by omega, Or.inl (by omega)⟩
        · refine y_aload 68 c133_67 rfl rfl rfl ?_
          refine y_iconst 69 c133_68 rfl ?_
          refine y_iload 70 c133_69 rfl rfl ?_
          refine y_iload 72 c133_70 rfl rfl ?_
          refine y_iload 73 c133_72 rfl rfl ?_
          have es8495 : mq8481 376 1 = m 376 1 := ((hFq8481 376 1 rfl).trans ((hFq8475 376 1 rfl).trans ((hFq8466 376 1 rfl).trans (hFq8456 376 1 rfl))))
          have tb8496 := hTq8481.atp 376 3 0 3 rfl
          have tb8497 := hTq8481.atp 376 6 0 320 rfl
          have es8498 : mq8481 376 18 = m 376 18 := ((hFq8481 376 18 rfl).trans ((hFq8475 376 18 rfl).trans ((hFq8466 376 18 rfl).trans (hFq8456 376 18 rfl))))
          have es8499 : mq8481 390 1 = m 390 1 := ((hFq8481 390 1 rfl).trans ((hFq8475 390 1 rfl).trans ((hFq8466 390 1 rfl).trans (hFq8456 390 1 rfl))))
          have es8500 : mq8481 386 1 = m 386 1 := ((hFq8481 386 1 rfl).trans ((hFq8475 386 1 rfl).trans ((hFq8466 386 1 rfl).trans (hFq8456 386 1 rfl))))
          have es8501 : mq8481 387 1 = m 387 1 := ((hFq8481 387 1 rfl).trans ((hFq8475 387 1 rfl).trans ((hFq8466 387 1 rfl).trans (hFq8456 387 1 rfl))))
          have es8502 : mq8481 388 1 = m 388 1 := ((hFq8481 388 1 rfl).trans ((hFq8475 388 1 rfl).trans ((hFq8466 388 1 rfl).trans (hFq8456 388 1 rfl))))
          have es8503 : mq8481 376 17 = m 376 17 := ((hFq8481 376 17 rfl).trans ((hFq8475 376 17 rfl).trans ((hFq8466 376 17 rfl).trans (hFq8456 376 17 rfl))))
          have tb8504 := hT.atp 376 17 0 20 rfl
          have es8505 : mq8481 384 1 = m 384 1 := ((hFq8481 384 1 rfl).trans ((hFq8475 384 1 rfl).trans ((hFq8466 384 1 rfl).trans (hFq8456 384 1 rfl))))
          refine y_callIB 76 [.ref 376, yI 5, yI v, yI rq8481, yI (mq8456 376 4)] [] c133_73 rfl rfl rfl rfl rfl (ycanO km127 ko376) (t127_1 hTq8481 (by omega) (by omega) (by omega) (by omega) (by omega) (by omega)) (fun rq8494 mq8494 nq8494 hq8494 => ?_)
          obtain ⟨rfl, hTq8494, hFq8494, hq8494, hE⟩ := hq8494
          unfold EM at hE
          rw [show mq8481 390 1 = m 390 1 from ((hFq8481 390 1 rfl).trans ((hFq8475 390 1 rfl).trans ((hFq8466 390 1 rfl).trans (hFq8456 390 1 rfl))))] at hE
          obtain ⟨k1, k2, k3, k4, k5, k6, k7⟩ := hE
          have k8 : ∀ q, q < 1000 * 1 + 8 * (m 390 1).toNat ∨ 1000 * 1 + 8 * (m 390 1).toNat + 8 ≤ q → mq8494 403 q = m 403 q := fun q hq => (k7 q hq).trans (((hFq8481 403 q rfl).trans ((hFq8475 403 q rfl).trans ((hFq8466 403 q rfl).trans (hFq8456 403 q rfl)))))
          have x1q8494 : mq8494 376 1 = m 376 1 := ((hFq8494 376 1 rfl).trans ((hFq8481 376 1 rfl).trans ((hFq8475 376 1 rfl).trans ((hFq8466 376 1 rfl).trans (hFq8456 376 1 rfl)))))
          have hF8506 := hF8488.tr hFq8494 wEm1_wSt1
          refine y_istore 78 c133_76 rfl rfl ?_
          have es8507 : mq8494 376 1 = m 376 1 := ((hFq8494 376 1 rfl).trans ((hFq8481 376 1 rfl).trans ((hFq8475 376 1 rfl).trans ((hFq8466 376 1 rfl).trans (hFq8456 376 1 rfl)))))
          have es8508 : mq8494 376 3 = mq8481 376 3 := (hFq8494 376 3 rfl)
          have es8509 : mq8494 376 6 = mq8481 376 6 := (hFq8494 376 6 rfl)
          have es8510 : mq8494 376 8 = mq8481 376 8 := (hFq8494 376 8 rfl)
          have tb8511 := hTq8494.atp 390 1 0 125 rfl
          have es8512 : mq8494 386 1 = m 386 1 := ((hFq8494 386 1 rfl).trans ((hFq8481 386 1 rfl).trans ((hFq8475 386 1 rfl).trans ((hFq8466 386 1 rfl).trans (hFq8456 386 1 rfl)))))
          have es8513 : mq8494 387 1 = m 387 1 := ((hFq8494 387 1 rfl).trans ((hFq8481 387 1 rfl).trans ((hFq8475 387 1 rfl).trans ((hFq8466 387 1 rfl).trans (hFq8456 387 1 rfl)))))
          have es8514 : mq8494 388 1 = m 388 1 := ((hFq8494 388 1 rfl).trans ((hFq8481 388 1 rfl).trans ((hFq8475 388 1 rfl).trans ((hFq8466 388 1 rfl).trans (hFq8456 388 1 rfl)))))
          have es8515 : mq8494 376 17 = m 376 17 := ((hFq8494 376 17 rfl).trans ((hFq8481 376 17 rfl).trans ((hFq8475 376 17 rfl).trans ((hFq8466 376 17 rfl).trans (hFq8456 376 17 rfl)))))
          have es8516 : mq8494 384 1 = m 384 1 := ((hFq8494 384 1 rfl).trans ((hFq8481 384 1 rfl).trans ((hFq8475 384 1 rfl).trans ((hFq8466 384 1 rfl).trans (hFq8456 384 1 rfl)))))
          have em8517 : mu mq8494 = mu mq8481 := mu_fr (hFq8494 376 1 rfl) (hFq8494 376 3 rfl) (hFq8494 376 6 rfl)
          have f0 : mq8494 403 (1000 * 1 + 8 * (m 390 1).toNat) = _ := k2
          have f1 : mq8494 403 (1000 * 1 + 8 * (m 390 1).toNat + 1) = _ := k3
          have f2 : mq8494 403 (1000 * 1 + 8 * (m 390 1).toNat + 2) = _ := k4
          have f3 : mq8494 403 (1000 * 1 + 8 * (m 390 1).toNat + 3) = _ := k5
          have f4 : mq8494 403 (1000 * 1 + 8 * (m 390 1).toNat + 4) = _ := k6
          have hw : OW mq8494 (1000 * 1 + 8 * (m 390 1).toNat) := by unfold OW; omega
          have hx : XS 1 mq8494 := XS.add hX (by omega) (fun a q ha => hF8506 a q (wSt1_Y a q ha)) (fun q hq => k8 q hq) hw (by omega) (by omega) (by omega) (by omega) (by omega) (by omega) (by omega) (fun c hc => by rw [show mq8494 401 (8 * 1 + c) = m 401 (8 * 1 + c) from ((hFq8494 401 _ rfl).trans ((hFq8481 401 _ rfl).trans ((hFq8475 401 _ rfl).trans ((hFq8466 401 _ rfl).trans (hFq8456 401 _ rfl)))))]; exact hCV c (by omega)) (by omega) (by omega)
          exact y_retU c133_78 ⟨rfl, hTq8494, hF8506, by omega, by first | exact Or.inl (by omega) | exact Or.inr ⟨by omega, by omega, by omega, hx⟩⟩
      · have es8518 : mq8475 376 1 = m 376 1 := ((hFq8475 376 1 rfl).trans ((hFq8466 376 1 rfl).trans (hFq8456 376 1 rfl)))
        have tb8519 := hTq8475.atp 376 3 0 3 rfl
        have tb8520 := hTq8475.atp 376 6 0 320 rfl
        have tb8521 := hTq8475.atp 376 8 ((-1)) 320 rfl
        exact y_retU c133_53 ⟨rfl, hTq8475, hF8479, by omega, Or.inl (by omega)⟩
    · refine y_aload 36 c133_35 rfl rfl rfl ?_
      refine y_iconst 37 c133_36 rfl ?_
      refine y_iload 38 c133_37 rfl rfl ?_
      refine y_iload 39 c133_38 rfl rfl ?_
      refine y_iload 40 c133_39 rfl rfl ?_
      have es8523 : mq8466 376 1 = m 376 1 := ((hFq8466 376 1 rfl).trans (hFq8456 376 1 rfl))
      have tb8524 := hTq8466.atp 376 6 0 320 rfl
      have tb8525 := hTq8466.atp 376 8 ((-1)) 320 rfl
      have es8526 : mq8466 376 18 = m 376 18 := ((hFq8466 376 18 rfl).trans (hFq8456 376 18 rfl))
      have tb8527 := hT.atp 376 18 0 1 rfl
      have es8528 : mq8466 390 1 = m 390 1 := ((hFq8466 390 1 rfl).trans (hFq8456 390 1 rfl))
      have es8529 : mq8466 386 1 = m 386 1 := ((hFq8466 386 1 rfl).trans (hFq8456 386 1 rfl))
      have es8530 : mq8466 387 1 = m 387 1 := ((hFq8466 387 1 rfl).trans (hFq8456 387 1 rfl))
      have es8531 : mq8466 388 1 = m 388 1 := ((hFq8466 388 1 rfl).trans (hFq8456 388 1 rfl))
      have es8532 : mq8466 376 17 = m 376 17 := ((hFq8466 376 17 rfl).trans (hFq8456 376 17 rfl))
      have tb8533 := hT.atp 376 17 0 20 rfl
      have es8534 : mq8466 384 1 = m 384 1 := ((hFq8466 384 1 rfl).trans (hFq8456 384 1 rfl))
      refine y_callUB 43 [.ref 376, yI ((-1)), yI v, yI (mq8456 376 4), yI (mq8456 376 5)] [] c133_40 rfl rfl rfl rfl rfl (ycanO km132 ko376) (t132_1 hTq8466 (by omega) (by omega) (by omega) ((hX.fw hFq8456 wNx_X).fw hFq8466 wNw_X) (by omega) (by omega) (by omega) (by omega) (by omega) (by omega)) (fun mq8522 nq8522 hq8522 => ?_)
      obtain ⟨rfl, hTq8522, hFq8522, hlq8522, hq8522⟩ := hq8522
      have hAq8522 : 0 ≤ mq8522 376 8 ∨ (mq8522 376 8 < 0 ∧ mu mq8522 ≤ mu mq8466 ∧ mq8522 390 1 = m 390 1 + 1) := by rcases hq8522 with q | q; exact Or.inl q; exact Or.inr ⟨q.1, by omega, by omega⟩
      have x1q8522 : mq8522 376 1 = m 376 1 := ((hFq8522 376 1 rfl).trans ((hFq8466 376 1 rfl).trans (hFq8456 376 1 rfl)))
      have hF8535 := hF8470.tr hFq8522 (fun _ _ e => e)
      have es8536 : mq8522 376 1 = m 376 1 := ((hFq8522 376 1 rfl).trans ((hFq8466 376 1 rfl).trans (hFq8456 376 1 rfl)))
      have tb8537 := hTq8522.atp 376 3 0 3 rfl
      have tb8538 := hTq8522.atp 376 6 0 320 rfl
      have tb8539 := hTq8522.atp 376 8 ((-1)) 320 rfl
      have tb8540 := hTq8522.atp 390 1 0 125 rfl
      have tb8541 := hTq8522.atp 386 1 0 12 rfl
      have tb8542 := hTq8522.atp 387 1 0 8 rfl
      have tb8543 := hTq8522.atp 388 1 0 12 rfl
      have tb8544 := hTq8522.atp 376 17 0 20 rfl
      have es8545 : mq8522 384 1 = m 384 1 := ((hFq8522 384 1 rfl).trans ((hFq8466 384 1 rfl).trans (hFq8456 384 1 rfl)))
      exact y_retU c133_43 ⟨rfl, hTq8522, hF8535, by omega, (by first | exact Or.inl (by omega) | exact Or.inr ⟨by omega, by omega, by omega, (hq8522.resolve_left (by omega)).2.2.2⟩ | (by_cases hq : 0 ≤ mq8522 376 8 <;> first | exact Or.inl (by omega) | exact Or.inr ⟨by omega, by omega, by omega, (hq8522.resolve_left (by omega)).2.2.2⟩))⟩
  · have es8546 : mq8466 376 1 = m 376 1 := ((hFq8466 376 1 rfl).trans (hFq8456 376 1 rfl))
    have tb8547 := hTq8466.atp 376 3 0 3 rfl
    have tb8548 := hTq8466.atp 376 6 0 320 rfl
    have tb8549 := hTq8466.atp 376 8 ((-1)) 320 rfl
    exact y_retU c133_25 ⟨rfl, hTq8466, hF8470, by omega, Or.inl (by omega)⟩
end
section
/-! CONTRACTS: the model, statements. Printed by wip/whole/gen97.py -/
set_option maxRecDepth 100000 in
theorem t138_0 {L : Nat} {xs : Nat → Int32} {d nn : Nat} {m : yM} (hT : Ty gT m) (hl : m 376 6 ≤ m 376 1) (hn : m 376 18 = 1) (h8 : m 376 8 < 0) (hX : XS 0 m) (h84 : 1 ≤ m 384 0) (h90 : m 390 0 ≤ 100) (h3 : m 376 3 ≠ 0) : YC (gZ L xs) (d + 7) 138 [.ref 376] m nn (qU (fun m' n' => n' = nn ∧ Ty gT m' ∧ Fr wSt0 m m' ∧ m' 376 6 ≤ m' 376 1 ∧ (0 ≤ m' 376 8 ∨ (m' 376 8 < 0 ∧ mu m' < mu m ∧ m' 390 0 = m 390 0 + 1 ∧ XS 0 m')))) := by
  have tb8 := hT.atp 376 8 (-1) 320 rfl
  have tc384 := hT.atp 384 0 0 10 rfl
  have tc386 := hT.atp 386 0 0 12 rfl
  have tc387 := hT.atp 387 0 0 8 rfl
  have tc388 := hT.atp 388 0 0 12 rfl
  have tc389 := hT.atp 389 0 0 48 rfl
  have tc390 := hT.atp 390 0 0 125 rfl
  have hsc := hX.2.2.2.2.2
  have hCV := hX.2.2.2.2.2.2.2.1
  refine YC.mkB [some (.ref 376), none, none] kn138 rfl rfl ?_
  have hF : Fr wSt0 m m := Fr.rf
  refine y_aload 1 c138_0 rfl rfl rfl ?_
  have tb7346 := hT.atp 376 3 0 3 rfl
  refine y_callP 4 [.ref 376] [] c138_1 rfl rfl rfl rfl rfl (ycanO km115 ko376) (t115 hT) (fun r7347 hr7347 => ?_)
  refine y_istore 5 c138_4 rfl rfl ?_
  refine y_aload 6 c138_5 rfl rfl rfl ?_
  refine y_callP 9 [.ref 376] [] c138_6 rfl rfl rfl rfl rfl (ycanO km113 ko376) (t113 hT) (fun r7348 hr7348 => ?_)
  refine y_if 41 12 c138_9 rfl rfl (yz_eq (by omega)) (fun hb7349 => ?_) (fun hb7349 => ?_)
  · refine y_aload 42 c138_41 rfl rfl rfl ?_
    have tb7351 := hT.atp 376 1 0 320 rfl
    have tb7352 := hT.atp 376 6 0 320 rfl
    have tb7353 := hT.atp 376 8 ((-1)) 320 rfl
    have tb7354 := hT.atp 376 18 0 1 rfl
    refine y_callIB 45 [.ref 376] [] c138_42 rfl rfl rfl rfl rfl (ycanO km130 ko376) (t130_0 hT (by omega) (by omega) (by omega)) (fun rq7350 mq7350 nq7350 hq7350 => ?_)
    obtain ⟨rfl, hTq7350, hFq7350, hq7350⟩ := hq7350
    have x1q7350 : mq7350 376 1 = m 376 1 := (hFq7350 376 1 rfl)
    have hF7355 := hF.tr hFq7350 wVr0_wSt0
    refine y_istore 46 c138_45 rfl rfl ?_
    refine y_aload 47 c138_46 rfl rfl rfl ?_
    refine y_getX 50 (mq7350 376 8) c138_47 rfl kf376_8 rfl ?_
    have tb7356 := hTq7350.atp 376 8 ((-1)) 320 rfl
    refine y_if 54 53 c138_50 rfl rfl (yz_lt (by omega)) (fun hb7357 => ?_) (fun hb7357 => ?_)
    · refine y_aload 55 c138_54 rfl rfl rfl ?_
      refine y_iconst 57 c138_55 rfl ?_
      have tb7358 := hTq7350.atp 376 3 0 3 rfl
      refine y_callP 60 [.ref 376, yI 46] [] c138_57 rfl rfl rfl rfl rfl (ycanO km117 ko376) (t117 hTq7350 (by omega)) (fun r7359 hr7359 => ?_)
      refine y_if 71 63 c138_60 rfl rfl (yz_eq (by omega)) (fun hb7360 => ?_) (fun hb7360 => ?_)
      · refine y_aload 72 c138_71 rfl rfl rfl ?_
        refine y_iload 73 c138_72 rfl rfl ?_
        refine y_if 89 76 c138_73 rfl rfl (yz_eq (by omega)) (fun hb7361 => ?_) (fun hb7361 => ?_)
        · refine y_iconst 90 c138_89 rfl ?_
          have es7363 : mq7350 376 1 = m 376 1 := (hFq7350 376 1 rfl)
          have tb7364 := hTq7350.atp 376 6 0 320 rfl
          refine y_callIB 93 [.ref 376, yI 0] [] c138_90 rfl rfl rfl rfl rfl (ycanO km105 ko376) (t105 (g := 0) hTq7350 (by omega) (by omega)) (fun rq7362 mq7362 nq7362 hq7362 => ?_)
          obtain ⟨rfl, hTq7362, hFq7362, hq7362⟩ := hq7362
          have x1q7362 : mq7362 376 1 = m 376 1 := ((hFq7362 376 1 rfl).trans (hFq7350 376 1 rfl))
          have hF7365 := hF7355.tr hFq7362 wNw_wSt0
          refine y_if 101 96 c138_93 rfl rfl (yz_eq (by omega)) (fun hb7366 => ?_) (fun hb7366 => ?_)
          · refine y_aload 102 c138_101 rfl rfl rfl ?_
            refine y_getX 105 (mq7362 376 8) c138_102 rfl kf376_8 rfl ?_
            have tb7367 := hTq7362.atp 376 8 ((-1)) 320 rfl
            refine y_if 118 108 c138_105 rfl rfl (yz_ge (by omega)) (fun hb7368 => ?_) (fun hb7368 => ?_)
            · have es7369 : mq7362 376 1 = m 376 1 := ((hFq7362 376 1 rfl).trans (hFq7350 376 1 rfl))
              have tb7370 := hTq7362.atp 376 3 0 3 rfl
              have tb7371 := hTq7362.atp 376 6 0 320 rfl
              exact y_retU c138_118 ⟨rfl, hTq7362, hF7365, by omega, Or.inl (by omega)⟩
            · refine y_aload 109 c138_108 rfl rfl rfl ?_
              refine y_iconst 111 c138_109 rfl ?_
              have es7373 : mq7362 376 1 = m 376 1 := ((hFq7362 376 1 rfl).trans (hFq7350 376 1 rfl))
              have tb7374 := hTq7362.atp 376 3 0 3 rfl
              have tb7375 := hTq7362.atp 376 6 0 320 rfl
              refine y_callIB 114 [.ref 376, yI 59] [] c138_111 rfl rfl rfl rfl rfl (ycanO km118 ko376) (t118 hTq7362 (by omega) (by omega)) (fun rq7372 mq7372 nq7372 hq7372 => ?_)
              obtain ⟨rfl, hTq7372, hFq7372, hq7372⟩ := hq7372
              have x1q7372 : mq7372 376 1 = m 376 1 := ((hFq7372 376 1 rfl).trans ((hFq7362 376 1 rfl).trans (hFq7350 376 1 rfl)))
              have hF7376 := hF7365.tr hFq7372 wNw_wSt0
              refine y_if 118 117 c138_114 rfl rfl (yz_ne (by omega)) (fun hb7377 => ?_) (fun hb7377 => ?_)
              · have es7378 : mq7372 376 1 = m 376 1 := ((hFq7372 376 1 rfl).trans ((hFq7362 376 1 rfl).trans (hFq7350 376 1 rfl)))
                have tb7379 := hTq7372.atp 376 3 0 3 rfl
                have tb7380 := hTq7372.atp 376 6 0 320 rfl
                have tb7381 := hTq7372.atp 376 8 ((-1)) 320 rfl
                exact y_retU c138_118 ⟨rfl, hTq7372, hF7376, by omega, Or.inl (by omega)⟩
              · have es7382 : mq7372 376 1 = m 376 1 := ((hFq7372 376 1 rfl).trans ((hFq7362 376 1 rfl).trans (hFq7350 376 1 rfl)))
                have tb7383 := hTq7372.atp 376 3 0 3 rfl
                have tb7384 := hTq7372.atp 376 6 0 320 rfl
                have tb7385 := hTq7372.atp 376 8 ((-1)) 320 rfl
                exact y_retU c138_117 ⟨rfl, hTq7372, hF7376, by omega, Or.inl (by omega)⟩
          · refine y_aload 97 c138_96 rfl rfl rfl ?_
            refine y_iload 98 c138_97 rfl rfl ?_
            have es7387 : mq7362 376 1 = m 376 1 := ((hFq7362 376 1 rfl).trans (hFq7350 376 1 rfl))
            have tb7388 := hTq7362.atp 376 3 0 3 rfl
            have tb7389 := hTq7362.atp 376 6 0 320 rfl
            have tb7390 := hTq7362.atp 376 8 ((-1)) 320 rfl
            have es7391 : mq7362 376 18 = m 376 18 := ((hFq7362 376 18 rfl).trans (hFq7350 376 18 rfl))
            have es7392 : mq7362 390 0 = m 390 0 := ((hFq7362 390 0 rfl).trans (hFq7350 390 0 rfl))
            have es7393 : mq7362 386 0 = m 386 0 := ((hFq7362 386 0 rfl).trans (hFq7350 386 0 rfl))
            have es7394 : mq7362 387 0 = m 387 0 := ((hFq7362 387 0 rfl).trans (hFq7350 387 0 rfl))
            have es7395 : mq7362 388 0 = m 388 0 := ((hFq7362 388 0 rfl).trans (hFq7350 388 0 rfl))
            have es7396 : mq7362 376 17 = m 376 17 := ((hFq7362 376 17 rfl).trans (hFq7350 376 17 rfl))
            have tb7397 := hT.atp 376 17 0 20 rfl
            have es7398 : mq7362 384 0 = m 384 0 := ((hFq7362 384 0 rfl).trans (hFq7350 384 0 rfl))
            refine y_callUB 101 [.ref 376, yI rq7350] [] c138_98 rfl rfl rfl rfl rfl (ycanO km137 ko376) (t137_0 hTq7362 (by omega) (by omega) (by omega) ((hX.fw hFq7350 wVr0_X).fw hFq7362 wNw_X) (by omega) (by omega) (by omega)) (fun mq7386 nq7386 hq7386 => ?_)
            obtain ⟨rfl, hTq7386, hFq7386, hlq7386, hq7386⟩ := hq7386
            have hAq7386 : 0 ≤ mq7386 376 8 ∨ (mq7386 376 8 < 0 ∧ mu mq7386 ≤ mu mq7362 ∧ mq7386 390 0 = m 390 0 + 1) := by rcases hq7386 with q | q; exact Or.inl q; exact Or.inr ⟨q.1, by omega, by omega⟩
            have x1q7386 : mq7386 376 1 = m 376 1 := ((hFq7386 376 1 rfl).trans ((hFq7362 376 1 rfl).trans (hFq7350 376 1 rfl)))
            have hF7399 := hF7365.tr hFq7386 (fun _ _ e => e)
            refine y_aload 102 c138_101 rfl rfl rfl ?_
            refine y_getX 105 (mq7386 376 8) c138_102 rfl kf376_8 rfl ?_
            have tb7400 := hTq7386.atp 376 8 ((-1)) 320 rfl
            refine y_if 118 108 c138_105 rfl rfl (yz_ge (by omega)) (fun hb7401 => ?_) (fun hb7401 => ?_)
            · have es7402 : mq7386 376 1 = m 376 1 := ((hFq7386 376 1 rfl).trans ((hFq7362 376 1 rfl).trans (hFq7350 376 1 rfl)))
              have tb7403 := hTq7386.atp 376 3 0 3 rfl
              have tb7404 := hTq7386.atp 376 6 0 320 rfl
              have tb7405 := hTq7386.atp 390 0 0 125 rfl
              have tb7406 := hTq7386.atp 386 0 0 12 rfl
              have tb7407 := hTq7386.atp 387 0 0 8 rfl
              have tb7408 := hTq7386.atp 388 0 0 12 rfl
              have tb7409 := hTq7386.atp 376 17 0 20 rfl
              have es7410 : mq7386 384 0 = m 384 0 := ((hFq7386 384 0 rfl).trans ((hFq7362 384 0 rfl).trans (hFq7350 384 0 rfl)))
              exact y_retU c138_118 ⟨rfl, hTq7386, hF7399, by omega, (by first | exact Or.inl (by omega) | exact Or.inr ⟨by omega, by omega, by omega, (hq7386.resolve_left (by omega)).2.2.2⟩ | (by_cases hq : 0 ≤ mq7386 376 8 <;> first | exact Or.inl (by omega) | exact Or.inr ⟨by omega, by omega, by omega, (hq7386.resolve_left (by omega)).2.2.2⟩))⟩
            · refine y_aload 109 c138_108 rfl rfl rfl ?_
              refine y_iconst 111 c138_109 rfl ?_
              have es7412 : mq7386 376 1 = m 376 1 := ((hFq7386 376 1 rfl).trans ((hFq7362 376 1 rfl).trans (hFq7350 376 1 rfl)))
              have tb7413 := hTq7386.atp 376 3 0 3 rfl
              have tb7414 := hTq7386.atp 376 6 0 320 rfl
              refine y_callIB 114 [.ref 376, yI 59] [] c138_111 rfl rfl rfl rfl rfl (ycanO km118 ko376) (t118 hTq7386 (by omega) (by omega)) (fun rq7411 mq7411 nq7411 hq7411 => ?_)
              obtain ⟨rfl, hTq7411, hFq7411, hq7411⟩ := hq7411
              have x1q7411 : mq7411 376 1 = m 376 1 := ((hFq7411 376 1 rfl).trans ((hFq7386 376 1 rfl).trans ((hFq7362 376 1 rfl).trans (hFq7350 376 1 rfl))))
              have hF7415 := hF7399.tr hFq7411 wNw_wSt0
              refine y_if 118 117 c138_114 rfl rfl (yz_ne (by omega)) (fun hb7416 => ?_) (fun hb7416 => ?_)
              · have es7417 : mq7411 376 1 = m 376 1 := ((hFq7411 376 1 rfl).trans ((hFq7386 376 1 rfl).trans ((hFq7362 376 1 rfl).trans (hFq7350 376 1 rfl))))
                have tb7418 := hTq7411.atp 376 3 0 3 rfl
                have tb7419 := hTq7411.atp 376 6 0 320 rfl
                have tb7420 := hTq7411.atp 376 8 ((-1)) 320 rfl
                have es7421 : mq7411 390 0 = mq7386 390 0 := (hFq7411 390 0 rfl)
                have tb7422 := hTq7386.atp 390 0 0 125 rfl
                have es7423 : mq7411 386 0 = mq7386 386 0 := (hFq7411 386 0 rfl)
                have tb7424 := hTq7386.atp 386 0 0 12 rfl
                have es7425 : mq7411 387 0 = mq7386 387 0 := (hFq7411 387 0 rfl)
                have tb7426 := hTq7386.atp 387 0 0 8 rfl
                have es7427 : mq7411 388 0 = mq7386 388 0 := (hFq7411 388 0 rfl)
                have tb7428 := hTq7386.atp 388 0 0 12 rfl
                have es7429 : mq7411 376 17 = mq7386 376 17 := (hFq7411 376 17 rfl)
                have tb7430 := hTq7386.atp 376 17 0 20 rfl
                have es7431 : mq7411 384 0 = m 384 0 := ((hFq7411 384 0 rfl).trans ((hFq7386 384 0 rfl).trans ((hFq7362 384 0 rfl).trans (hFq7350 384 0 rfl))))
                exact y_retU c138_118 ⟨rfl, hTq7411, hF7415, by omega, (by first | exact Or.inl (by omega) | exact Or.inr ⟨by omega, by omega, by omega, (XS.fw (hq7386.resolve_left (by omega)).2.2.2 hFq7411 wNw_X)⟩ | (by_cases hq : 0 ≤ mq7411 376 8 <;> first | exact Or.inl (by omega) | exact Or.inr ⟨by omega, by omega, by omega, (XS.fw (hq7386.resolve_left (by omega)).2.2.2 hFq7411 wNw_X)⟩))⟩
              · have es7432 : mq7411 376 1 = m 376 1 := ((hFq7411 376 1 rfl).trans ((hFq7386 376 1 rfl).trans ((hFq7362 376 1 rfl).trans (hFq7350 376 1 rfl))))
                have tb7433 := hTq7411.atp 376 3 0 3 rfl
                have tb7434 := hTq7411.atp 376 6 0 320 rfl
                have tb7435 := hTq7411.atp 376 8 ((-1)) 320 rfl
                have es7436 : mq7411 390 0 = mq7386 390 0 := (hFq7411 390 0 rfl)
                have tb7437 := hTq7386.atp 390 0 0 125 rfl
                have es7438 : mq7411 386 0 = mq7386 386 0 := (hFq7411 386 0 rfl)
                have tb7439 := hTq7386.atp 386 0 0 12 rfl
                have es7440 : mq7411 387 0 = mq7386 387 0 := (hFq7411 387 0 rfl)
                have tb7441 := hTq7386.atp 387 0 0 8 rfl
                have es7442 : mq7411 388 0 = mq7386 388 0 := (hFq7411 388 0 rfl)
                have tb7443 := hTq7386.atp 388 0 0 12 rfl
                have es7444 : mq7411 376 17 = mq7386 376 17 := (hFq7411 376 17 rfl)
                have tb7445 := hTq7386.atp 376 17 0 20 rfl
                have es7446 : mq7411 384 0 = m 384 0 := ((hFq7411 384 0 rfl).trans ((hFq7386 384 0 rfl).trans ((hFq7362 384 0 rfl).trans (hFq7350 384 0 rfl))))
                exact y_retU c138_117 ⟨rfl, hTq7411, hF7415, by omega, (by first | exact Or.inl (by omega) | exact Or.inr ⟨by omega, by omega, by omega, (XS.fw (hq7386.resolve_left (by omega)).2.2.2 hFq7411 wNw_X)⟩ | (by_cases hq : 0 ≤ mq7411 376 8 <;> first | exact Or.inl (by omega) | exact Or.inr ⟨by omega, by omega, by omega, (XS.fw (hq7386.resolve_left (by omega)).2.2.2 hFq7411 wNw_X)⟩))⟩
        · refine y_aload 77 c138_76 rfl rfl rfl ?_
          refine y_iconst 79 c138_77 rfl ?_
          refine y_callP 82 [.ref 376, yI 61] [.ref 376] c138_79 rfl rfl rfl rfl rfl (ycanO km117 ko376) (t117 hTq7350 (by omega)) (fun r7447 hr7447 => ?_)
          refine y_if 89 85 c138_82 rfl rfl (yz_eq (by omega)) (fun hb7448 => ?_) (fun hb7448 => ?_)
          · refine y_iconst 90 c138_89 rfl ?_
            have es7450 : mq7350 376 1 = m 376 1 := (hFq7350 376 1 rfl)
            have tb7451 := hTq7350.atp 376 6 0 320 rfl
            refine y_callIB 93 [.ref 376, yI 0] [] c138_90 rfl rfl rfl rfl rfl (ycanO km105 ko376) (t105 (g := 0) hTq7350 (by omega) (by omega)) (fun rq7449 mq7449 nq7449 hq7449 => ?_)
            obtain ⟨rfl, hTq7449, hFq7449, hq7449⟩ := hq7449
            have x1q7449 : mq7449 376 1 = m 376 1 := ((hFq7449 376 1 rfl).trans (hFq7350 376 1 rfl))
            have hF7452 := hF7355.tr hFq7449 wNw_wSt0
            refine y_if 101 96 c138_93 rfl rfl (yz_eq (by omega)) (fun hb7453 => ?_) (fun hb7453 => ?_)
            · refine y_aload 102 c138_101 rfl rfl rfl ?_
              refine y_getX 105 (mq7449 376 8) c138_102 rfl kf376_8 rfl ?_
              have tb7454 := hTq7449.atp 376 8 ((-1)) 320 rfl
              refine y_if 118 108 c138_105 rfl rfl (yz_ge (by omega)) (fun hb7455 => ?_) (fun hb7455 => ?_)
              · have es7456 : mq7449 376 1 = m 376 1 := ((hFq7449 376 1 rfl).trans (hFq7350 376 1 rfl))
                have tb7457 := hTq7449.atp 376 3 0 3 rfl
                have tb7458 := hTq7449.atp 376 6 0 320 rfl
                exact y_retU c138_118 ⟨rfl, hTq7449, hF7452, by omega, Or.inl (by omega)⟩
              · refine y_aload 109 c138_108 rfl rfl rfl ?_
                refine y_iconst 111 c138_109 rfl ?_
                have es7460 : mq7449 376 1 = m 376 1 := ((hFq7449 376 1 rfl).trans (hFq7350 376 1 rfl))
                have tb7461 := hTq7449.atp 376 3 0 3 rfl
                have tb7462 := hTq7449.atp 376 6 0 320 rfl
                refine y_callIB 114 [.ref 376, yI 59] [] c138_111 rfl rfl rfl rfl rfl (ycanO km118 ko376) (t118 hTq7449 (by omega) (by omega)) (fun rq7459 mq7459 nq7459 hq7459 => ?_)
                obtain ⟨rfl, hTq7459, hFq7459, hq7459⟩ := hq7459
                have x1q7459 : mq7459 376 1 = m 376 1 := ((hFq7459 376 1 rfl).trans ((hFq7449 376 1 rfl).trans (hFq7350 376 1 rfl)))
                have hF7463 := hF7452.tr hFq7459 wNw_wSt0
                refine y_if 118 117 c138_114 rfl rfl (yz_ne (by omega)) (fun hb7464 => ?_) (fun hb7464 => ?_)
                · have es7465 : mq7459 376 1 = m 376 1 := ((hFq7459 376 1 rfl).trans ((hFq7449 376 1 rfl).trans (hFq7350 376 1 rfl)))
                  have tb7466 := hTq7459.atp 376 3 0 3 rfl
                  have tb7467 := hTq7459.atp 376 6 0 320 rfl
                  have tb7468 := hTq7459.atp 376 8 ((-1)) 320 rfl
                  exact y_retU c138_118 ⟨rfl, hTq7459, hF7463, by omega, Or.inl (by omega)⟩
                · have es7469 : mq7459 376 1 = m 376 1 := ((hFq7459 376 1 rfl).trans ((hFq7449 376 1 rfl).trans (hFq7350 376 1 rfl)))
                  have tb7470 := hTq7459.atp 376 3 0 3 rfl
                  have tb7471 := hTq7459.atp 376 6 0 320 rfl
                  have tb7472 := hTq7459.atp 376 8 ((-1)) 320 rfl
                  exact y_retU c138_117 ⟨rfl, hTq7459, hF7463, by omega, Or.inl (by omega)⟩
            · refine y_aload 97 c138_96 rfl rfl rfl ?_
              refine y_iload 98 c138_97 rfl rfl ?_
              have es7474 : mq7449 376 1 = m 376 1 := ((hFq7449 376 1 rfl).trans (hFq7350 376 1 rfl))
              have tb7475 := hTq7449.atp 376 3 0 3 rfl
              have tb7476 := hTq7449.atp 376 6 0 320 rfl
              have tb7477 := hTq7449.atp 376 8 ((-1)) 320 rfl
              have es7478 : mq7449 376 18 = m 376 18 := ((hFq7449 376 18 rfl).trans (hFq7350 376 18 rfl))
              have es7479 : mq7449 390 0 = m 390 0 := ((hFq7449 390 0 rfl).trans (hFq7350 390 0 rfl))
              have es7480 : mq7449 386 0 = m 386 0 := ((hFq7449 386 0 rfl).trans (hFq7350 386 0 rfl))
              have es7481 : mq7449 387 0 = m 387 0 := ((hFq7449 387 0 rfl).trans (hFq7350 387 0 rfl))
              have es7482 : mq7449 388 0 = m 388 0 := ((hFq7449 388 0 rfl).trans (hFq7350 388 0 rfl))
              have es7483 : mq7449 376 17 = m 376 17 := ((hFq7449 376 17 rfl).trans (hFq7350 376 17 rfl))
              have tb7484 := hT.atp 376 17 0 20 rfl
              have es7485 : mq7449 384 0 = m 384 0 := ((hFq7449 384 0 rfl).trans (hFq7350 384 0 rfl))
              refine y_callUB 101 [.ref 376, yI rq7350] [] c138_98 rfl rfl rfl rfl rfl (ycanO km137 ko376) (t137_0 hTq7449 (by omega) (by omega) (by omega) ((hX.fw hFq7350 wVr0_X).fw hFq7449 wNw_X) (by omega) (by omega) (by omega)) (fun mq7473 nq7473 hq7473 => ?_)
              obtain ⟨rfl, hTq7473, hFq7473, hlq7473, hq7473⟩ := hq7473
              have hAq7473 : 0 ≤ mq7473 376 8 ∨ (mq7473 376 8 < 0 ∧ mu mq7473 ≤ mu mq7449 ∧ mq7473 390 0 = m 390 0 + 1) := by rcases hq7473 with q | q; exact Or.inl q; exact Or.inr ⟨q.1, by omega, by omega⟩
              have x1q7473 : mq7473 376 1 = m 376 1 := ((hFq7473 376 1 rfl).trans ((hFq7449 376 1 rfl).trans (hFq7350 376 1 rfl)))
              have hF7486 := hF7452.tr hFq7473 (fun _ _ e => e)
              refine y_aload 102 c138_101 rfl rfl rfl ?_
              refine y_getX 105 (mq7473 376 8) c138_102 rfl kf376_8 rfl ?_
              have tb7487 := hTq7473.atp 376 8 ((-1)) 320 rfl
              refine y_if 118 108 c138_105 rfl rfl (yz_ge (by omega)) (fun hb7488 => ?_) (fun hb7488 => ?_)
              · have es7489 : mq7473 376 1 = m 376 1 := ((hFq7473 376 1 rfl).trans ((hFq7449 376 1 rfl).trans (hFq7350 376 1 rfl)))
                have tb7490 := hTq7473.atp 376 3 0 3 rfl
                have tb7491 := hTq7473.atp 376 6 0 320 rfl
                have tb7492 := hTq7473.atp 390 0 0 125 rfl
                have tb7493 := hTq7473.atp 386 0 0 12 rfl
                have tb7494 := hTq7473.atp 387 0 0 8 rfl
                have tb7495 := hTq7473.atp 388 0 0 12 rfl
                have tb7496 := hTq7473.atp 376 17 0 20 rfl
                have es7497 : mq7473 384 0 = m 384 0 := ((hFq7473 384 0 rfl).trans ((hFq7449 384 0 rfl).trans (hFq7350 384 0 rfl)))
                exact y_retU c138_118 ⟨rfl, hTq7473, hF7486, by omega, (by first | exact Or.inl (by omega) | exact Or.inr ⟨by omega, by omega, by omega, (hq7473.resolve_left (by omega)).2.2.2⟩ | (by_cases hq : 0 ≤ mq7473 376 8 <;> first | exact Or.inl (by omega) | exact Or.inr ⟨by omega, by omega, by omega, (hq7473.resolve_left (by omega)).2.2.2⟩))⟩
              · refine y_aload 109 c138_108 rfl rfl rfl ?_
                refine y_iconst 111 c138_109 rfl ?_
                have es7499 : mq7473 376 1 = m 376 1 := ((hFq7473 376 1 rfl).trans ((hFq7449 376 1 rfl).trans (hFq7350 376 1 rfl)))
                have tb7500 := hTq7473.atp 376 3 0 3 rfl
                have tb7501 := hTq7473.atp 376 6 0 320 rfl
                refine y_callIB 114 [.ref 376, yI 59] [] c138_111 rfl rfl rfl rfl rfl (ycanO km118 ko376) (t118 hTq7473 (by omega) (by omega)) (fun rq7498 mq7498 nq7498 hq7498 => ?_)
                obtain ⟨rfl, hTq7498, hFq7498, hq7498⟩ := hq7498
                have x1q7498 : mq7498 376 1 = m 376 1 := ((hFq7498 376 1 rfl).trans ((hFq7473 376 1 rfl).trans ((hFq7449 376 1 rfl).trans (hFq7350 376 1 rfl))))
                have hF7502 := hF7486.tr hFq7498 wNw_wSt0
                refine y_if 118 117 c138_114 rfl rfl (yz_ne (by omega)) (fun hb7503 => ?_) (fun hb7503 => ?_)
                · have es7504 : mq7498 376 1 = m 376 1 := ((hFq7498 376 1 rfl).trans ((hFq7473 376 1 rfl).trans ((hFq7449 376 1 rfl).trans (hFq7350 376 1 rfl))))
                  have tb7505 := hTq7498.atp 376 3 0 3 rfl
                  have tb7506 := hTq7498.atp 376 6 0 320 rfl
                  have tb7507 := hTq7498.atp 376 8 ((-1)) 320 rfl
                  have es7508 : mq7498 390 0 = mq7473 390 0 := (hFq7498 390 0 rfl)
                  have tb7509 := hTq7473.atp 390 0 0 125 rfl
                  have es7510 : mq7498 386 0 = mq7473 386 0 := (hFq7498 386 0 rfl)
                  have tb7511 := hTq7473.atp 386 0 0 12 rfl
                  have es7512 : mq7498 387 0 = mq7473 387 0 := (hFq7498 387 0 rfl)
                  have tb7513 := hTq7473.atp 387 0 0 8 rfl
                  have es7514 : mq7498 388 0 = mq7473 388 0 := (hFq7498 388 0 rfl)
                  have tb7515 := hTq7473.atp 388 0 0 12 rfl
                  have es7516 : mq7498 376 17 = mq7473 376 17 := (hFq7498 376 17 rfl)
                  have tb7517 := hTq7473.atp 376 17 0 20 rfl
                  have es7518 : mq7498 384 0 = m 384 0 := ((hFq7498 384 0 rfl).trans ((hFq7473 384 0 rfl).trans ((hFq7449 384 0 rfl).trans (hFq7350 384 0 rfl))))
                  exact y_retU c138_118 ⟨rfl, hTq7498, hF7502, by omega, (by first | exact Or.inl (by omega) | exact Or.inr ⟨by omega, by omega, by omega, (XS.fw (hq7473.resolve_left (by omega)).2.2.2 hFq7498 wNw_X)⟩ | (by_cases hq : 0 ≤ mq7498 376 8 <;> first | exact Or.inl (by omega) | exact Or.inr ⟨by omega, by omega, by omega, (XS.fw (hq7473.resolve_left (by omega)).2.2.2 hFq7498 wNw_X)⟩))⟩
                · have es7519 : mq7498 376 1 = m 376 1 := ((hFq7498 376 1 rfl).trans ((hFq7473 376 1 rfl).trans ((hFq7449 376 1 rfl).trans (hFq7350 376 1 rfl))))
                  have tb7520 := hTq7498.atp 376 3 0 3 rfl
                  have tb7521 := hTq7498.atp 376 6 0 320 rfl
                  have tb7522 := hTq7498.atp 376 8 ((-1)) 320 rfl
                  have es7523 : mq7498 390 0 = mq7473 390 0 := (hFq7498 390 0 rfl)
                  have tb7524 := hTq7473.atp 390 0 0 125 rfl
                  have es7525 : mq7498 386 0 = mq7473 386 0 := (hFq7498 386 0 rfl)
                  have tb7526 := hTq7473.atp 386 0 0 12 rfl
                  have es7527 : mq7498 387 0 = mq7473 387 0 := (hFq7498 387 0 rfl)
                  have tb7528 := hTq7473.atp 387 0 0 8 rfl
                  have es7529 : mq7498 388 0 = mq7473 388 0 := (hFq7498 388 0 rfl)
                  have tb7530 := hTq7473.atp 388 0 0 12 rfl
                  have es7531 : mq7498 376 17 = mq7473 376 17 := (hFq7498 376 17 rfl)
                  have tb7532 := hTq7473.atp 376 17 0 20 rfl
                  have es7533 : mq7498 384 0 = m 384 0 := ((hFq7498 384 0 rfl).trans ((hFq7473 384 0 rfl).trans ((hFq7449 384 0 rfl).trans (hFq7350 384 0 rfl))))
                  exact y_retU c138_117 ⟨rfl, hTq7498, hF7502, by omega, (by first | exact Or.inl (by omega) | exact Or.inr ⟨by omega, by omega, by omega, (XS.fw (hq7473.resolve_left (by omega)).2.2.2 hFq7498 wNw_X)⟩ | (by_cases hq : 0 ≤ mq7498 376 8 <;> first | exact Or.inl (by omega) | exact Or.inr ⟨by omega, by omega, by omega, (XS.fw (hq7473.resolve_left (by omega)).2.2.2 hFq7498 wNw_X)⟩))⟩
          · refine y_iconst 86 c138_85 rfl ?_
            refine y_goto 90 c138_86 rfl ?_
            have es7535 : mq7350 376 1 = m 376 1 := (hFq7350 376 1 rfl)
            have tb7536 := hTq7350.atp 376 6 0 320 rfl
            refine y_callIB 93 [.ref 376, yI 1] [] c138_90 rfl rfl rfl rfl rfl (ycanO km105 ko376) (t105 (g := 1) hTq7350 (by omega) (by omega)) (fun rq7534 mq7534 nq7534 hq7534 => ?_)
            obtain ⟨rfl, hTq7534, hFq7534, hq7534⟩ := hq7534
            have x1q7534 : mq7534 376 1 = m 376 1 := ((hFq7534 376 1 rfl).trans (hFq7350 376 1 rfl))
            have hF7537 := hF7355.tr hFq7534 wNw_wSt0
            refine y_if 101 96 c138_93 rfl rfl (yz_eq (by omega)) (fun hb7538 => ?_) (fun hb7538 => ?_)
            · refine y_aload 102 c138_101 rfl rfl rfl ?_
              refine y_getX 105 (mq7534 376 8) c138_102 rfl kf376_8 rfl ?_
              have tb7539 := hTq7534.atp 376 8 ((-1)) 320 rfl
              refine y_if 118 108 c138_105 rfl rfl (yz_ge (by omega)) (fun hb7540 => ?_) (fun hb7540 => ?_)
              · have es7541 : mq7534 376 1 = m 376 1 := ((hFq7534 376 1 rfl).trans (hFq7350 376 1 rfl))
                have tb7542 := hTq7534.atp 376 3 0 3 rfl
                have tb7543 := hTq7534.atp 376 6 0 320 rfl
                exact y_retU c138_118 ⟨rfl, hTq7534, hF7537, by omega, Or.inl (by omega)⟩
              · refine y_aload 109 c138_108 rfl rfl rfl ?_
                refine y_iconst 111 c138_109 rfl ?_
                have es7545 : mq7534 376 1 = m 376 1 := ((hFq7534 376 1 rfl).trans (hFq7350 376 1 rfl))
                have tb7546 := hTq7534.atp 376 3 0 3 rfl
                have tb7547 := hTq7534.atp 376 6 0 320 rfl
                refine y_callIB 114 [.ref 376, yI 59] [] c138_111 rfl rfl rfl rfl rfl (ycanO km118 ko376) (t118 hTq7534 (by omega) (by omega)) (fun rq7544 mq7544 nq7544 hq7544 => ?_)
                obtain ⟨rfl, hTq7544, hFq7544, hq7544⟩ := hq7544
                have x1q7544 : mq7544 376 1 = m 376 1 := ((hFq7544 376 1 rfl).trans ((hFq7534 376 1 rfl).trans (hFq7350 376 1 rfl)))
                have hF7548 := hF7537.tr hFq7544 wNw_wSt0
                refine y_if 118 117 c138_114 rfl rfl (yz_ne (by omega)) (fun hb7549 => ?_) (fun hb7549 => ?_)
                · have es7550 : mq7544 376 1 = m 376 1 := ((hFq7544 376 1 rfl).trans ((hFq7534 376 1 rfl).trans (hFq7350 376 1 rfl)))
                  have tb7551 := hTq7544.atp 376 3 0 3 rfl
                  have tb7552 := hTq7544.atp 376 6 0 320 rfl
                  have tb7553 := hTq7544.atp 376 8 ((-1)) 320 rfl
                  exact y_retU c138_118 ⟨rfl, hTq7544, hF7548, by omega, Or.inl (by omega)⟩
                · have es7554 : mq7544 376 1 = m 376 1 := ((hFq7544 376 1 rfl).trans ((hFq7534 376 1 rfl).trans (hFq7350 376 1 rfl)))
                  have tb7555 := hTq7544.atp 376 3 0 3 rfl
                  have tb7556 := hTq7544.atp 376 6 0 320 rfl
                  have tb7557 := hTq7544.atp 376 8 ((-1)) 320 rfl
                  exact y_retU c138_117 ⟨rfl, hTq7544, hF7548, by omega, Or.inl (by omega)⟩
            · refine y_aload 97 c138_96 rfl rfl rfl ?_
              refine y_iload 98 c138_97 rfl rfl ?_
              have es7559 : mq7534 376 1 = m 376 1 := ((hFq7534 376 1 rfl).trans (hFq7350 376 1 rfl))
              have tb7560 := hTq7534.atp 376 3 0 3 rfl
              have tb7561 := hTq7534.atp 376 6 0 320 rfl
              have tb7562 := hTq7534.atp 376 8 ((-1)) 320 rfl
              have es7563 : mq7534 376 18 = m 376 18 := ((hFq7534 376 18 rfl).trans (hFq7350 376 18 rfl))
              have es7564 : mq7534 390 0 = m 390 0 := ((hFq7534 390 0 rfl).trans (hFq7350 390 0 rfl))
              have es7565 : mq7534 386 0 = m 386 0 := ((hFq7534 386 0 rfl).trans (hFq7350 386 0 rfl))
              have es7566 : mq7534 387 0 = m 387 0 := ((hFq7534 387 0 rfl).trans (hFq7350 387 0 rfl))
              have es7567 : mq7534 388 0 = m 388 0 := ((hFq7534 388 0 rfl).trans (hFq7350 388 0 rfl))
              have es7568 : mq7534 376 17 = m 376 17 := ((hFq7534 376 17 rfl).trans (hFq7350 376 17 rfl))
              have tb7569 := hT.atp 376 17 0 20 rfl
              have es7570 : mq7534 384 0 = m 384 0 := ((hFq7534 384 0 rfl).trans (hFq7350 384 0 rfl))
              refine y_callUB 101 [.ref 376, yI rq7350] [] c138_98 rfl rfl rfl rfl rfl (ycanO km137 ko376) (t137_0 hTq7534 (by omega) (by omega) (by omega) ((hX.fw hFq7350 wVr0_X).fw hFq7534 wNw_X) (by omega) (by omega) (by omega)) (fun mq7558 nq7558 hq7558 => ?_)
              obtain ⟨rfl, hTq7558, hFq7558, hlq7558, hq7558⟩ := hq7558
              have hAq7558 : 0 ≤ mq7558 376 8 ∨ (mq7558 376 8 < 0 ∧ mu mq7558 ≤ mu mq7534 ∧ mq7558 390 0 = m 390 0 + 1) := by rcases hq7558 with q | q; exact Or.inl q; exact Or.inr ⟨q.1, by omega, by omega⟩
              have x1q7558 : mq7558 376 1 = m 376 1 := ((hFq7558 376 1 rfl).trans ((hFq7534 376 1 rfl).trans (hFq7350 376 1 rfl)))
              have hF7571 := hF7537.tr hFq7558 (fun _ _ e => e)
              refine y_aload 102 c138_101 rfl rfl rfl ?_
              refine y_getX 105 (mq7558 376 8) c138_102 rfl kf376_8 rfl ?_
              have tb7572 := hTq7558.atp 376 8 ((-1)) 320 rfl
              refine y_if 118 108 c138_105 rfl rfl (yz_ge (by omega)) (fun hb7573 => ?_) (fun hb7573 => ?_)
              · have es7574 : mq7558 376 1 = m 376 1 := ((hFq7558 376 1 rfl).trans ((hFq7534 376 1 rfl).trans (hFq7350 376 1 rfl)))
                have tb7575 := hTq7558.atp 376 3 0 3 rfl
                have tb7576 := hTq7558.atp 376 6 0 320 rfl
                have tb7577 := hTq7558.atp 390 0 0 125 rfl
                have tb7578 := hTq7558.atp 386 0 0 12 rfl
                have tb7579 := hTq7558.atp 387 0 0 8 rfl
                have tb7580 := hTq7558.atp 388 0 0 12 rfl
                have tb7581 := hTq7558.atp 376 17 0 20 rfl
                have es7582 : mq7558 384 0 = m 384 0 := ((hFq7558 384 0 rfl).trans ((hFq7534 384 0 rfl).trans (hFq7350 384 0 rfl)))
                exact y_retU c138_118 ⟨rfl, hTq7558, hF7571, by omega, (by first | exact Or.inl (by omega) | exact Or.inr ⟨by omega, by omega, by omega, (hq7558.resolve_left (by omega)).2.2.2⟩ | (by_cases hq : 0 ≤ mq7558 376 8 <;> first | exact Or.inl (by omega) | exact Or.inr ⟨by omega, by omega, by omega, (hq7558.resolve_left (by omega)).2.2.2⟩))⟩
              · refine y_aload 109 c138_108 rfl rfl rfl ?_
                refine y_iconst 111 c138_109 rfl ?_
                have es7584 : mq7558 376 1 = m 376 1 := ((hFq7558 376 1 rfl).trans ((hFq7534 376 1 rfl).trans (hFq7350 376 1 rfl)))
                have tb7585 := hTq7558.atp 376 3 0 3 rfl
                have tb7586 := hTq7558.atp 376 6 0 320 rfl
                refine y_callIB 114 [.ref 376, yI 59] [] c138_111 rfl rfl rfl rfl rfl (ycanO km118 ko376) (t118 hTq7558 (by omega) (by omega)) (fun rq7583 mq7583 nq7583 hq7583 => ?_)
                obtain ⟨rfl, hTq7583, hFq7583, hq7583⟩ := hq7583
                have x1q7583 : mq7583 376 1 = m 376 1 := ((hFq7583 376 1 rfl).trans ((hFq7558 376 1 rfl).trans ((hFq7534 376 1 rfl).trans (hFq7350 376 1 rfl))))
                have hF7587 := hF7571.tr hFq7583 wNw_wSt0
                refine y_if 118 117 c138_114 rfl rfl (yz_ne (by omega)) (fun hb7588 => ?_) (fun hb7588 => ?_)
                · have es7589 : mq7583 376 1 = m 376 1 := ((hFq7583 376 1 rfl).trans ((hFq7558 376 1 rfl).trans ((hFq7534 376 1 rfl).trans (hFq7350 376 1 rfl))))
                  have tb7590 := hTq7583.atp 376 3 0 3 rfl
                  have tb7591 := hTq7583.atp 376 6 0 320 rfl
                  have tb7592 := hTq7583.atp 376 8 ((-1)) 320 rfl
                  have es7593 : mq7583 390 0 = mq7558 390 0 := (hFq7583 390 0 rfl)
                  have tb7594 := hTq7558.atp 390 0 0 125 rfl
                  have es7595 : mq7583 386 0 = mq7558 386 0 := (hFq7583 386 0 rfl)
                  have tb7596 := hTq7558.atp 386 0 0 12 rfl
                  have es7597 : mq7583 387 0 = mq7558 387 0 := (hFq7583 387 0 rfl)
                  have tb7598 := hTq7558.atp 387 0 0 8 rfl
                  have es7599 : mq7583 388 0 = mq7558 388 0 := (hFq7583 388 0 rfl)
                  have tb7600 := hTq7558.atp 388 0 0 12 rfl
                  have es7601 : mq7583 376 17 = mq7558 376 17 := (hFq7583 376 17 rfl)
                  have tb7602 := hTq7558.atp 376 17 0 20 rfl
                  have es7603 : mq7583 384 0 = m 384 0 := ((hFq7583 384 0 rfl).trans ((hFq7558 384 0 rfl).trans ((hFq7534 384 0 rfl).trans (hFq7350 384 0 rfl))))
                  exact y_retU c138_118 ⟨rfl, hTq7583, hF7587, by omega, (by first | exact Or.inl (by omega) | exact Or.inr ⟨by omega, by omega, by omega, (XS.fw (hq7558.resolve_left (by omega)).2.2.2 hFq7583 wNw_X)⟩ | (by_cases hq : 0 ≤ mq7583 376 8 <;> first | exact Or.inl (by omega) | exact Or.inr ⟨by omega, by omega, by omega, (XS.fw (hq7558.resolve_left (by omega)).2.2.2 hFq7583 wNw_X)⟩))⟩
                · have es7604 : mq7583 376 1 = m 376 1 := ((hFq7583 376 1 rfl).trans ((hFq7558 376 1 rfl).trans ((hFq7534 376 1 rfl).trans (hFq7350 376 1 rfl))))
                  have tb7605 := hTq7583.atp 376 3 0 3 rfl
                  have tb7606 := hTq7583.atp 376 6 0 320 rfl
                  have tb7607 := hTq7583.atp 376 8 ((-1)) 320 rfl
                  have es7608 : mq7583 390 0 = mq7558 390 0 := (hFq7583 390 0 rfl)
                  have tb7609 := hTq7558.atp 390 0 0 125 rfl
                  have es7610 : mq7583 386 0 = mq7558 386 0 := (hFq7583 386 0 rfl)
                  have tb7611 := hTq7558.atp 386 0 0 12 rfl
                  have es7612 : mq7583 387 0 = mq7558 387 0 := (hFq7583 387 0 rfl)
                  have tb7613 := hTq7558.atp 387 0 0 8 rfl
                  have es7614 : mq7583 388 0 = mq7558 388 0 := (hFq7583 388 0 rfl)
                  have tb7615 := hTq7558.atp 388 0 0 12 rfl
                  have es7616 : mq7583 376 17 = mq7558 376 17 := (hFq7583 376 17 rfl)
                  have tb7617 := hTq7558.atp 376 17 0 20 rfl
                  have es7618 : mq7583 384 0 = m 384 0 := ((hFq7583 384 0 rfl).trans ((hFq7558 384 0 rfl).trans ((hFq7534 384 0 rfl).trans (hFq7350 384 0 rfl))))
                  exact y_retU c138_117 ⟨rfl, hTq7583, hF7587, by omega, (by first | exact Or.inl (by omega) | exact Or.inr ⟨by omega, by omega, by omega, (XS.fw (hq7558.resolve_left (by omega)).2.2.2 hFq7583 wNw_X)⟩ | (by_cases hq : 0 ≤ mq7583 376 8 <;> first | exact Or.inl (by omega) | exact Or.inr ⟨by omega, by omega, by omega, (XS.fw (hq7558.resolve_left (by omega)).2.2.2 hFq7583 wNw_X)⟩))⟩
      · refine y_aload 64 c138_63 rfl rfl rfl ?_
        refine y_iload 65 c138_64 rfl rfl ?_
        have es7620 : mq7350 376 1 = m 376 1 := (hFq7350 376 1 rfl)
        have tb7621 := hTq7350.atp 376 6 0 320 rfl
        have es7622 : mq7350 376 18 = m 376 18 := (hFq7350 376 18 rfl)
        have es7623 : mq7350 390 0 = m 390 0 := (hFq7350 390 0 rfl)
        have es7624 : mq7350 386 0 = m 386 0 := (hFq7350 386 0 rfl)
        have es7625 : mq7350 387 0 = m 387 0 := (hFq7350 387 0 rfl)
        have es7626 : mq7350 388 0 = m 388 0 := (hFq7350 388 0 rfl)
        have es7627 : mq7350 376 17 = m 376 17 := (hFq7350 376 17 rfl)
        have tb7628 := hT.atp 376 17 0 20 rfl
        have es7629 : mq7350 384 0 = m 384 0 := (hFq7350 384 0 rfl)
        refine y_callUB 68 [.ref 376, yI rq7350] [] c138_65 rfl rfl rfl rfl rfl (ycanO km133 ko376) (t133_0 hTq7350 (by omega) (by omega) (by omega) (hX.fw hFq7350 wVr0_X) (by omega) (by omega) (by omega)) (fun mq7619 nq7619 hq7619 => ?_)
        obtain ⟨rfl, hTq7619, hFq7619, hlq7619, hq7619⟩ := hq7619
        have hAq7619 : 0 ≤ mq7619 376 8 ∨ (mq7619 376 8 < 0 ∧ mu mq7619 ≤ mu mq7350 ∧ mq7619 390 0 = m 390 0 + 1) := by rcases hq7619 with q | q; exact Or.inl q; exact Or.inr ⟨q.1, by omega, by omega⟩
        have x1q7619 : mq7619 376 1 = m 376 1 := ((hFq7619 376 1 rfl).trans (hFq7350 376 1 rfl))
        have hF7630 := hF7355.tr hFq7619 (fun _ _ e => e)
        refine y_goto 101 c138_68 rfl ?_
        refine y_aload 102 c138_101 rfl rfl rfl ?_
        refine y_getX 105 (mq7619 376 8) c138_102 rfl kf376_8 rfl ?_
        have tb7631 := hTq7619.atp 376 8 ((-1)) 320 rfl
        refine y_if 118 108 c138_105 rfl rfl (yz_ge (by omega)) (fun hb7632 => ?_) (fun hb7632 => ?_)
        · have es7633 : mq7619 376 1 = m 376 1 := ((hFq7619 376 1 rfl).trans (hFq7350 376 1 rfl))
          have tb7634 := hTq7619.atp 376 3 0 3 rfl
          have tb7635 := hTq7619.atp 376 6 0 320 rfl
          have tb7636 := hTq7619.atp 390 0 0 125 rfl
          have tb7637 := hTq7619.atp 386 0 0 12 rfl
          have tb7638 := hTq7619.atp 387 0 0 8 rfl
          have tb7639 := hTq7619.atp 388 0 0 12 rfl
          have tb7640 := hTq7619.atp 376 17 0 20 rfl
          have es7641 : mq7619 384 0 = m 384 0 := ((hFq7619 384 0 rfl).trans (hFq7350 384 0 rfl))
          exact y_retU c138_118 ⟨rfl, hTq7619, hF7630, by omega, (by first | exact Or.inl (by omega) | exact Or.inr ⟨by omega, by omega, by omega, (hq7619.resolve_left (by omega)).2.2.2⟩ | (by_cases hq : 0 ≤ mq7619 376 8 <;> first | exact Or.inl (by omega) | exact Or.inr ⟨by omega, by omega, by omega, (hq7619.resolve_left (by omega)).2.2.2⟩))⟩
        · refine y_aload 109 c138_108 rfl rfl rfl ?_
          refine y_iconst 111 c138_109 rfl ?_
          have es7643 : mq7619 376 1 = m 376 1 := ((hFq7619 376 1 rfl).trans (hFq7350 376 1 rfl))
          have tb7644 := hTq7619.atp 376 3 0 3 rfl
          have tb7645 := hTq7619.atp 376 6 0 320 rfl
          refine y_callIB 114 [.ref 376, yI 59] [] c138_111 rfl rfl rfl rfl rfl (ycanO km118 ko376) (t118 hTq7619 (by omega) (by omega)) (fun rq7642 mq7642 nq7642 hq7642 => ?_)
          obtain ⟨rfl, hTq7642, hFq7642, hq7642⟩ := hq7642
          have x1q7642 : mq7642 376 1 = m 376 1 := ((hFq7642 376 1 rfl).trans ((hFq7619 376 1 rfl).trans (hFq7350 376 1 rfl)))
          have hF7646 := hF7630.tr hFq7642 wNw_wSt0
          refine y_if 118 117 c138_114 rfl rfl (yz_ne (by omega)) (fun hb7647 => ?_) (fun hb7647 => ?_)
          · have es7648 : mq7642 376 1 = m 376 1 := ((hFq7642 376 1 rfl).trans ((hFq7619 376 1 rfl).trans (hFq7350 376 1 rfl)))
            have tb7649 := hTq7642.atp 376 3 0 3 rfl
            have tb7650 := hTq7642.atp 376 6 0 320 rfl
            have tb7651 := hTq7642.atp 376 8 ((-1)) 320 rfl
            have es7652 : mq7642 390 0 = mq7619 390 0 := (hFq7642 390 0 rfl)
            have tb7653 := hTq7619.atp 390 0 0 125 rfl
            have es7654 : mq7642 386 0 = mq7619 386 0 := (hFq7642 386 0 rfl)
            have tb7655 := hTq7619.atp 386 0 0 12 rfl
            have es7656 : mq7642 387 0 = mq7619 387 0 := (hFq7642 387 0 rfl)
            have tb7657 := hTq7619.atp 387 0 0 8 rfl
            have es7658 : mq7642 388 0 = mq7619 388 0 := (hFq7642 388 0 rfl)
            have tb7659 := hTq7619.atp 388 0 0 12 rfl
            have es7660 : mq7642 376 17 = mq7619 376 17 := (hFq7642 376 17 rfl)
            have tb7661 := hTq7619.atp 376 17 0 20 rfl
            have es7662 : mq7642 384 0 = m 384 0 := ((hFq7642 384 0 rfl).trans ((hFq7619 384 0 rfl).trans (hFq7350 384 0 rfl)))
            exact y_retU c138_118 ⟨rfl, hTq7642, hF7646, by omega, (by first | exact Or.inl (by omega) | exact Or.inr ⟨by omega, by omega, by omega, (XS.fw (hq7619.resolve_left (by omega)).2.2.2 hFq7642 wNw_X)⟩ | (by_cases hq : 0 ≤ mq7642 376 8 <;> first | exact Or.inl (by omega) | exact Or.inr ⟨by omega, by omega, by omega, (XS.fw (hq7619.resolve_left (by omega)).2.2.2 hFq7642 wNw_X)⟩))⟩
          · have es7663 : mq7642 376 1 = m 376 1 := ((hFq7642 376 1 rfl).trans ((hFq7619 376 1 rfl).trans (hFq7350 376 1 rfl)))
            have tb7664 := hTq7642.atp 376 3 0 3 rfl
            have tb7665 := hTq7642.atp 376 6 0 320 rfl
            have tb7666 := hTq7642.atp 376 8 ((-1)) 320 rfl
            have es7667 : mq7642 390 0 = mq7619 390 0 := (hFq7642 390 0 rfl)
            have tb7668 := hTq7619.atp 390 0 0 125 rfl
            have es7669 : mq7642 386 0 = mq7619 386 0 := (hFq7642 386 0 rfl)
            have tb7670 := hTq7619.atp 386 0 0 12 rfl
            have es7671 : mq7642 387 0 = mq7619 387 0 := (hFq7642 387 0 rfl)
            have tb7672 := hTq7619.atp 387 0 0 8 rfl
            have es7673 : mq7642 388 0 = mq7619 388 0 := (hFq7642 388 0 rfl)
            have tb7674 := hTq7619.atp 388 0 0 12 rfl
            have es7675 : mq7642 376 17 = mq7619 376 17 := (hFq7642 376 17 rfl)
            have tb7676 := hTq7619.atp 376 17 0 20 rfl
            have es7677 : mq7642 384 0 = m 384 0 := ((hFq7642 384 0 rfl).trans ((hFq7619 384 0 rfl).trans (hFq7350 384 0 rfl)))
            exact y_retU c138_117 ⟨rfl, hTq7642, hF7646, by omega, (by first | exact Or.inl (by omega) | exact Or.inr ⟨by omega, by omega, by omega, (XS.fw (hq7619.resolve_left (by omega)).2.2.2 hFq7642 wNw_X)⟩ | (by_cases hq : 0 ≤ mq7642 376 8 <;> first | exact Or.inl (by omega) | exact Or.inr ⟨by omega, by omega, by omega, (XS.fw (hq7619.resolve_left (by omega)).2.2.2 hFq7642 wNw_X)⟩))⟩
    · have es7678 : mq7350 376 1 = m 376 1 := (hFq7350 376 1 rfl)
      have tb7679 := hTq7350.atp 376 3 0 3 rfl
      have tb7680 := hTq7350.atp 376 6 0 320 rfl
      exact y_retU c138_53 ⟨rfl, hTq7350, hF7355, by omega, Or.inl (by omega)⟩
  · refine y_aload 13 c138_12 rfl rfl rfl ?_
    have tb7682 := hT.atp 376 1 0 320 rfl
    have tb7683 := hT.atp 376 6 0 320 rfl
    have tb7684 := hT.atp 376 8 ((-1)) 320 rfl
    refine y_callUB 16 [.ref 376] [] c138_13 rfl rfl rfl rfl rfl (ycanO km99 ko376) (t99u hT (by omega)) (fun mq7681 nq7681 hq7681 => ?_)
    obtain ⟨rfl, hTq7681, hFq7681, hq7681⟩ := hq7681
    have x1q7681 : mq7681 376 1 = m 376 1 := (hFq7681 376 1 rfl)
    have hF7685 := hF.tr hFq7681 wNx_wSt0
    refine y_aload 17 c138_16 rfl rfl rfl ?_
    have es7687 : mq7681 376 1 = m 376 1 := (hFq7681 376 1 rfl)
    have tb7688 := hTq7681.atp 376 3 0 3 rfl
    have tb7689 := hTq7681.atp 376 6 0 320 rfl
    have es7690 : mq7681 376 8 = m 376 8 := (hFq7681 376 8 rfl)
    have es7691 : mq7681 376 18 = m 376 18 := (hFq7681 376 18 rfl)
    have tb7692 := hT.atp 376 18 0 1 rfl
    refine y_callIB 20 [.ref 376] [] c138_17 rfl rfl rfl rfl rfl (ycanO km130 ko376) (t130_0 hTq7681 (by omega) (by omega) (by omega)) (fun rq7686 mq7686 nq7686 hq7686 => ?_)
    obtain ⟨rfl, hTq7686, hFq7686, hq7686⟩ := hq7686
    have x1q7686 : mq7686 376 1 = m 376 1 := ((hFq7686 376 1 rfl).trans (hFq7681 376 1 rfl))
    have hF7693 := hF7685.tr hFq7686 wVr0_wSt0
    refine y_istore 21 c138_20 rfl rfl ?_
    refine y_aload 22 c138_21 rfl rfl rfl ?_
    refine y_getX 25 (mq7686 376 8) c138_22 rfl kf376_8 rfl ?_
    have tb7694 := hTq7686.atp 376 8 ((-1)) 320 rfl
    refine y_if 38 28 c138_25 rfl rfl (yz_ge (by omega)) (fun hb7695 => ?_) (fun hb7695 => ?_)
    · refine y_goto 101 c138_38 rfl ?_
      refine y_aload 102 c138_101 rfl rfl rfl ?_
      refine y_getX 105 (mq7686 376 8) c138_102 rfl kf376_8 rfl ?_
      refine y_if 118 108 c138_105 rfl rfl (yz_ge (by omega)) (fun hb7696 => ?_) (fun hb7696 => ?_)
      · have es7697 : mq7686 376 1 = m 376 1 := ((hFq7686 376 1 rfl).trans (hFq7681 376 1 rfl))
        have tb7698 := hTq7686.atp 376 3 0 3 rfl
        have tb7699 := hTq7686.atp 376 6 0 320 rfl
        exact y_retU c138_118 ⟨rfl, hTq7686, hF7693, by omega, Or.inl (by omega)⟩
      · exfalso; omega
    · refine y_aload 29 c138_28 rfl rfl rfl ?_
      refine y_iconst 31 c138_29 rfl ?_
      refine y_iload 32 c138_31 rfl rfl ?_
      refine y_iconst 33 c138_32 rfl ?_
      refine y_iconst 34 c138_33 rfl ?_
      have es7701 : mq7686 376 1 = m 376 1 := ((hFq7686 376 1 rfl).trans (hFq7681 376 1 rfl))
      have tb7702 := hTq7686.atp 376 3 0 3 rfl
      have tb7703 := hTq7686.atp 376 6 0 320 rfl
      have es7704 : mq7686 376 18 = m 376 18 := ((hFq7686 376 18 rfl).trans (hFq7681 376 18 rfl))
      have es7705 : mq7686 390 0 = m 390 0 := ((hFq7686 390 0 rfl).trans (hFq7681 390 0 rfl))
      have es7706 : mq7686 386 0 = m 386 0 := ((hFq7686 386 0 rfl).trans (hFq7681 386 0 rfl))
      have es7707 : mq7686 387 0 = m 387 0 := ((hFq7686 387 0 rfl).trans (hFq7681 387 0 rfl))
      have es7708 : mq7686 388 0 = m 388 0 := ((hFq7686 388 0 rfl).trans (hFq7681 388 0 rfl))
      have es7709 : mq7686 376 17 = m 376 17 := ((hFq7686 376 17 rfl).trans (hFq7681 376 17 rfl))
      have tb7710 := hT.atp 376 17 0 20 rfl
      have es7711 : mq7686 384 0 = m 384 0 := ((hFq7686 384 0 rfl).trans (hFq7681 384 0 rfl))
      refine y_callIB 37 [.ref 376, yI 6, yI rq7686, yI 0, yI 0] [] c138_34 rfl rfl rfl rfl rfl (ycanO km127 ko376) (t127_0 hTq7686 (by omega) (by omega) (by omega) (by omega) (by omega) (by omega)) (fun rq7700 mq7700 nq7700 hq7700 => ?_)
      obtain ⟨rfl, hTq7700, hFq7700, hq7700, hE⟩ := hq7700
      unfold EM at hE
      rw [show mq7686 390 0 = m 390 0 from ((hFq7686 390 0 rfl).trans (hFq7681 390 0 rfl))] at hE
      obtain ⟨k1, k2, k3, k4, k5, k6, k7⟩ := hE
      have k8 : ∀ q, q < 1000 * 0 + 8 * (m 390 0).toNat ∨ 1000 * 0 + 8 * (m 390 0).toNat + 8 ≤ q → mq7700 403 q = m 403 q := fun q hq => (k7 q hq).trans (((hFq7686 403 q rfl).trans (hFq7681 403 q rfl)))
      have x1q7700 : mq7700 376 1 = m 376 1 := ((hFq7700 376 1 rfl).trans ((hFq7686 376 1 rfl).trans (hFq7681 376 1 rfl)))
      have hF7712 := hF7693.tr hFq7700 wEm0_wSt0
      refine y_istore 38 c138_37 rfl rfl ?_
      refine y_goto 101 c138_38 rfl ?_
      refine y_aload 102 c138_101 rfl rfl rfl ?_
      refine y_getX 105 (mq7686 376 8) c138_102 rfl kf376_8 (hFq7700 376 8 rfl) ?_
      refine y_top ((-1)) (by omega) ?_
      refine y_if 118 108 c138_105 rfl rfl (yz_ge (by omega)) (fun hb7713 => ?_) (fun hb7713 => ?_)
      · exfalso; omega
      · refine y_aload 109 c138_108 rfl rfl rfl ?_
        refine y_iconst 111 c138_109 rfl ?_
        have es7715 : mq7700 376 1 = m 376 1 := ((hFq7700 376 1 rfl).trans ((hFq7686 376 1 rfl).trans (hFq7681 376 1 rfl)))
        have es7716 : mq7700 376 3 = mq7686 376 3 := (hFq7700 376 3 rfl)
        have es7717 : mq7700 376 6 = mq7686 376 6 := (hFq7700 376 6 rfl)
        have es7718 : mq7700 376 8 = mq7686 376 8 := (hFq7700 376 8 rfl)
        have em7719 : mu mq7700 = mu mq7686 := mu_fr (hFq7700 376 1 rfl) (hFq7700 376 3 rfl) (hFq7700 376 6 rfl)
        refine y_callIB 114 [.ref 376, yI 59] [] c138_111 rfl rfl rfl rfl rfl (ycanO km118 ko376) (t118 hTq7700 (by omega) (by omega)) (fun rq7714 mq7714 nq7714 hq7714 => ?_)
        obtain ⟨rfl, hTq7714, hFq7714, hq7714⟩ := hq7714
        have x1q7714 : mq7714 376 1 = m 376 1 := ((hFq7714 376 1 rfl).trans ((hFq7700 376 1 rfl).trans ((hFq7686 376 1 rfl).trans (hFq7681 376 1 rfl))))
        have hF7720 := hF7712.tr hFq7714 wNw_wSt0
        refine y_if 118 117 c138_114 rfl rfl (yz_ne (by omega)) (fun hb7721 => ?_) (fun hb7721 => ?_)
        · have es7722 : mq7714 376 1 = m 376 1 := ((hFq7714 376 1 rfl).trans ((hFq7700 376 1 rfl).trans ((hFq7686 376 1 rfl).trans (hFq7681 376 1 rfl))))
          have tb7723 := hTq7714.atp 376 3 0 3 rfl
          have tb7724 := hTq7714.atp 376 6 0 320 rfl
          have tb7725 := hTq7714.atp 376 8 ((-1)) 320 rfl
          have es7726 : mq7714 390 0 = mq7700 390 0 := (hFq7714 390 0 rfl)
          have tb7727 := hTq7700.atp 390 0 0 125 rfl
          have es7728 : mq7714 386 0 = m 386 0 := ((hFq7714 386 0 rfl).trans ((hFq7700 386 0 rfl).trans ((hFq7686 386 0 rfl).trans (hFq7681 386 0 rfl))))
          have es7729 : mq7714 387 0 = m 387 0 := ((hFq7714 387 0 rfl).trans ((hFq7700 387 0 rfl).trans ((hFq7686 387 0 rfl).trans (hFq7681 387 0 rfl))))
          have es7730 : mq7714 388 0 = m 388 0 := ((hFq7714 388 0 rfl).trans ((hFq7700 388 0 rfl).trans ((hFq7686 388 0 rfl).trans (hFq7681 388 0 rfl))))
          have es7731 : mq7714 376 17 = m 376 17 := ((hFq7714 376 17 rfl).trans ((hFq7700 376 17 rfl).trans ((hFq7686 376 17 rfl).trans (hFq7681 376 17 rfl))))
          have es7732 : mq7714 384 0 = m 384 0 := ((hFq7714 384 0 rfl).trans ((hFq7700 384 0 rfl).trans ((hFq7686 384 0 rfl).trans (hFq7681 384 0 rfl))))
          have f0 : mq7714 403 (1000 * 0 + 8 * (m 390 0).toNat) = _ := ((hFq7714 403 _ rfl)).trans k2
          have f1 : mq7714 403 (1000 * 0 + 8 * (m 390 0).toNat + 1) = _ := ((hFq7714 403 _ rfl)).trans k3
          have f2 : mq7714 403 (1000 * 0 + 8 * (m 390 0).toNat + 2) = _ := ((hFq7714 403 _ rfl)).trans k4
          have f3 : mq7714 403 (1000 * 0 + 8 * (m 390 0).toNat + 3) = _ := ((hFq7714 403 _ rfl)).trans k5
          have f4 : mq7714 403 (1000 * 0 + 8 * (m 390 0).toNat + 4) = _ := ((hFq7714 403 _ rfl)).trans k6
          have hw : OW mq7714 (1000 * 0 + 8 * (m 390 0).toNat) := by unfold OW; omega
          have hx : XS 0 mq7714 := XS.add hX (by omega) (fun a q ha => hF7720 a q (wSt0_Y a q ha)) (fun q hq => ((hFq7714 403 q rfl)).trans (k8 q hq)) hw (by omega) (by omega) (by omega) (by omega) (by omega) (by omega) (by omega) (fun c hc => by rw [show mq7714 401 (8 * 0 + c) = m 401 (8 * 0 + c) from ((hFq7714 401 _ rfl).trans ((hFq7700 401 _ rfl).trans ((hFq7686 401 _ rfl).trans (hFq7681 401 _ rfl))))]; exact hCV c (by omega)) (by omega) (by omega)
          exact y_retU c138_118 ⟨rfl, hTq7714, hF7720, by omega, by first | exact Or.inl (by omega) | exact Or.inr ⟨by omega, by omega, by omega, hx⟩⟩
        · have es7733 : mq7714 376 1 = m 376 1 := ((hFq7714 376 1 rfl).trans ((hFq7700 376 1 rfl).trans ((hFq7686 376 1 rfl).trans (hFq7681 376 1 rfl))))
          have tb7734 := hTq7714.atp 376 3 0 3 rfl
          have tb7735 := hTq7714.atp 376 6 0 320 rfl
          have tb7736 := hTq7714.atp 376 8 ((-1)) 320 rfl
          have es7737 : mq7714 390 0 = mq7700 390 0 := (hFq7714 390 0 rfl)
          have tb7738 := hTq7700.atp 390 0 0 125 rfl
          have es7739 : mq7714 386 0 = m 386 0 := ((hFq7714 386 0 rfl).trans ((hFq7700 386 0 rfl).trans ((hFq7686 386 0 rfl).trans (hFq7681 386 0 rfl))))
          have es7740 : mq7714 387 0 = m 387 0 := ((hFq7714 387 0 rfl).trans ((hFq7700 387 0 rfl).trans ((hFq7686 387 0 rfl).trans (hFq7681 387 0 rfl))))
          have es7741 : mq7714 388 0 = m 388 0 := ((hFq7714 388 0 rfl).trans ((hFq7700 388 0 rfl).trans ((hFq7686 388 0 rfl).trans (hFq7681 388 0 rfl))))
          have es7742 : mq7714 376 17 = m 376 17 := ((hFq7714 376 17 rfl).trans ((hFq7700 376 17 rfl).trans ((hFq7686 376 17 rfl).trans (hFq7681 376 17 rfl))))
          have es7743 : mq7714 384 0 = m 384 0 := ((hFq7714 384 0 rfl).trans ((hFq7700 384 0 rfl).trans ((hFq7686 384 0 rfl).trans (hFq7681 384 0 rfl))))
          have f0 : mq7714 403 (1000 * 0 + 8 * (m 390 0).toNat) = _ := ((hFq7714 403 _ rfl)).trans k2
          have f1 : mq7714 403 (1000 * 0 + 8 * (m 390 0).toNat + 1) = _ := ((hFq7714 403 _ rfl)).trans k3
          have f2 : mq7714 403 (1000 * 0 + 8 * (m 390 0).toNat + 2) = _ := ((hFq7714 403 _ rfl)).trans k4
          have f3 : mq7714 403 (1000 * 0 + 8 * (m 390 0).toNat + 3) = _ := ((hFq7714 403 _ rfl)).trans k5
          have f4 : mq7714 403 (1000 * 0 + 8 * (m 390 0).toNat + 4) = _ := ((hFq7714 403 _ rfl)).trans k6
          have hw : OW mq7714 (1000 * 0 + 8 * (m 390 0).toNat) := by unfold OW; omega
          have hx : XS 0 mq7714 := XS.add hX (by omega) (fun a q ha => hF7720 a q (wSt0_Y a q ha)) (fun q hq => ((hFq7714 403 q rfl)).trans (k8 q hq)) hw (by omega) (by omega) (by omega) (by omega) (by omega) (by omega) (by omega) (fun c hc => by rw [show mq7714 401 (8 * 0 + c) = m 401 (8 * 0 + c) from ((hFq7714 401 _ rfl).trans ((hFq7700 401 _ rfl).trans ((hFq7686 401 _ rfl).trans (hFq7681 401 _ rfl))))]; exact hCV c (by omega)) (by omega) (by omega)
          exact y_retU c138_117 ⟨rfl, hTq7714, hF7720, by omega, by first | exact Or.inl (by omega) | exact Or.inr ⟨by omega, by omega, by omega, hx⟩⟩
set_option maxRecDepth 100000 in
theorem t138_1 {L : Nat} {xs : Nat → Int32} {d nn : Nat} {m : yM} (hT : Ty gT m) (hl : m 376 6 ≤ m 376 1) (hn : m 376 18 = 0) (h8 : m 376 8 < 0) (hX : XS 1 m) (h84 : 1 ≤ m 384 1) (h90 : m 390 1 ≤ 100) (h3 : m 376 3 ≠ 0) : YC (gZ L xs) (d + 7) 138 [.ref 376] m nn (qU (fun m' n' => n' = nn ∧ Ty gT m' ∧ Fr wSt1 m m' ∧ m' 376 6 ≤ m' 376 1 ∧ (0 ≤ m' 376 8 ∨ (m' 376 8 < 0 ∧ mu m' < mu m ∧ m' 390 1 = m 390 1 + 1 ∧ XS 1 m')))) := by
  have tb8 := hT.atp 376 8 (-1) 320 rfl
  have tc384 := hT.atp 384 1 0 10 rfl
  have tc386 := hT.atp 386 1 0 12 rfl
  have tc387 := hT.atp 387 1 0 8 rfl
  have tc388 := hT.atp 388 1 0 12 rfl
  have tc389 := hT.atp 389 1 0 48 rfl
  have tc390 := hT.atp 390 1 0 125 rfl
  have hsc := hX.2.2.2.2.2
  have hCV := hX.2.2.2.2.2.2.2.1
  refine YC.mkB [some (.ref 376), none, none] kn138 rfl rfl ?_
  have hF : Fr wSt1 m m := Fr.rf
  refine y_aload 1 c138_0 rfl rfl rfl ?_
  have tb8550 := hT.atp 376 3 0 3 rfl
  refine y_callP 4 [.ref 376] [] c138_1 rfl rfl rfl rfl rfl (ycanO km115 ko376) (t115 hT) (fun r8551 hr8551 => ?_)
  refine y_istore 5 c138_4 rfl rfl ?_
  refine y_aload 6 c138_5 rfl rfl rfl ?_
  refine y_callP 9 [.ref 376] [] c138_6 rfl rfl rfl rfl rfl (ycanO km113 ko376) (t113 hT) (fun r8552 hr8552 => ?_)
  refine y_if 41 12 c138_9 rfl rfl (yz_eq (by omega)) (fun hb8553 => ?_) (fun hb8553 => ?_)
  · refine y_aload 42 c138_41 rfl rfl rfl ?_
    have tb8555 := hT.atp 376 1 0 320 rfl
    have tb8556 := hT.atp 376 6 0 320 rfl
    have tb8557 := hT.atp 376 8 ((-1)) 320 rfl
    have tb8558 := hT.atp 376 18 0 1 rfl
    refine y_callIB 45 [.ref 376] [] c138_42 rfl rfl rfl rfl rfl (ycanO km130 ko376) (t130_1 hT (by omega) (by omega) (by omega)) (fun rq8554 mq8554 nq8554 hq8554 => ?_)
    obtain ⟨rfl, hTq8554, hFq8554, hq8554⟩ := hq8554
    have x1q8554 : mq8554 376 1 = m 376 1 := (hFq8554 376 1 rfl)
    have hF8559 := hF.tr hFq8554 wVr1_wSt1
    refine y_istore 46 c138_45 rfl rfl ?_
    refine y_aload 47 c138_46 rfl rfl rfl ?_
    refine y_getX 50 (mq8554 376 8) c138_47 rfl kf376_8 rfl ?_
    have tb8560 := hTq8554.atp 376 8 ((-1)) 320 rfl
    refine y_if 54 53 c138_50 rfl rfl (yz_lt (by omega)) (fun hb8561 => ?_) (fun hb8561 => ?_)
    · refine y_aload 55 c138_54 rfl rfl rfl ?_
      refine y_iconst 57 c138_55 rfl ?_
      have tb8562 := hTq8554.atp 376 3 0 3 rfl
      refine y_callP 60 [.ref 376, yI 46] [] c138_57 rfl rfl rfl rfl rfl (ycanO km117 ko376) (t117 hTq8554 (by omega)) (fun r8563 hr8563 => ?_)
      refine y_if 71 63 c138_60 rfl rfl (yz_eq (by omega)) (fun hb8564 => ?_) (fun hb8564 => ?_)
      · refine y_aload 72 c138_71 rfl rfl rfl ?_
        refine y_iload 73 c138_72 rfl rfl ?_
        refine y_if 89 76 c138_73 rfl rfl (yz_eq (by omega)) (fun hb8565 => ?_) (fun hb8565 => ?_)
        · refine y_iconst 90 c138_89 rfl ?_
          have es8567 : mq8554 376 1 = m 376 1 := (hFq8554 376 1 rfl)
          have tb8568 := hTq8554.atp 376 6 0 320 rfl
          refine y_callIB 93 [.ref 376, yI 0] [] c138_90 rfl rfl rfl rfl rfl (ycanO km105 ko376) (t105 (g := 0) hTq8554 (by omega) (by omega)) (fun rq8566 mq8566 nq8566 hq8566 => ?_)
          obtain ⟨rfl, hTq8566, hFq8566, hq8566⟩ := hq8566
          have x1q8566 : mq8566 376 1 = m 376 1 := ((hFq8566 376 1 rfl).trans (hFq8554 376 1 rfl))
          have hF8569 := hF8559.tr hFq8566 wNw_wSt1
          refine y_if 101 96 c138_93 rfl rfl (yz_eq (by omega)) (fun hb8570 => ?_) (fun hb8570 => ?_)
          · refine y_aload 102 c138_101 rfl rfl rfl ?_
            refine y_getX 105 (mq8566 376 8) c138_102 rfl kf376_8 rfl ?_
            have tb8571 := hTq8566.atp 376 8 ((-1)) 320 rfl
            refine y_if 118 108 c138_105 rfl rfl (yz_ge (by omega)) (fun hb8572 => ?_) (fun hb8572 => ?_)
            · have es8573 : mq8566 376 1 = m 376 1 := ((hFq8566 376 1 rfl).trans (hFq8554 376 1 rfl))
              have tb8574 := hTq8566.atp 376 3 0 3 rfl
              have tb8575 := hTq8566.atp 376 6 0 320 rfl
              exact y_retU c138_118 ⟨rfl, hTq8566, hF8569, by omega, Or.inl (by omega)⟩
            · refine y_aload 109 c138_108 rfl rfl rfl ?_
              refine y_iconst 111 c138_109 rfl ?_
              have es8577 : mq8566 376 1 = m 376 1 := ((hFq8566 376 1 rfl).trans (hFq8554 376 1 rfl))
              have tb8578 := hTq8566.atp 376 3 0 3 rfl
              have tb8579 := hTq8566.atp 376 6 0 320 rfl
              refine y_callIB 114 [.ref 376, yI 59] [] c138_111 rfl rfl rfl rfl rfl (ycanO km118 ko376) (t118 hTq8566 (by omega) (by omega)) (fun rq8576 mq8576 nq8576 hq8576 => ?_)
              obtain ⟨rfl, hTq8576, hFq8576, hq8576⟩ := hq8576
              have x1q8576 : mq8576 376 1 = m 376 1 := ((hFq8576 376 1 rfl).trans ((hFq8566 376 1 rfl).trans (hFq8554 376 1 rfl)))
              have hF8580 := hF8569.tr hFq8576 wNw_wSt1
              refine y_if 118 117 c138_114 rfl rfl (yz_ne (by omega)) (fun hb8581 => ?_) (fun hb8581 => ?_)
              · have es8582 : mq8576 376 1 = m 376 1 := ((hFq8576 376 1 rfl).trans ((hFq8566 376 1 rfl).trans (hFq8554 376 1 rfl)))
                have tb8583 := hTq8576.atp 376 3 0 3 rfl
                have tb8584 := hTq8576.atp 376 6 0 320 rfl
                have tb8585 := hTq8576.atp 376 8 ((-1)) 320 rfl
                exact y_retU c138_118 ⟨rfl, hTq8576, hF8580, by omega, Or.inl (by omega)⟩
              · have es8586 : mq8576 376 1 = m 376 1 := ((hFq8576 376 1 rfl).trans ((hFq8566 376 1 rfl).trans (hFq8554 376 1 rfl)))
                have tb8587 := hTq8576.atp 376 3 0 3 rfl
                have tb8588 := hTq8576.atp 376 6 0 320 rfl
                have tb8589 := hTq8576.atp 376 8 ((-1)) 320 rfl
                exact y_retU c138_117 ⟨rfl, hTq8576, hF8580, by omega, Or.inl (by omega)⟩
          · refine y_aload 97 c138_96 rfl rfl rfl ?_
            refine y_iload 98 c138_97 rfl rfl ?_
            have es8591 : mq8566 376 1 = m 376 1 := ((hFq8566 376 1 rfl).trans (hFq8554 376 1 rfl))
            have tb8592 := hTq8566.atp 376 3 0 3 rfl
            have tb8593 := hTq8566.atp 376 6 0 320 rfl
            have tb8594 := hTq8566.atp 376 8 ((-1)) 320 rfl
            have es8595 : mq8566 376 18 = m 376 18 := ((hFq8566 376 18 rfl).trans (hFq8554 376 18 rfl))
            have es8596 : mq8566 390 1 = m 390 1 := ((hFq8566 390 1 rfl).trans (hFq8554 390 1 rfl))
            have es8597 : mq8566 386 1 = m 386 1 := ((hFq8566 386 1 rfl).trans (hFq8554 386 1 rfl))
            have es8598 : mq8566 387 1 = m 387 1 := ((hFq8566 387 1 rfl).trans (hFq8554 387 1 rfl))
            have es8599 : mq8566 388 1 = m 388 1 := ((hFq8566 388 1 rfl).trans (hFq8554 388 1 rfl))
            have es8600 : mq8566 376 17 = m 376 17 := ((hFq8566 376 17 rfl).trans (hFq8554 376 17 rfl))
            have tb8601 := hT.atp 376 17 0 20 rfl
            have es8602 : mq8566 384 1 = m 384 1 := ((hFq8566 384 1 rfl).trans (hFq8554 384 1 rfl))
            refine y_callUB 101 [.ref 376, yI rq8554] [] c138_98 rfl rfl rfl rfl rfl (ycanO km137 ko376) (t137_1 hTq8566 (by omega) (by omega) (by omega) ((hX.fw hFq8554 wVr1_X).fw hFq8566 wNw_X) (by omega) (by omega) (by omega)) (fun mq8590 nq8590 hq8590 => ?_)
            obtain ⟨rfl, hTq8590, hFq8590, hlq8590, hq8590⟩ := hq8590
            have hAq8590 : 0 ≤ mq8590 376 8 ∨ (mq8590 376 8 < 0 ∧ mu mq8590 ≤ mu mq8566 ∧ mq8590 390 1 = m 390 1 + 1) := by rcases hq8590 with q | q; exact Or.inl q; exact Or.inr ⟨q.1, by omega, by omega⟩
            have x1q8590 : mq8590 376 1 = m 376 1 := ((hFq8590 376 1 rfl).trans ((hFq8566 376 1 rfl).trans (hFq8554 376 1 rfl)))
            have hF8603 := hF8569.tr hFq8590 (fun _ _ e => e)
            refine y_aload 102 c138_101 rfl rfl rfl ?_
            refine y_getX 105 (mq8590 376 8) c138_102 rfl kf376_8 rfl ?_
            have tb8604 := hTq8590.atp 376 8 ((-1)) 320 rfl
            refine y_if 118 108 c138_105 rfl rfl (yz_ge (by omega)) (fun hb8605 => ?_) (fun hb8605 => ?_)
            · have es8606 : mq8590 376 1 = m 376 1 := ((hFq8590 376 1 rfl).trans ((hFq8566 376 1 rfl).trans (hFq8554 376 1 rfl)))
              have tb8607 := hTq8590.atp 376 3 0 3 rfl
              have tb8608 := hTq8590.atp 376 6 0 320 rfl
              have tb8609 := hTq8590.atp 390 1 0 125 rfl
              have tb8610 := hTq8590.atp 386 1 0 12 rfl
              have tb8611 := hTq8590.atp 387 1 0 8 rfl
              have tb8612 := hTq8590.atp 388 1 0 12 rfl
              have tb8613 := hTq8590.atp 376 17 0 20 rfl
              have es8614 : mq8590 384 1 = m 384 1 := ((hFq8590 384 1 rfl).trans ((hFq8566 384 1 rfl).trans (hFq8554 384 1 rfl)))
              exact y_retU c138_118 ⟨rfl, hTq8590, hF8603, by omega, (by first | exact Or.inl (by omega) | exact Or.inr ⟨by omega, by omega, by omega, (hq8590.resolve_left (by omega)).2.2.2⟩ | (by_cases hq : 0 ≤ mq8590 376 8 <;> first | exact Or.inl (by omega) | exact Or.inr ⟨by omega, by omega, by omega, (hq8590.resolve_left (by omega)).2.2.2⟩))⟩
            · refine y_aload 109 c138_108 rfl rfl rfl ?_
              refine y_iconst 111 c138_109 rfl ?_
              have es8616 : mq8590 376 1 = m 376 1 := ((hFq8590 376 1 rfl).trans ((hFq8566 376 1 rfl).trans (hFq8554 376 1 rfl)))
              have tb8617 := hTq8590.atp 376 3 0 3 rfl
              have tb8618 := hTq8590.atp 376 6 0 320 rfl
              refine y_callIB 114 [.ref 376, yI 59] [] c138_111 rfl rfl rfl rfl rfl (ycanO km118 ko376) (t118 hTq8590 (by omega) (by omega)) (fun rq8615 mq8615 nq8615 hq8615 => ?_)
              obtain ⟨rfl, hTq8615, hFq8615, hq8615⟩ := hq8615
              have x1q8615 : mq8615 376 1 = m 376 1 := ((hFq8615 376 1 rfl).trans ((hFq8590 376 1 rfl).trans ((hFq8566 376 1 rfl).trans (hFq8554 376 1 rfl))))
              have hF8619 := hF8603.tr hFq8615 wNw_wSt1
              refine y_if 118 117 c138_114 rfl rfl (yz_ne (by omega)) (fun hb8620 => ?_) (fun hb8620 => ?_)
              · have es8621 : mq8615 376 1 = m 376 1 := ((hFq8615 376 1 rfl).trans ((hFq8590 376 1 rfl).trans ((hFq8566 376 1 rfl).trans (hFq8554 376 1 rfl))))
                have tb8622 := hTq8615.atp 376 3 0 3 rfl
                have tb8623 := hTq8615.atp 376 6 0 320 rfl
                have tb8624 := hTq8615.atp 376 8 ((-1)) 320 rfl
                have es8625 : mq8615 390 1 = mq8590 390 1 := (hFq8615 390 1 rfl)
                have tb8626 := hTq8590.atp 390 1 0 125 rfl
                have es8627 : mq8615 386 1 = mq8590 386 1 := (hFq8615 386 1 rfl)
                have tb8628 := hTq8590.atp 386 1 0 12 rfl
                have es8629 : mq8615 387 1 = mq8590 387 1 := (hFq8615 387 1 rfl)
                have tb8630 := hTq8590.atp 387 1 0 8 rfl
                have es8631 : mq8615 388 1 = mq8590 388 1 := (hFq8615 388 1 rfl)
                have tb8632 := hTq8590.atp 388 1 0 12 rfl
                have es8633 : mq8615 376 17 = mq8590 376 17 := (hFq8615 376 17 rfl)
                have tb8634 := hTq8590.atp 376 17 0 20 rfl
                have es8635 : mq8615 384 1 = m 384 1 := ((hFq8615 384 1 rfl).trans ((hFq8590 384 1 rfl).trans ((hFq8566 384 1 rfl).trans (hFq8554 384 1 rfl))))
                exact y_retU c138_118 ⟨rfl, hTq8615, hF8619, by omega, (by first | exact Or.inl (by omega) | exact Or.inr ⟨by omega, by omega, by omega, (XS.fw (hq8590.resolve_left (by omega)).2.2.2 hFq8615 wNw_X)⟩ | (by_cases hq : 0 ≤ mq8615 376 8 <;> first | exact Or.inl (by omega) | exact Or.inr ⟨by omega, by omega, by omega, (XS.fw (hq8590.resolve_left (by omega)).2.2.2 hFq8615 wNw_X)⟩))⟩
              · have es8636 : mq8615 376 1 = m 376 1 := ((hFq8615 376 1 rfl).trans ((hFq8590 376 1 rfl).trans ((hFq8566 376 1 rfl).trans (hFq8554 376 1 rfl))))
                have tb8637 := hTq8615.atp 376 3 0 3 rfl
                have tb8638 := hTq8615.atp 376 6 0 320 rfl
                have tb8639 := hTq8615.atp 376 8 ((-1)) 320 rfl
                have es8640 : mq8615 390 1 = mq8590 390 1 := (hFq8615 390 1 rfl)
                have tb8641 := hTq8590.atp 390 1 0 125 rfl
                have es8642 : mq8615 386 1 = mq8590 386 1 := (hFq8615 386 1 rfl)
                have tb8643 := hTq8590.atp 386 1 0 12 rfl
                have es8644 : mq8615 387 1 = mq8590 387 1 := (hFq8615 387 1 rfl)
                have tb8645 := hTq8590.atp 387 1 0 8 rfl
                have es8646 : mq8615 388 1 = mq8590 388 1 := (hFq8615 388 1 rfl)
                have tb8647 := hTq8590.atp 388 1 0 12 rfl
                have es8648 : mq8615 376 17 = mq8590 376 17 := (hFq8615 376 17 rfl)
                have tb8649 := hTq8590.atp 376 17 0 20 rfl
                have es8650 : mq8615 384 1 = m 384 1 := ((hFq8615 384 1 rfl).trans ((hFq8590 384 1 rfl).trans ((hFq8566 384 1 rfl).trans (hFq8554 384 1 rfl))))
                exact y_retU c138_117 ⟨rfl, hTq8615, hF8619, by omega, (by first | exact Or.inl (by omega) | exact Or.inr ⟨by omega, by omega, by omega, (XS.fw (hq8590.resolve_left (by omega)).2.2.2 hFq8615 wNw_X)⟩ | (by_cases hq : 0 ≤ mq8615 376 8 <;> first | exact Or.inl (by omega) | exact Or.inr ⟨by omega, by omega, by omega, (XS.fw (hq8590.resolve_left (by omega)).2.2.2 hFq8615 wNw_X)⟩))⟩
        · refine y_aload 77 c138_76 rfl rfl rfl ?_
          refine y_iconst 79 c138_77 rfl ?_
          refine y_callP 82 [.ref 376, yI 61] [.ref 376] c138_79 rfl rfl rfl rfl rfl (ycanO km117 ko376) (t117 hTq8554 (by omega)) (fun r8651 hr8651 => ?_)
          refine y_if 89 85 c138_82 rfl rfl (yz_eq (by omega)) (fun hb8652 => ?_) (fun hb8652 => ?_)
          · refine y_iconst 90 c138_89 rfl ?_
            have es8654 : mq8554 376 1 = m 376 1 := (hFq8554 376 1 rfl)
            have tb8655 := hTq8554.atp 376 6 0 320 rfl
            refine y_callIB 93 [.ref 376, yI 0] [] c138_90 rfl rfl rfl rfl rfl (ycanO km105 ko376) (t105 (g := 0) hTq8554 (by omega) (by omega)) (fun rq8653 mq8653 nq8653 hq8653 => ?_)
            obtain ⟨rfl, hTq8653, hFq8653, hq8653⟩ := hq8653
            have x1q8653 : mq8653 376 1 = m 376 1 := ((hFq8653 376 1 rfl).trans (hFq8554 376 1 rfl))
            have hF8656 := hF8559.tr hFq8653 wNw_wSt1
            refine y_if 101 96 c138_93 rfl rfl (yz_eq (by omega)) (fun hb8657 => ?_) (fun hb8657 => ?_)
            · refine y_aload 102 c138_101 rfl rfl rfl ?_
              refine y_getX 105 (mq8653 376 8) c138_102 rfl kf376_8 rfl ?_
              have tb8658 := hTq8653.atp 376 8 ((-1)) 320 rfl
              refine y_if 118 108 c138_105 rfl rfl (yz_ge (by omega)) (fun hb8659 => ?_) (fun hb8659 => ?_)
              · have es8660 : mq8653 376 1 = m 376 1 := ((hFq8653 376 1 rfl).trans (hFq8554 376 1 rfl))
                have tb8661 := hTq8653.atp 376 3 0 3 rfl
                have tb8662 := hTq8653.atp 376 6 0 320 rfl
                exact y_retU c138_118 ⟨rfl, hTq8653, hF8656, by omega, Or.inl (by omega)⟩
              · refine y_aload 109 c138_108 rfl rfl rfl ?_
                refine y_iconst 111 c138_109 rfl ?_
                have es8664 : mq8653 376 1 = m 376 1 := ((hFq8653 376 1 rfl).trans (hFq8554 376 1 rfl))
                have tb8665 := hTq8653.atp 376 3 0 3 rfl
                have tb8666 := hTq8653.atp 376 6 0 320 rfl
                refine y_callIB 114 [.ref 376, yI 59] [] c138_111 rfl rfl rfl rfl rfl (ycanO km118 ko376) (t118 hTq8653 (by omega) (by omega)) (fun rq8663 mq8663 nq8663 hq8663 => ?_)
                obtain ⟨rfl, hTq8663, hFq8663, hq8663⟩ := hq8663
                have x1q8663 : mq8663 376 1 = m 376 1 := ((hFq8663 376 1 rfl).trans ((hFq8653 376 1 rfl).trans (hFq8554 376 1 rfl)))
                have hF8667 := hF8656.tr hFq8663 wNw_wSt1
                refine y_if 118 117 c138_114 rfl rfl (yz_ne (by omega)) (fun hb8668 => ?_) (fun hb8668 => ?_)
                · have es8669 : mq8663 376 1 = m 376 1 := ((hFq8663 376 1 rfl).trans ((hFq8653 376 1 rfl).trans (hFq8554 376 1 rfl)))
                  have tb8670 := hTq8663.atp 376 3 0 3 rfl
                  have tb8671 := hTq8663.atp 376 6 0 320 rfl
                  have tb8672 := hTq8663.atp 376 8 ((-1)) 320 rfl
                  exact y_retU c138_118 ⟨rfl, hTq8663, hF8667, by omega, Or.inl (by omega)⟩
                · have es8673 : mq8663 376 1 = m 376 1 := ((hFq8663 376 1 rfl).trans ((hFq8653 376 1 rfl).trans (hFq8554 376 1 rfl)))
                  have tb8674 := hTq8663.atp 376 3 0 3 rfl
                  have tb8675 := hTq8663.atp 376 6 0 320 rfl
                  have tb8676 := hTq8663.atp 376 8 ((-1)) 320 rfl
                  exact y_retU c138_117 ⟨rfl, hTq8663, hF8667, by omega, Or.inl (by omega)⟩
            · refine y_aload 97 c138_96 rfl rfl rfl ?_
              refine y_iload 98 c138_97 rfl rfl ?_
              have es8678 : mq8653 376 1 = m 376 1 := ((hFq8653 376 1 rfl).trans (hFq8554 376 1 rfl))
              have tb8679 := hTq8653.atp 376 3 0 3 rfl
              have tb8680 := hTq8653.atp 376 6 0 320 rfl
              have tb8681 := hTq8653.atp 376 8 ((-1)) 320 rfl
              have es8682 : mq8653 376 18 = m 376 18 := ((hFq8653 376 18 rfl).trans (hFq8554 376 18 rfl))
              have es8683 : mq8653 390 1 = m 390 1 := ((hFq8653 390 1 rfl).trans (hFq8554 390 1 rfl))
              have es8684 : mq8653 386 1 = m 386 1 := ((hFq8653 386 1 rfl).trans (hFq8554 386 1 rfl))
              have es8685 : mq8653 387 1 = m 387 1 := ((hFq8653 387 1 rfl).trans (hFq8554 387 1 rfl))
              have es8686 : mq8653 388 1 = m 388 1 := ((hFq8653 388 1 rfl).trans (hFq8554 388 1 rfl))
              have es8687 : mq8653 376 17 = m 376 17 := ((hFq8653 376 17 rfl).trans (hFq8554 376 17 rfl))
              have tb8688 := hT.atp 376 17 0 20 rfl
              have es8689 : mq8653 384 1 = m 384 1 := ((hFq8653 384 1 rfl).trans (hFq8554 384 1 rfl))
              refine y_callUB 101 [.ref 376, yI rq8554] [] c138_98 rfl rfl rfl rfl rfl (ycanO km137 ko376) (t137_1 hTq8653 (by omega) (by omega) (by omega) ((hX.fw hFq8554 wVr1_X).fw hFq8653 wNw_X) (by omega) (by omega) (by omega)) (fun mq8677 nq8677 hq8677 => ?_)
              obtain ⟨rfl, hTq8677, hFq8677, hlq8677, hq8677⟩ := hq8677
              have hAq8677 : 0 ≤ mq8677 376 8 ∨ (mq8677 376 8 < 0 ∧ mu mq8677 ≤ mu mq8653 ∧ mq8677 390 1 = m 390 1 + 1) := by rcases hq8677 with q | q; exact Or.inl q; exact Or.inr ⟨q.1, by omega, by omega⟩
              have x1q8677 : mq8677 376 1 = m 376 1 := ((hFq8677 376 1 rfl).trans ((hFq8653 376 1 rfl).trans (hFq8554 376 1 rfl)))
              have hF8690 := hF8656.tr hFq8677 (fun _ _ e => e)
              refine y_aload 102 c138_101 rfl rfl rfl ?_
              refine y_getX 105 (mq8677 376 8) c138_102 rfl kf376_8 rfl ?_
              have tb8691 := hTq8677.atp 376 8 ((-1)) 320 rfl
              refine y_if 118 108 c138_105 rfl rfl (yz_ge (by omega)) (fun hb8692 => ?_) (fun hb8692 => ?_)
              · have es8693 : mq8677 376 1 = m 376 1 := ((hFq8677 376 1 rfl).trans ((hFq8653 376 1 rfl).trans (hFq8554 376 1 rfl)))
                have tb8694 := hTq8677.atp 376 3 0 3 rfl
                have tb8695 := hTq8677.atp 376 6 0 320 rfl
                have tb8696 := hTq8677.atp 390 1 0 125 rfl
                have tb8697 := hTq8677.atp 386 1 0 12 rfl
                have tb8698 := hTq8677.atp 387 1 0 8 rfl
                have tb8699 := hTq8677.atp 388 1 0 12 rfl
                have tb8700 := hTq8677.atp 376 17 0 20 rfl
                have es8701 : mq8677 384 1 = m 384 1 := ((hFq8677 384 1 rfl).trans ((hFq8653 384 1 rfl).trans (hFq8554 384 1 rfl)))
                exact y_retU c138_118 ⟨rfl, hTq8677, hF8690, by omega, (by first | exact Or.inl (by omega) | exact Or.inr ⟨by omega, by omega, by omega, (hq8677.resolve_left (by omega)).2.2.2⟩ | (by_cases hq : 0 ≤ mq8677 376 8 <;> first | exact Or.inl (by omega) | exact Or.inr ⟨by omega, by omega, by omega, (hq8677.resolve_left (by omega)).2.2.2⟩))⟩
              · refine y_aload 109 c138_108 rfl rfl rfl ?_
                refine y_iconst 111 c138_109 rfl ?_
                have es8703 : mq8677 376 1 = m 376 1 := ((hFq8677 376 1 rfl).trans ((hFq8653 376 1 rfl).trans (hFq8554 376 1 rfl)))
                have tb8704 := hTq8677.atp 376 3 0 3 rfl
                have tb8705 := hTq8677.atp 376 6 0 320 rfl
                refine y_callIB 114 [.ref 376, yI 59] [] c138_111 rfl rfl rfl rfl rfl (ycanO km118 ko376) (t118 hTq8677 (by omega) (by omega)) (fun rq8702 mq8702 nq8702 hq8702 => ?_)
                obtain ⟨rfl, hTq8702, hFq8702, hq8702⟩ := hq8702
                have x1q8702 : mq8702 376 1 = m 376 1 := ((hFq8702 376 1 rfl).trans ((hFq8677 376 1 rfl).trans ((hFq8653 376 1 rfl).trans (hFq8554 376 1 rfl))))
                have hF8706 := hF8690.tr hFq8702 wNw_wSt1
                refine y_if 118 117 c138_114 rfl rfl (yz_ne (by omega)) (fun hb8707 => ?_) (fun hb8707 => ?_)
                · have es8708 : mq8702 376 1 = m 376 1 := ((hFq8702 376 1 rfl).trans ((hFq8677 376 1 rfl).trans ((hFq8653 376 1 rfl).trans (hFq8554 376 1 rfl))))
                  have tb8709 := hTq8702.atp 376 3 0 3 rfl
                  have tb8710 := hTq8702.atp 376 6 0 320 rfl
                  have tb8711 := hTq8702.atp 376 8 ((-1)) 320 rfl
                  have es8712 : mq8702 390 1 = mq8677 390 1 := (hFq8702 390 1 rfl)
                  have tb8713 := hTq8677.atp 390 1 0 125 rfl
                  have es8714 : mq8702 386 1 = mq8677 386 1 := (hFq8702 386 1 rfl)
                  have tb8715 := hTq8677.atp 386 1 0 12 rfl
                  have es8716 : mq8702 387 1 = mq8677 387 1 := (hFq8702 387 1 rfl)
                  have tb8717 := hTq8677.atp 387 1 0 8 rfl
                  have es8718 : mq8702 388 1 = mq8677 388 1 := (hFq8702 388 1 rfl)
                  have tb8719 := hTq8677.atp 388 1 0 12 rfl
                  have es8720 : mq8702 376 17 = mq8677 376 17 := (hFq8702 376 17 rfl)
                  have tb8721 := hTq8677.atp 376 17 0 20 rfl
                  have es8722 : mq8702 384 1 = m 384 1 := ((hFq8702 384 1 rfl).trans ((hFq8677 384 1 rfl).trans ((hFq8653 384 1 rfl).trans (hFq8554 384 1 rfl))))
                  exact y_retU c138_118 ⟨rfl, hTq8702, hF8706, by omega, (by first | exact Or.inl (by omega) | exact Or.inr ⟨by omega, by omega, by omega, (XS.fw (hq8677.resolve_left (by omega)).2.2.2 hFq8702 wNw_X)⟩ | (by_cases hq : 0 ≤ mq8702 376 8 <;> first | exact Or.inl (by omega) | exact Or.inr ⟨by omega, by omega, by omega, (XS.fw (hq8677.resolve_left (by omega)).2.2.2 hFq8702 wNw_X)⟩))⟩
                · have es8723 : mq8702 376 1 = m 376 1 := ((hFq8702 376 1 rfl).trans ((hFq8677 376 1 rfl).trans ((hFq8653 376 1 rfl).trans (hFq8554 376 1 rfl))))
                  have tb8724 := hTq8702.atp 376 3 0 3 rfl
                  have tb8725 := hTq8702.atp 376 6 0 320 rfl
                  have tb8726 := hTq8702.atp 376 8 ((-1)) 320 rfl
                  have es8727 : mq8702 390 1 = mq8677 390 1 := (hFq8702 390 1 rfl)
                  have tb8728 := hTq8677.atp 390 1 0 125 rfl
                  have es8729 : mq8702 386 1 = mq8677 386 1 := (hFq8702 386 1 rfl)
                  have tb8730 := hTq8677.atp 386 1 0 12 rfl
                  have es8731 : mq8702 387 1 = mq8677 387 1 := (hFq8702 387 1 rfl)
                  have tb8732 := hTq8677.atp 387 1 0 8 rfl
                  have es8733 : mq8702 388 1 = mq8677 388 1 := (hFq8702 388 1 rfl)
                  have tb8734 := hTq8677.atp 388 1 0 12 rfl
                  have es8735 : mq8702 376 17 = mq8677 376 17 := (hFq8702 376 17 rfl)
                  have tb8736 := hTq8677.atp 376 17 0 20 rfl
                  have es8737 : mq8702 384 1 = m 384 1 := ((hFq8702 384 1 rfl).trans ((hFq8677 384 1 rfl).trans ((hFq8653 384 1 rfl).trans (hFq8554 384 1 rfl))))
                  exact y_retU c138_117 ⟨rfl, hTq8702, hF8706, by omega, (by first | exact Or.inl (by omega) | exact Or.inr ⟨by omega, by omega, by omega, (XS.fw (hq8677.resolve_left (by omega)).2.2.2 hFq8702 wNw_X)⟩ | (by_cases hq : 0 ≤ mq8702 376 8 <;> first | exact Or.inl (by omega) | exact Or.inr ⟨by omega, by omega, by omega, (XS.fw (hq8677.resolve_left (by omega)).2.2.2 hFq8702 wNw_X)⟩))⟩
          · refine y_iconst 86 c138_85 rfl ?_
            refine y_goto 90 c138_86 rfl ?_
            have es8739 : mq8554 376 1 = m 376 1 := (hFq8554 376 1 rfl)
            have tb8740 := hTq8554.atp 376 6 0 320 rfl
            refine y_callIB 93 [.ref 376, yI 1] [] c138_90 rfl rfl rfl rfl rfl (ycanO km105 ko376) (t105 (g := 1) hTq8554 (by omega) (by omega)) (fun rq8738 mq8738 nq8738 hq8738 => ?_)
            obtain ⟨rfl, hTq8738, hFq8738, hq8738⟩ := hq8738
            have x1q8738 : mq8738 376 1 = m 376 1 := ((hFq8738 376 1 rfl).trans (hFq8554 376 1 rfl))
            have hF8741 := hF8559.tr hFq8738 wNw_wSt1
            refine y_if 101 96 c138_93 rfl rfl (yz_eq (by omega)) (fun hb8742 => ?_) (fun hb8742 => ?_)
            · refine y_aload 102 c138_101 rfl rfl rfl ?_
              refine y_getX 105 (mq8738 376 8) c138_102 rfl kf376_8 rfl ?_
              have tb8743 := hTq8738.atp 376 8 ((-1)) 320 rfl
              refine y_if 118 108 c138_105 rfl rfl (yz_ge (by omega)) (fun hb8744 => ?_) (fun hb8744 => ?_)
              · have es8745 : mq8738 376 1 = m 376 1 := ((hFq8738 376 1 rfl).trans (hFq8554 376 1 rfl))
                have tb8746 := hTq8738.atp 376 3 0 3 rfl
                have tb8747 := hTq8738.atp 376 6 0 320 rfl
                exact y_retU c138_118 ⟨rfl, hTq8738, hF8741, by omega, Or.inl (by omega)⟩
              · refine y_aload 109 c138_108 rfl rfl rfl ?_
                refine y_iconst 111 c138_109 rfl ?_
                have es8749 : mq8738 376 1 = m 376 1 := ((hFq8738 376 1 rfl).trans (hFq8554 376 1 rfl))
                have tb8750 := hTq8738.atp 376 3 0 3 rfl
                have tb8751 := hTq8738.atp 376 6 0 320 rfl
                refine y_callIB 114 [.ref 376, yI 59] [] c138_111 rfl rfl rfl rfl rfl (ycanO km118 ko376) (t118 hTq8738 (by omega) (by omega)) (fun rq8748 mq8748 nq8748 hq8748 => ?_)
                obtain ⟨rfl, hTq8748, hFq8748, hq8748⟩ := hq8748
                have x1q8748 : mq8748 376 1 = m 376 1 := ((hFq8748 376 1 rfl).trans ((hFq8738 376 1 rfl).trans (hFq8554 376 1 rfl)))
                have hF8752 := hF8741.tr hFq8748 wNw_wSt1
                refine y_if 118 117 c138_114 rfl rfl (yz_ne (by omega)) (fun hb8753 => ?_) (fun hb8753 => ?_)
                · have es8754 : mq8748 376 1 = m 376 1 := ((hFq8748 376 1 rfl).trans ((hFq8738 376 1 rfl).trans (hFq8554 376 1 rfl)))
                  have tb8755 := hTq8748.atp 376 3 0 3 rfl
                  have tb8756 := hTq8748.atp 376 6 0 320 rfl
                  have tb8757 := hTq8748.atp 376 8 ((-1)) 320 rfl
                  exact y_retU c138_118 ⟨rfl, hTq8748, hF8752, by omega, Or.inl (by omega)⟩
                · have es8758 : mq8748 376 1 = m 376 1 := ((hFq8748 376 1 rfl).trans ((hFq8738 376 1 rfl).trans (hFq8554 376 1 rfl)))
                  have tb8759 := hTq8748.atp 376 3 0 3 rfl
                  have tb8760 := hTq8748.atp 376 6 0 320 rfl
                  have tb8761 := hTq8748.atp 376 8 ((-1)) 320 rfl
                  exact y_retU c138_117 ⟨rfl, hTq8748, hF8752, by omega, Or.inl (by omega)⟩
            · refine y_aload 97 c138_96 rfl rfl rfl ?_
              refine y_iload 98 c138_97 rfl rfl ?_
              have es8763 : mq8738 376 1 = m 376 1 := ((hFq8738 376 1 rfl).trans (hFq8554 376 1 rfl))
              have tb8764 := hTq8738.atp 376 3 0 3 rfl
              have tb8765 := hTq8738.atp 376 6 0 320 rfl
              have tb8766 := hTq8738.atp 376 8 ((-1)) 320 rfl
              have es8767 : mq8738 376 18 = m 376 18 := ((hFq8738 376 18 rfl).trans (hFq8554 376 18 rfl))
              have es8768 : mq8738 390 1 = m 390 1 := ((hFq8738 390 1 rfl).trans (hFq8554 390 1 rfl))
              have es8769 : mq8738 386 1 = m 386 1 := ((hFq8738 386 1 rfl).trans (hFq8554 386 1 rfl))
              have es8770 : mq8738 387 1 = m 387 1 := ((hFq8738 387 1 rfl).trans (hFq8554 387 1 rfl))
              have es8771 : mq8738 388 1 = m 388 1 := ((hFq8738 388 1 rfl).trans (hFq8554 388 1 rfl))
              have es8772 : mq8738 376 17 = m 376 17 := ((hFq8738 376 17 rfl).trans (hFq8554 376 17 rfl))
              have tb8773 := hT.atp 376 17 0 20 rfl
              have es8774 : mq8738 384 1 = m 384 1 := ((hFq8738 384 1 rfl).trans (hFq8554 384 1 rfl))
              refine y_callUB 101 [.ref 376, yI rq8554] [] c138_98 rfl rfl rfl rfl rfl (ycanO km137 ko376) (t137_1 hTq8738 (by omega) (by omega) (by omega) ((hX.fw hFq8554 wVr1_X).fw hFq8738 wNw_X) (by omega) (by omega) (by omega)) (fun mq8762 nq8762 hq8762 => ?_)
              obtain ⟨rfl, hTq8762, hFq8762, hlq8762, hq8762⟩ := hq8762
              have hAq8762 : 0 ≤ mq8762 376 8 ∨ (mq8762 376 8 < 0 ∧ mu mq8762 ≤ mu mq8738 ∧ mq8762 390 1 = m 390 1 + 1) := by rcases hq8762 with q | q; exact Or.inl q; exact Or.inr ⟨q.1, by omega, by omega⟩
              have x1q8762 : mq8762 376 1 = m 376 1 := ((hFq8762 376 1 rfl).trans ((hFq8738 376 1 rfl).trans (hFq8554 376 1 rfl)))
              have hF8775 := hF8741.tr hFq8762 (fun _ _ e => e)
              refine y_aload 102 c138_101 rfl rfl rfl ?_
              refine y_getX 105 (mq8762 376 8) c138_102 rfl kf376_8 rfl ?_
              have tb8776 := hTq8762.atp 376 8 ((-1)) 320 rfl
              refine y_if 118 108 c138_105 rfl rfl (yz_ge (by omega)) (fun hb8777 => ?_) (fun hb8777 => ?_)
              · have es8778 : mq8762 376 1 = m 376 1 := ((hFq8762 376 1 rfl).trans ((hFq8738 376 1 rfl).trans (hFq8554 376 1 rfl)))
                have tb8779 := hTq8762.atp 376 3 0 3 rfl
                have tb8780 := hTq8762.atp 376 6 0 320 rfl
                have tb8781 := hTq8762.atp 390 1 0 125 rfl
                have tb8782 := hTq8762.atp 386 1 0 12 rfl
                have tb8783 := hTq8762.atp 387 1 0 8 rfl
                have tb8784 := hTq8762.atp 388 1 0 12 rfl
                have tb8785 := hTq8762.atp 376 17 0 20 rfl
                have es8786 : mq8762 384 1 = m 384 1 := ((hFq8762 384 1 rfl).trans ((hFq8738 384 1 rfl).trans (hFq8554 384 1 rfl)))
                exact y_retU c138_118 ⟨rfl, hTq8762, hF8775, by omega, (by first | exact Or.inl (by omega) | exact Or.inr ⟨by omega, by omega, by omega, (hq8762.resolve_left (by omega)).2.2.2⟩ | (by_cases hq : 0 ≤ mq8762 376 8 <;> first | exact Or.inl (by omega) | exact Or.inr ⟨by omega, by omega, by omega, (hq8762.resolve_left (by omega)).2.2.2⟩))⟩
              · refine y_aload 109 c138_108 rfl rfl rfl ?_
                refine y_iconst 111 c138_109 rfl ?_
                have es8788 : mq8762 376 1 = m 376 1 := ((hFq8762 376 1 rfl).trans ((hFq8738 376 1 rfl).trans (hFq8554 376 1 rfl)))
                have tb8789 := hTq8762.atp 376 3 0 3 rfl
                have tb8790 := hTq8762.atp 376 6 0 320 rfl
                refine y_callIB 114 [.ref 376, yI 59] [] c138_111 rfl rfl rfl rfl rfl (ycanO km118 ko376) (t118 hTq8762 (by omega) (by omega)) (fun rq8787 mq8787 nq8787 hq8787 => ?_)
                obtain ⟨rfl, hTq8787, hFq8787, hq8787⟩ := hq8787
                have x1q8787 : mq8787 376 1 = m 376 1 := ((hFq8787 376 1 rfl).trans ((hFq8762 376 1 rfl).trans ((hFq8738 376 1 rfl).trans (hFq8554 376 1 rfl))))
                have hF8791 := hF8775.tr hFq8787 wNw_wSt1
                refine y_if 118 117 c138_114 rfl rfl (yz_ne (by omega)) (fun hb8792 => ?_) (fun hb8792 => ?_)
                · have es8793 : mq8787 376 1 = m 376 1 := ((hFq8787 376 1 rfl).trans ((hFq8762 376 1 rfl).trans ((hFq8738 376 1 rfl).trans (hFq8554 376 1 rfl))))
                  have tb8794 := hTq8787.atp 376 3 0 3 rfl
                  have tb8795 := hTq8787.atp 376 6 0 320 rfl
                  have tb8796 := hTq8787.atp 376 8 ((-1)) 320 rfl
                  have es8797 : mq8787 390 1 = mq8762 390 1 := (hFq8787 390 1 rfl)
                  have tb8798 := hTq8762.atp 390 1 0 125 rfl
                  have es8799 : mq8787 386 1 = mq8762 386 1 := (hFq8787 386 1 rfl)
                  have tb8800 := hTq8762.atp 386 1 0 12 rfl
                  have es8801 : mq8787 387 1 = mq8762 387 1 := (hFq8787 387 1 rfl)
                  have tb8802 := hTq8762.atp 387 1 0 8 rfl
                  have es8803 : mq8787 388 1 = mq8762 388 1 := (hFq8787 388 1 rfl)
                  have tb8804 := hTq8762.atp 388 1 0 12 rfl
                  have es8805 : mq8787 376 17 = mq8762 376 17 := (hFq8787 376 17 rfl)
                  have tb8806 := hTq8762.atp 376 17 0 20 rfl
                  have es8807 : mq8787 384 1 = m 384 1 := ((hFq8787 384 1 rfl).trans ((hFq8762 384 1 rfl).trans ((hFq8738 384 1 rfl).trans (hFq8554 384 1 rfl))))
                  exact y_retU c138_118 ⟨rfl, hTq8787, hF8791, by omega, (by first | exact Or.inl (by omega) | exact Or.inr ⟨by omega, by omega, by omega, (XS.fw (hq8762.resolve_left (by omega)).2.2.2 hFq8787 wNw_X)⟩ | (by_cases hq : 0 ≤ mq8787 376 8 <;> first | exact Or.inl (by omega) | exact Or.inr ⟨by omega, by omega, by omega, (XS.fw (hq8762.resolve_left (by omega)).2.2.2 hFq8787 wNw_X)⟩))⟩
                · have es8808 : mq8787 376 1 = m 376 1 := ((hFq8787 376 1 rfl).trans ((hFq8762 376 1 rfl).trans ((hFq8738 376 1 rfl).trans (hFq8554 376 1 rfl))))
                  have tb8809 := hTq8787.atp 376 3 0 3 rfl
                  have tb8810 := hTq8787.atp 376 6 0 320 rfl
                  have tb8811 := hTq8787.atp 376 8 ((-1)) 320 rfl
                  have es8812 : mq8787 390 1 = mq8762 390 1 := (hFq8787 390 1 rfl)
                  have tb8813 := hTq8762.atp 390 1 0 125 rfl
                  have es8814 : mq8787 386 1 = mq8762 386 1 := (hFq8787 386 1 rfl)
                  have tb8815 := hTq8762.atp 386 1 0 12 rfl
                  have es8816 : mq8787 387 1 = mq8762 387 1 := (hFq8787 387 1 rfl)
                  have tb8817 := hTq8762.atp 387 1 0 8 rfl
                  have es8818 : mq8787 388 1 = mq8762 388 1 := (hFq8787 388 1 rfl)
                  have tb8819 := hTq8762.atp 388 1 0 12 rfl
                  have es8820 : mq8787 376 17 = mq8762 376 17 := (hFq8787 376 17 rfl)
                  have tb8821 := hTq8762.atp 376 17 0 20 rfl
                  have es8822 : mq8787 384 1 = m 384 1 := ((hFq8787 384 1 rfl).trans ((hFq8762 384 1 rfl).trans ((hFq8738 384 1 rfl).trans (hFq8554 384 1 rfl))))
                  exact y_retU c138_117 ⟨rfl, hTq8787, hF8791, by omega, (by first | exact Or.inl (by omega) | exact Or.inr ⟨by omega, by omega, by omega, (XS.fw (hq8762.resolve_left (by omega)).2.2.2 hFq8787 wNw_X)⟩ | (by_cases hq : 0 ≤ mq8787 376 8 <;> first | exact Or.inl (by omega) | exact Or.inr ⟨by omega, by omega, by omega, (XS.fw (hq8762.resolve_left (by omega)).2.2.2 hFq8787 wNw_X)⟩))⟩
      · refine y_aload 64 c138_63 rfl rfl rfl ?_
        refine y_iload 65 c138_64 rfl rfl ?_
        have es8824 : mq8554 376 1 = m 376 1 := (hFq8554 376 1 rfl)
        have tb8825 := hTq8554.atp 376 6 0 320 rfl
        have es8826 : mq8554 376 18 = m 376 18 := (hFq8554 376 18 rfl)
        have es8827 : mq8554 390 1 = m 390 1 := (hFq8554 390 1 rfl)
        have es8828 : mq8554 386 1 = m 386 1 := (hFq8554 386 1 rfl)
        have es8829 : mq8554 387 1 = m 387 1 := (hFq8554 387 1 rfl)
        have es8830 : mq8554 388 1 = m 388 1 := (hFq8554 388 1 rfl)
        have es8831 : mq8554 376 17 = m 376 17 := (hFq8554 376 17 rfl)
        have tb8832 := hT.atp 376 17 0 20 rfl
        have es8833 : mq8554 384 1 = m 384 1 := (hFq8554 384 1 rfl)
        refine y_callUB 68 [.ref 376, yI rq8554] [] c138_65 rfl rfl rfl rfl rfl (ycanO km133 ko376) (t133_1 hTq8554 (by omega) (by omega) (by omega) (hX.fw hFq8554 wVr1_X) (by omega) (by omega) (by omega)) (fun mq8823 nq8823 hq8823 => ?_)
        obtain ⟨rfl, hTq8823, hFq8823, hlq8823, hq8823⟩ := hq8823
        have hAq8823 : 0 ≤ mq8823 376 8 ∨ (mq8823 376 8 < 0 ∧ mu mq8823 ≤ mu mq8554 ∧ mq8823 390 1 = m 390 1 + 1) := by rcases hq8823 with q | q; exact Or.inl q; exact Or.inr ⟨q.1, by omega, by omega⟩
        have x1q8823 : mq8823 376 1 = m 376 1 := ((hFq8823 376 1 rfl).trans (hFq8554 376 1 rfl))
        have hF8834 := hF8559.tr hFq8823 (fun _ _ e => e)
        refine y_goto 101 c138_68 rfl ?_
        refine y_aload 102 c138_101 rfl rfl rfl ?_
        refine y_getX 105 (mq8823 376 8) c138_102 rfl kf376_8 rfl ?_
        have tb8835 := hTq8823.atp 376 8 ((-1)) 320 rfl
        refine y_if 118 108 c138_105 rfl rfl (yz_ge (by omega)) (fun hb8836 => ?_) (fun hb8836 => ?_)
        · have es8837 : mq8823 376 1 = m 376 1 := ((hFq8823 376 1 rfl).trans (hFq8554 376 1 rfl))
          have tb8838 := hTq8823.atp 376 3 0 3 rfl
          have tb8839 := hTq8823.atp 376 6 0 320 rfl
          have tb8840 := hTq8823.atp 390 1 0 125 rfl
          have tb8841 := hTq8823.atp 386 1 0 12 rfl
          have tb8842 := hTq8823.atp 387 1 0 8 rfl
          have tb8843 := hTq8823.atp 388 1 0 12 rfl
          have tb8844 := hTq8823.atp 376 17 0 20 rfl
          have es8845 : mq8823 384 1 = m 384 1 := ((hFq8823 384 1 rfl).trans (hFq8554 384 1 rfl))
          exact y_retU c138_118 ⟨rfl, hTq8823, hF8834, by omega, (by first | exact Or.inl (by omega) | exact Or.inr ⟨by omega, by omega, by omega, (hq8823.resolve_left (by omega)).2.2.2⟩ | (by_cases hq : 0 ≤ mq8823 376 8 <;> first | exact Or.inl (by omega) | exact Or.inr ⟨by omega, by omega, by omega, (hq8823.resolve_left (by omega)).2.2.2⟩))⟩
        · refine y_aload 109 c138_108 rfl rfl rfl ?_
          refine y_iconst 111 c138_109 rfl ?_
          have es8847 : mq8823 376 1 = m 376 1 := ((hFq8823 376 1 rfl).trans (hFq8554 376 1 rfl))
          have tb8848 := hTq8823.atp 376 3 0 3 rfl
          have tb8849 := hTq8823.atp 376 6 0 320 rfl
          refine y_callIB 114 [.ref 376, yI 59] [] c138_111 rfl rfl rfl rfl rfl (ycanO km118 ko376) (t118 hTq8823 (by omega) (by omega)) (fun rq8846 mq8846 nq8846 hq8846 => ?_)
          obtain ⟨rfl, hTq8846, hFq8846, hq8846⟩ := hq8846
          have x1q8846 : mq8846 376 1 = m 376 1 := ((hFq8846 376 1 rfl).trans ((hFq8823 376 1 rfl).trans (hFq8554 376 1 rfl)))
          have hF8850 := hF8834.tr hFq8846 wNw_wSt1
          refine y_if 118 117 c138_114 rfl rfl (yz_ne (by omega)) (fun hb8851 => ?_) (fun hb8851 => ?_)
          · have es8852 : mq8846 376 1 = m 376 1 := ((hFq8846 376 1 rfl).trans ((hFq8823 376 1 rfl).trans (hFq8554 376 1 rfl)))
            have tb8853 := hTq8846.atp 376 3 0 3 rfl
            have tb8854 := hTq8846.atp 376 6 0 320 rfl
            have tb8855 := hTq8846.atp 376 8 ((-1)) 320 rfl
            have es8856 : mq8846 390 1 = mq8823 390 1 := (hFq8846 390 1 rfl)
            have tb8857 := hTq8823.atp 390 1 0 125 rfl
            have es8858 : mq8846 386 1 = mq8823 386 1 := (hFq8846 386 1 rfl)
            have tb8859 := hTq8823.atp 386 1 0 12 rfl
            have es8860 : mq8846 387 1 = mq8823 387 1 := (hFq8846 387 1 rfl)
            have tb8861 := hTq8823.atp 387 1 0 8 rfl
            have es8862 : mq8846 388 1 = mq8823 388 1 := (hFq8846 388 1 rfl)
            have tb8863 := hTq8823.atp 388 1 0 12 rfl
            have es8864 : mq8846 376 17 = mq8823 376 17 := (hFq8846 376 17 rfl)
            have tb8865 := hTq8823.atp 376 17 0 20 rfl
            have es8866 : mq8846 384 1 = m 384 1 := ((hFq8846 384 1 rfl).trans ((hFq8823 384 1 rfl).trans (hFq8554 384 1 rfl)))
            exact y_retU c138_118 ⟨rfl, hTq8846, hF8850, by omega, (by first | exact Or.inl (by omega) | exact Or.inr ⟨by omega, by omega, by omega, (XS.fw (hq8823.resolve_left (by omega)).2.2.2 hFq8846 wNw_X)⟩ | (by_cases hq : 0 ≤ mq8846 376 8 <;> first | exact Or.inl (by omega) | exact Or.inr ⟨by omega, by omega, by omega, (XS.fw (hq8823.resolve_left (by omega)).2.2.2 hFq8846 wNw_X)⟩))⟩
          · have es8867 : mq8846 376 1 = m 376 1 := ((hFq8846 376 1 rfl).trans ((hFq8823 376 1 rfl).trans (hFq8554 376 1 rfl)))
            have tb8868 := hTq8846.atp 376 3 0 3 rfl
            have tb8869 := hTq8846.atp 376 6 0 320 rfl
            have tb8870 := hTq8846.atp 376 8 ((-1)) 320 rfl
            have es8871 : mq8846 390 1 = mq8823 390 1 := (hFq8846 390 1 rfl)
            have tb8872 := hTq8823.atp 390 1 0 125 rfl
            have es8873 : mq8846 386 1 = mq8823 386 1 := (hFq8846 386 1 rfl)
            have tb8874 := hTq8823.atp 386 1 0 12 rfl
            have es8875 : mq8846 387 1 = mq8823 387 1 := (hFq8846 387 1 rfl)
            have tb8876 := hTq8823.atp 387 1 0 8 rfl
            have es8877 : mq8846 388 1 = mq8823 388 1 := (hFq8846 388 1 rfl)
            have tb8878 := hTq8823.atp 388 1 0 12 rfl
            have es8879 : mq8846 376 17 = mq8823 376 17 := (hFq8846 376 17 rfl)
            have tb8880 := hTq8823.atp 376 17 0 20 rfl
            have es8881 : mq8846 384 1 = m 384 1 := ((hFq8846 384 1 rfl).trans ((hFq8823 384 1 rfl).trans (hFq8554 384 1 rfl)))
            exact y_retU c138_117 ⟨rfl, hTq8846, hF8850, by omega, (by first | exact Or.inl (by omega) | exact Or.inr ⟨by omega, by omega, by omega, (XS.fw (hq8823.resolve_left (by omega)).2.2.2 hFq8846 wNw_X)⟩ | (by_cases hq : 0 ≤ mq8846 376 8 <;> first | exact Or.inl (by omega) | exact Or.inr ⟨by omega, by omega, by omega, (XS.fw (hq8823.resolve_left (by omega)).2.2.2 hFq8846 wNw_X)⟩))⟩
    · have es8882 : mq8554 376 1 = m 376 1 := (hFq8554 376 1 rfl)
      have tb8883 := hTq8554.atp 376 3 0 3 rfl
      have tb8884 := hTq8554.atp 376 6 0 320 rfl
      exact y_retU c138_53 ⟨rfl, hTq8554, hF8559, by omega, Or.inl (by omega)⟩
  · refine y_aload 13 c138_12 rfl rfl rfl ?_
    have tb8886 := hT.atp 376 1 0 320 rfl
    have tb8887 := hT.atp 376 6 0 320 rfl
    have tb8888 := hT.atp 376 8 ((-1)) 320 rfl
    refine y_callUB 16 [.ref 376] [] c138_13 rfl rfl rfl rfl rfl (ycanO km99 ko376) (t99u hT (by omega)) (fun mq8885 nq8885 hq8885 => ?_)
    obtain ⟨rfl, hTq8885, hFq8885, hq8885⟩ := hq8885
    have x1q8885 : mq8885 376 1 = m 376 1 := (hFq8885 376 1 rfl)
    have hF8889 := hF.tr hFq8885 wNx_wSt1
    refine y_aload 17 c138_16 rfl rfl rfl ?_
    have es8891 : mq8885 376 1 = m 376 1 := (hFq8885 376 1 rfl)
    have tb8892 := hTq8885.atp 376 3 0 3 rfl
    have tb8893 := hTq8885.atp 376 6 0 320 rfl
    have es8894 : mq8885 376 8 = m 376 8 := (hFq8885 376 8 rfl)
    have es8895 : mq8885 376 18 = m 376 18 := (hFq8885 376 18 rfl)
    have tb8896 := hT.atp 376 18 0 1 rfl
    refine y_callIB 20 [.ref 376] [] c138_17 rfl rfl rfl rfl rfl (ycanO km130 ko376) (t130_1 hTq8885 (by omega) (by omega) (by omega)) (fun rq8890 mq8890 nq8890 hq8890 => ?_)
    obtain ⟨rfl, hTq8890, hFq8890, hq8890⟩ := hq8890
    have x1q8890 : mq8890 376 1 = m 376 1 := ((hFq8890 376 1 rfl).trans (hFq8885 376 1 rfl))
    have hF8897 := hF8889.tr hFq8890 wVr1_wSt1
    refine y_istore 21 c138_20 rfl rfl ?_
    refine y_aload 22 c138_21 rfl rfl rfl ?_
    refine y_getX 25 (mq8890 376 8) c138_22 rfl kf376_8 rfl ?_
    have tb8898 := hTq8890.atp 376 8 ((-1)) 320 rfl
    refine y_if 38 28 c138_25 rfl rfl (yz_ge (by omega)) (fun hb8899 => ?_) (fun hb8899 => ?_)
    · refine y_goto 101 c138_38 rfl ?_
      refine y_aload 102 c138_101 rfl rfl rfl ?_
      refine y_getX 105 (mq8890 376 8) c138_102 rfl kf376_8 rfl ?_
      refine y_if 118 108 c138_105 rfl rfl (yz_ge (by omega)) (fun hb8900 => ?_) (fun hb8900 => ?_)
      · have es8901 : mq8890 376 1 = m 376 1 := ((hFq8890 376 1 rfl).trans (hFq8885 376 1 rfl))
        have tb8902 := hTq8890.atp 376 3 0 3 rfl
        have tb8903 := hTq8890.atp 376 6 0 320 rfl
        exact y_retU c138_118 ⟨rfl, hTq8890, hF8897, by omega, Or.inl (by omega)⟩
      · exfalso; omega
    · refine y_aload 29 c138_28 rfl rfl rfl ?_
      refine y_iconst 31 c138_29 rfl ?_
      refine y_iload 32 c138_31 rfl rfl ?_
      refine y_iconst 33 c138_32 rfl ?_
      refine y_iconst 34 c138_33 rfl ?_
      have es8905 : mq8890 376 1 = m 376 1 := ((hFq8890 376 1 rfl).trans (hFq8885 376 1 rfl))
      have tb8906 := hTq8890.atp 376 3 0 3 rfl
      have tb8907 := hTq8890.atp 376 6 0 320 rfl
      have es8908 : mq8890 376 18 = m 376 18 := ((hFq8890 376 18 rfl).trans (hFq8885 376 18 rfl))
      have es8909 : mq8890 390 1 = m 390 1 := ((hFq8890 390 1 rfl).trans (hFq8885 390 1 rfl))
      have es8910 : mq8890 386 1 = m 386 1 := ((hFq8890 386 1 rfl).trans (hFq8885 386 1 rfl))
      have es8911 : mq8890 387 1 = m 387 1 := ((hFq8890 387 1 rfl).trans (hFq8885 387 1 rfl))
      have es8912 : mq8890 388 1 = m 388 1 := ((hFq8890 388 1 rfl).trans (hFq8885 388 1 rfl))
      have es8913 : mq8890 376 17 = m 376 17 := ((hFq8890 376 17 rfl).trans (hFq8885 376 17 rfl))
      have tb8914 := hT.atp 376 17 0 20 rfl
      have es8915 : mq8890 384 1 = m 384 1 := ((hFq8890 384 1 rfl).trans (hFq8885 384 1 rfl))
      refine y_callIB 37 [.ref 376, yI 6, yI rq8890, yI 0, yI 0] [] c138_34 rfl rfl rfl rfl rfl (ycanO km127 ko376) (t127_1 hTq8890 (by omega) (by omega) (by omega) (by omega) (by omega) (by omega)) (fun rq8904 mq8904 nq8904 hq8904 => ?_)
      obtain ⟨rfl, hTq8904, hFq8904, hq8904, hE⟩ := hq8904
      unfold EM at hE
      rw [show mq8890 390 1 = m 390 1 from ((hFq8890 390 1 rfl).trans (hFq8885 390 1 rfl))] at hE
      obtain ⟨k1, k2, k3, k4, k5, k6, k7⟩ := hE
      have k8 : ∀ q, q < 1000 * 1 + 8 * (m 390 1).toNat ∨ 1000 * 1 + 8 * (m 390 1).toNat + 8 ≤ q → mq8904 403 q = m 403 q := fun q hq => (k7 q hq).trans (((hFq8890 403 q rfl).trans (hFq8885 403 q rfl)))
      have x1q8904 : mq8904 376 1 = m 376 1 := ((hFq8904 376 1 rfl).trans ((hFq8890 376 1 rfl).trans (hFq8885 376 1 rfl)))
      have hF8916 := hF8897.tr hFq8904 wEm1_wSt1
      refine y_istore 38 c138_37 rfl rfl ?_
      refine y_goto 101 c138_38 rfl ?_
      refine y_aload 102 c138_101 rfl rfl rfl ?_
      refine y_getX 105 (mq8890 376 8) c138_102 rfl kf376_8 (hFq8904 376 8 rfl) ?_
      refine y_top ((-1)) (by omega) ?_
      refine y_if 118 108 c138_105 rfl rfl (yz_ge (by omega)) (fun hb8917 => ?_) (fun hb8917 => ?_)
      · exfalso; omega
      · refine y_aload 109 c138_108 rfl rfl rfl ?_
        refine y_iconst 111 c138_109 rfl ?_
        have es8919 : mq8904 376 1 = m 376 1 := ((hFq8904 376 1 rfl).trans ((hFq8890 376 1 rfl).trans (hFq8885 376 1 rfl)))
        have es8920 : mq8904 376 3 = mq8890 376 3 := (hFq8904 376 3 rfl)
        have es8921 : mq8904 376 6 = mq8890 376 6 := (hFq8904 376 6 rfl)
        have es8922 : mq8904 376 8 = mq8890 376 8 := (hFq8904 376 8 rfl)
        have em8923 : mu mq8904 = mu mq8890 := mu_fr (hFq8904 376 1 rfl) (hFq8904 376 3 rfl) (hFq8904 376 6 rfl)
        refine y_callIB 114 [.ref 376, yI 59] [] c138_111 rfl rfl rfl rfl rfl (ycanO km118 ko376) (t118 hTq8904 (by omega) (by omega)) (fun rq8918 mq8918 nq8918 hq8918 => ?_)
        obtain ⟨rfl, hTq8918, hFq8918, hq8918⟩ := hq8918
        have x1q8918 : mq8918 376 1 = m 376 1 := ((hFq8918 376 1 rfl).trans ((hFq8904 376 1 rfl).trans ((hFq8890 376 1 rfl).trans (hFq8885 376 1 rfl))))
        have hF8924 := hF8916.tr hFq8918 wNw_wSt1
        refine y_if 118 117 c138_114 rfl rfl (yz_ne (by omega)) (fun hb8925 => ?_) (fun hb8925 => ?_)
        · have es8926 : mq8918 376 1 = m 376 1 := ((hFq8918 376 1 rfl).trans ((hFq8904 376 1 rfl).trans ((hFq8890 376 1 rfl).trans (hFq8885 376 1 rfl))))
          have tb8927 := hTq8918.atp 376 3 0 3 rfl
          have tb8928 := hTq8918.atp 376 6 0 320 rfl
          have tb8929 := hTq8918.atp 376 8 ((-1)) 320 rfl
          have es8930 : mq8918 390 1 = mq8904 390 1 := (hFq8918 390 1 rfl)
          have tb8931 := hTq8904.atp 390 1 0 125 rfl
          have es8932 : mq8918 386 1 = m 386 1 := ((hFq8918 386 1 rfl).trans ((hFq8904 386 1 rfl).trans ((hFq8890 386 1 rfl).trans (hFq8885 386 1 rfl))))
          have es8933 : mq8918 387 1 = m 387 1 := ((hFq8918 387 1 rfl).trans ((hFq8904 387 1 rfl).trans ((hFq8890 387 1 rfl).trans (hFq8885 387 1 rfl))))
          have es8934 : mq8918 388 1 = m 388 1 := ((hFq8918 388 1 rfl).trans ((hFq8904 388 1 rfl).trans ((hFq8890 388 1 rfl).trans (hFq8885 388 1 rfl))))
          have es8935 : mq8918 376 17 = m 376 17 := ((hFq8918 376 17 rfl).trans ((hFq8904 376 17 rfl).trans ((hFq8890 376 17 rfl).trans (hFq8885 376 17 rfl))))
          have es8936 : mq8918 384 1 = m 384 1 := ((hFq8918 384 1 rfl).trans ((hFq8904 384 1 rfl).trans ((hFq8890 384 1 rfl).trans (hFq8885 384 1 rfl))))
          have f0 : mq8918 403 (1000 * 1 + 8 * (m 390 1).toNat) = _ := ((hFq8918 403 _ rfl)).trans k2
          have f1 : mq8918 403 (1000 * 1 + 8 * (m 390 1).toNat + 1) = _ := ((hFq8918 403 _ rfl)).trans k3
          have f2 : mq8918 403 (1000 * 1 + 8 * (m 390 1).toNat + 2) = _ := ((hFq8918 403 _ rfl)).trans k4
          have f3 : mq8918 403 (1000 * 1 + 8 * (m 390 1).toNat + 3) = _ := ((hFq8918 403 _ rfl)).trans k5
          have f4 : mq8918 403 (1000 * 1 + 8 * (m 390 1).toNat + 4) = _ := ((hFq8918 403 _ rfl)).trans k6
          have hw : OW mq8918 (1000 * 1 + 8 * (m 390 1).toNat) := by unfold OW; omega
          have hx : XS 1 mq8918 := XS.add hX (by omega) (fun a q ha => hF8924 a q (wSt1_Y a q ha)) (fun q hq => ((hFq8918 403 q rfl)).trans (k8 q hq)) hw (by omega) (by omega) (by omega) (by omega) (by omega) (by omega) (by omega) (fun c hc => by rw [show mq8918 401 (8 * 1 + c) = m 401 (8 * 1 + c) from ((hFq8918 401 _ rfl).trans ((hFq8904 401 _ rfl).trans ((hFq8890 401 _ rfl).trans (hFq8885 401 _ rfl))))]; exact hCV c (by omega)) (by omega) (by omega)
          exact y_retU c138_118 ⟨rfl, hTq8918, hF8924, by omega, by first | exact Or.inl (by omega) | exact Or.inr ⟨by omega, by omega, by omega, hx⟩⟩
        · have es8937 : mq8918 376 1 = m 376 1 := ((hFq8918 376 1 rfl).trans ((hFq8904 376 1 rfl).trans ((hFq8890 376 1 rfl).trans (hFq8885 376 1 rfl))))
          have tb8938 := hTq8918.atp 376 3 0 3 rfl
          have tb8939 := hTq8918.atp 376 6 0 320 rfl
          have tb8940 := hTq8918.atp 376 8 ((-1)) 320 rfl
          have es8941 : mq8918 390 1 = mq8904 390 1 := (hFq8918 390 1 rfl)
          have tb8942 := hTq8904.atp 390 1 0 125 rfl
          have es8943 : mq8918 386 1 = m 386 1 := ((hFq8918 386 1 rfl).trans ((hFq8904 386 1 rfl).trans ((hFq8890 386 1 rfl).trans (hFq8885 386 1 rfl))))
          have es8944 : mq8918 387 1 = m 387 1 := ((hFq8918 387 1 rfl).trans ((hFq8904 387 1 rfl).trans ((hFq8890 387 1 rfl).trans (hFq8885 387 1 rfl))))
          have es8945 : mq8918 388 1 = m 388 1 := ((hFq8918 388 1 rfl).trans ((hFq8904 388 1 rfl).trans ((hFq8890 388 1 rfl).trans (hFq8885 388 1 rfl))))
          have es8946 : mq8918 376 17 = m 376 17 := ((hFq8918 376 17 rfl).trans ((hFq8904 376 17 rfl).trans ((hFq8890 376 17 rfl).trans (hFq8885 376 17 rfl))))
          have es8947 : mq8918 384 1 = m 384 1 := ((hFq8918 384 1 rfl).trans ((hFq8904 384 1 rfl).trans ((hFq8890 384 1 rfl).trans (hFq8885 384 1 rfl))))
          have f0 : mq8918 403 (1000 * 1 + 8 * (m 390 1).toNat) = _ := ((hFq8918 403 _ rfl)).trans k2
          have f1 : mq8918 403 (1000 * 1 + 8 * (m 390 1).toNat + 1) = _ := ((hFq8918 403 _ rfl)).trans k3
          have f2 : mq8918 403 (1000 * 1 + 8 * (m 390 1).toNat + 2) = _ := ((hFq8918 403 _ rfl)).trans k4
          have f3 : mq8918 403 (1000 * 1 + 8 * (m 390 1).toNat + 3) = _ := ((hFq8918 403 _ rfl)).trans k5
          have f4 : mq8918 403 (1000 * 1 + 8 * (m 390 1).toNat + 4) = _ := ((hFq8918 403 _ rfl)).trans k6
          have hw : OW mq8918 (1000 * 1 + 8 * (m 390 1).toNat) := by unfold OW; omega
          have hx : XS 1 mq8918 := XS.add hX (by omega) (fun a q ha => hF8924 a q (wSt1_Y a q ha)) (fun q hq => ((hFq8918 403 q rfl)).trans (k8 q hq)) hw (by omega) (by omega) (by omega) (by omega) (by omega) (by omega) (by omega) (fun c hc => by rw [show mq8918 401 (8 * 1 + c) = m 401 (8 * 1 + c) from ((hFq8918 401 _ rfl).trans ((hFq8904 401 _ rfl).trans ((hFq8890 401 _ rfl).trans (hFq8885 401 _ rfl))))]; exact hCV c (by omega)) (by omega) (by omega)
          exact y_retU c138_117 ⟨rfl, hTq8918, hF8924, by omega, by first | exact Or.inl (by omega) | exact Or.inr ⟨by omega, by omega, by omega, hx⟩⟩
end
