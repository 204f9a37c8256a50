/-! CONTRACTS: the model, variables. Printed by wip/whole/gen96.py -/
def wVp0 (a q : Nat) : Bool := (a == 389 && q == 0) || a == 380
theorem wVp0_X : ∀ a q, vXs 0 a q = true → wVp0 a q = false := by
  intro a q h
  cases e : wVp0 a q with
  | false => rfl
  | true => simp [wVp0] at e; simp [vXs] at h; omega
def wVr0 (a q : Nat) : Bool := (a == 376 && (decide (3 ≤ q) && decide (q ≤ 8))) || (a == 389 && q == 0) || a == 380
theorem wNx_wVr0 : ∀ a q, wNx a q = true → wVr0 a q = true := by
  intro a q h
  simp [wNx] at h
  simp [wVr0]
  omega
theorem wWr_wVr0 : ∀ a q, wWr a q = true → wVr0 a q = true := by
  intro a q h
  simp [wWr] at h
  simp [wVr0]
  omega
theorem wNw_wVr0 : ∀ a q, wNw a q = true → wVr0 a q = true := by
  intro a q h
  simp [wNw] at h
  simp [wVr0]
  omega
theorem wVp0_wVr0 : ∀ a q, wVp0 a q = true → wVr0 a q = true := by
  intro a q h
  simp [wVp0] at h
  simp [wVr0]
  omega
theorem wVr0_X : ∀ a q, vXs 0 a q = true → wVr0 a q = false := by
  intro a q h
  cases e : wVr0 a q with
  | false => rfl
  | true => simp [wVr0] at e; simp [vXs] at h; omega
def wEm0 (a q : Nat) : Bool := (a == 390 && q == 0) || (a == 403 && decide (0 ≤ q ∧ q < 1000))
def wAi0 (a q : Nat) : Bool := a == 403 && decide (0 ≤ q ∧ q < 1000)
theorem wAi0_op {q : Nat} (h : 0 ≤ q ∧ q < 1000) : wAi0 403 q = true := by
  simp [wAi0]
  omega
theorem wEm0_op {q : Nat} (h : 0 ≤ q ∧ q < 1000) : wEm0 403 q = true := by
  simp [wEm0]
  omega
theorem wNx_X {p : Nat} : ∀ a q, vXs p a q = true → wNx a q = false := by
  intro a q h
  cases e : wNx a q with
  | false => rfl
  | true => simp [wNx] at e; simp [vXs] at h; omega
theorem wNw_X {p : Nat} : ∀ a q, vXs p a q = true → wNw a q = false := by
  intro a q h
  cases e : wNw a q with
  | false => rfl
  | true => simp [wNw] at e; simp [vXs] at h; omega
theorem wWr_X {p : Nat} : ∀ a q, vXs p a q = true → wWr a q = false := by
  intro a q h
  cases e : wWr a q with
  | false => rfl
  | true => simp [wWr] at e; simp [vXs] at h; omega
set_option maxRecDepth 100000 in
theorem t124_0 {L : Nat} {xs : Nat → Int32} {d nn : Nat} {m : yM} {v : Int} (hT : Ty gT m) (hn : m 376 18 = 1) (hv : -2147483648 ≤ v ∧ v < 2147483648) (h9 : m 389 0 ≤ 47) : YC (gZ L xs) (d + 1) 124 [.ref 376, yI v] m nn (qI (fun r m' n' => n' = nn ∧ Ty gT m' ∧ Fr wVp0 m m' ∧ r = m 389 0 ∧ m' 389 0 = m 389 0 + 1)) := by
  refine YC.mkB [some (.ref 376), some (yI v), none] kn124 rfl rfl ?_
  have hF : Fr wVp0 m m := Fr.rf
  refine y_aload 1 c124_0 rfl rfl rfl ?_
  refine y_callP 4 [.ref 376] [] c124_1 rfl rfl rfl rfl rfl (ycanO km96 ko376) (t96_0 (by omega)) (fun r6118 hr6118 => ?_)
  subst hr6118
  refine y_istore 5 c124_4 rfl rfl ?_
  refine y_aload 6 c124_5 rfl rfl rfl ?_
  refine y_getR 9 c124_6 rfl kf376_13 ?_
  refine y_aload 10 c124_9 rfl rfl rfl ?_
  refine y_getR 13 c124_10 rfl kf376_26 ?_
  refine y_iload 14 c124_13 rfl rfl ?_
  refine y_iaX 15 (m 389 0) c124_14 rfl ka389 (by decide) rfl ?_
  have tb6119 := hT.atp 389 0 0 48 rfl
  refine y_iload 16 c124_15 rfl rfl ?_
  refine y_iastore 17 c124_16 rfl ka380 (by omega) (y_nar0 _) ?_
  have hT6120 := hT.up 380 ((m 389 0).toNat) v ((-2147483648)) 2147483647 rfl (by omega)
  have hF6121 := hF.up 380 ((m 389 0).toNat) v rfl
  refine y_aload 18 c124_17 rfl rfl rfl ?_
  refine y_getR 21 c124_18 rfl kf376_26 ?_
  refine y_iload 22 c124_21 rfl rfl ?_
  refine y_dup2 23 c124_22 rfl ⟨rfl, rfl⟩ ?_
  refine y_iaX 24 (m 389 0) c124_23 rfl ka389 (by decide) rfl ?_
  refine y_iconst 25 c124_24 rfl ?_
  refine y_iadd 26 c124_25 rfl ?_
  refine y_iastore 27 c124_26 rfl ka389 (by omega) (y_nar0 _) ?_
  have hT6122 := hT6120.up 389 ((0 : Int).toNat) ((m 389 0) + 1) 0 48 rfl (by omega)
  have hF6123 := hF6121.up 389 ((0 : Int).toNat) ((m 389 0) + 1) rfl
  refine y_aload 28 c124_27 rfl rfl rfl ?_
  refine y_getR 31 c124_28 rfl kf376_26 ?_
  refine y_iload 32 c124_31 rfl rfl ?_
  refine y_iaX 33 ((m 389 0) + 1) c124_32 rfl ka389 (by decide) rfl ?_
  refine y_iconst 34 c124_33 rfl ?_
  refine y_isub 35 c124_34 rfl ?_
  have es6124 : (yup (yup m 380 ((m 389 0).toNat) v) 389 ((0 : Int).toNat) ((m 389 0) + 1)) 389 0 = (m 389 0) + 1 := rfl
  exact y_retI c124_35 (y_fit0 _) ⟨rfl, hT6122, hF6123, by omega⟩
set_option maxRecDepth 100000 in
theorem t130a_0 {L : Nat} {xs : Nat → Int32} {d nn : Nat} {m : yM} (hT : Ty gT m) (hl : m 376 6 ≤ m 376 1) (hn : m 376 18 = 1) (h8 : m 376 8 < 0) : ∀ (km : Nat) (v : Int) (i : Int), 48 - i = km → -1 ≤ v ∧ v ≤ 47 → 2 ≤ i ∧ i ≤ 48 → YW (gZ L xs) 130 (d + 4) 32 [some (.ref 376), some (yI 0), some (yI v), some (yI i)] [] m nn (qI (fun r m' n' => n' = nn ∧ Ty gT m' ∧ Fr wVr0 m m' ∧ m' 376 6 ≤ m' 376 1 ∧ (-1 ≤ r ∧ r ≤ 47 ∧ (0 ≤ m' 376 8 ∨ (m' 376 8 < 0 ∧ 0 ≤ r ∧ mu m' < mu m))))) := by
  intro km
  induction km using Nat.strongRecOn with
  | ind km ih =>
    intro v i hk hv hi
    have hF : Fr wVr0 m m := Fr.rf
    have tb9 := hT.atp 389 0 0 48 rfl
    refine y_iload 33 c130_32 rfl rfl ?_
    refine y_aload 34 c130_33 rfl rfl rfl ?_
    refine y_getR 37 c130_34 rfl kf376_26 ?_
    refine y_iload 38 c130_37 rfl rfl ?_
    refine y_iaX 39 (m 389 0) c130_38 rfl ka389 (by decide) rfl ?_
    refine y_icmp 70 42 c130_39 rfl rfl (yc_ge (by omega) (by omega)) (fun hb6125 => ?_) (fun hb6125 => ?_)
    · refine y_aload 71 c130_70 rfl rfl rfl ?_
      have tb6126 := hT.atp 376 3 0 3 rfl
      refine y_callP 74 [.ref 376] [] c130_71 rfl rfl rfl rfl rfl (ycanO km115 ko376) (t115 hT) (fun r6127 hr6127 => ?_)
      refine y_if 96 77 c130_74 rfl rfl (yz_eq (by omega)) (fun hb6128 => ?_) (fun hb6128 => ?_)
      · refine y_iconst 97 c130_96 rfl ?_
        refine y_istore 98 c130_97 rfl rfl ?_
        refine y_iload 99 c130_98 rfl rfl ?_
        refine y_if 115 102 c130_99 rfl rfl (yz_eq (by omega)) (fun hb6129 => ?_) (fun hb6129 => ?_)
        · refine y_aload 116 c130_115 rfl rfl rfl ?_
          refine y_iload 117 c130_116 rfl rfl ?_
          have tb6131 := hT.atp 376 1 0 320 rfl
          have tb6132 := hT.atp 376 6 0 320 rfl
          have tb6133 := hT.atp 376 8 ((-1)) 320 rfl
          refine y_callIB 120 [.ref 376, yI 0] [] c130_117 rfl rfl rfl rfl rfl (ycanO km105 ko376) (t105 (g := 0) hT (by omega) (by omega)) (fun rq6130 mq6130 nq6130 hq6130 => ?_)
          obtain ⟨rfl, hTq6130, hFq6130, hq6130⟩ := hq6130
          have x1q6130 : mq6130 376 1 = m 376 1 := (hFq6130 376 1 rfl)
          have hF6134 := hF.tr hFq6130 wNw_wVr0
          refine y_if 127 123 c130_120 rfl rfl (yz_eq (by omega)) (fun hb6135 => ?_) (fun hb6135 => ?_)
          · refine y_iconst 128 c130_127 rfl ?_
            have es6136 : mq6130 376 1 = m 376 1 := (hFq6130 376 1 rfl)
            have tb6137 := hTq6130.atp 376 3 0 3 rfl
            have tb6138 := hTq6130.atp 376 6 0 320 rfl
            have tb6139 := hTq6130.atp 376 8 ((-1)) 320 rfl
            exact y_retI c130_128 (y_fit0 _) ⟨rfl, hTq6130, hF6134, by omega, by omega⟩
          · refine y_iload 124 c130_123 rfl rfl ?_
            refine y_goto 128 c130_124 rfl ?_
            have es6140 : mq6130 376 1 = m 376 1 := (hFq6130 376 1 rfl)
            have tb6141 := hTq6130.atp 376 3 0 3 rfl
            have tb6142 := hTq6130.atp 376 6 0 320 rfl
            have tb6143 := hTq6130.atp 376 8 ((-1)) 320 rfl
            exact y_retI c130_128 (y_fit0 _) ⟨rfl, hTq6130, hF6134, by omega, by omega⟩
        · exfalso; omega
      · refine y_iload 78 c130_77 rfl rfl ?_
        refine y_if 92 81 c130_78 rfl rfl (yz_ge (by omega)) (fun hb6144 => ?_) (fun hb6144 => ?_)
        · refine y_iconst 93 c130_92 rfl ?_
          refine y_goto 97 c130_93 rfl ?_
          refine y_istore 98 c130_97 rfl rfl ?_
          refine y_iload 99 c130_98 rfl rfl ?_
          refine y_if 115 102 c130_99 rfl rfl (yz_eq (by omega)) (fun hb6145 => ?_) (fun hb6145 => ?_)
          · exfalso; omega
          · refine y_iload 103 c130_102 rfl rfl ?_
            refine y_if 115 106 c130_103 rfl rfl (yz_ge (by omega)) (fun hb6146 => ?_) (fun hb6146 => ?_)
            · refine y_aload 116 c130_115 rfl rfl rfl ?_
              refine y_iload 117 c130_116 rfl rfl ?_
              have tb6148 := hT.atp 376 1 0 320 rfl
              have tb6149 := hT.atp 376 6 0 320 rfl
              have tb6150 := hT.atp 376 8 ((-1)) 320 rfl
              refine y_callIB 120 [.ref 376, yI 1] [] c130_117 rfl rfl rfl rfl rfl (ycanO km105 ko376) (t105 (g := 1) hT (by omega) (by omega)) (fun rq6147 mq6147 nq6147 hq6147 => ?_)
              obtain ⟨rfl, hTq6147, hFq6147, hq6147⟩ := hq6147
              have x1q6147 : mq6147 376 1 = m 376 1 := (hFq6147 376 1 rfl)
              have hF6151 := hF.tr hFq6147 wNw_wVr0
              refine y_if 127 123 c130_120 rfl rfl (yz_eq (by omega)) (fun hb6152 => ?_) (fun hb6152 => ?_)
              · refine y_iconst 128 c130_127 rfl ?_
                have es6153 : mq6147 376 1 = m 376 1 := (hFq6147 376 1 rfl)
                have tb6154 := hTq6147.atp 376 3 0 3 rfl
                have tb6155 := hTq6147.atp 376 6 0 320 rfl
                have tb6156 := hTq6147.atp 376 8 ((-1)) 320 rfl
                exact y_retI c130_128 (y_fit0 _) ⟨rfl, hTq6147, hF6151, by omega, by omega⟩
              · refine y_iload 124 c130_123 rfl rfl ?_
                refine y_goto 128 c130_124 rfl ?_
                have es6157 : mq6147 376 1 = m 376 1 := (hFq6147 376 1 rfl)
                have tb6158 := hTq6147.atp 376 3 0 3 rfl
                have tb6159 := hTq6147.atp 376 6 0 320 rfl
                have tb6160 := hTq6147.atp 376 8 ((-1)) 320 rfl
                exact y_retI c130_128 (y_fit0 _) ⟨rfl, hTq6147, hF6151, by omega, by omega⟩
            · exfalso; omega
        · refine y_aload 82 c130_81 rfl rfl rfl ?_
          refine y_getR 85 c130_82 rfl kf376_26 ?_
          refine y_iload 86 c130_85 rfl rfl ?_
          refine y_iaX 87 (m 389 0) c130_86 rfl ka389 (by decide) rfl ?_
          refine y_iconst 89 c130_87 rfl ?_
          refine y_icmp 96 92 c130_89 rfl rfl (yc_ge (by omega) (by omega)) (fun hb6161 => ?_) (fun hb6161 => ?_)
          · refine y_iconst 97 c130_96 rfl ?_
            refine y_istore 98 c130_97 rfl rfl ?_
            refine y_iload 99 c130_98 rfl rfl ?_
            refine y_if 115 102 c130_99 rfl rfl (yz_eq (by omega)) (fun hb6162 => ?_) (fun hb6162 => ?_)
            · refine y_aload 116 c130_115 rfl rfl rfl ?_
              refine y_iload 117 c130_116 rfl rfl ?_
              have tb6164 := hT.atp 376 1 0 320 rfl
              have tb6165 := hT.atp 376 6 0 320 rfl
              have tb6166 := hT.atp 376 8 ((-1)) 320 rfl
              refine y_callIB 120 [.ref 376, yI 0] [] c130_117 rfl rfl rfl rfl rfl (ycanO km105 ko376) (t105 (g := 0) hT (by omega) (by omega)) (fun rq6163 mq6163 nq6163 hq6163 => ?_)
              obtain ⟨rfl, hTq6163, hFq6163, hq6163⟩ := hq6163
              have x1q6163 : mq6163 376 1 = m 376 1 := (hFq6163 376 1 rfl)
              have hF6167 := hF.tr hFq6163 wNw_wVr0
              refine y_if 127 123 c130_120 rfl rfl (yz_eq (by omega)) (fun hb6168 => ?_) (fun hb6168 => ?_)
              · refine y_iconst 128 c130_127 rfl ?_
                have es6169 : mq6163 376 1 = m 376 1 := (hFq6163 376 1 rfl)
                have tb6170 := hTq6163.atp 376 3 0 3 rfl
                have tb6171 := hTq6163.atp 376 6 0 320 rfl
                have tb6172 := hTq6163.atp 376 8 ((-1)) 320 rfl
                exact y_retI c130_128 (y_fit0 _) ⟨rfl, hTq6163, hF6167, by omega, by omega⟩
              · refine y_iload 124 c130_123 rfl rfl ?_
                refine y_goto 128 c130_124 rfl ?_
                have es6173 : mq6163 376 1 = m 376 1 := (hFq6163 376 1 rfl)
                have tb6174 := hTq6163.atp 376 3 0 3 rfl
                have tb6175 := hTq6163.atp 376 6 0 320 rfl
                have tb6176 := hTq6163.atp 376 8 ((-1)) 320 rfl
                exact y_retI c130_128 (y_fit0 _) ⟨rfl, hTq6163, hF6167, by omega, by omega⟩
            · exfalso; omega
          · refine y_iconst 93 c130_92 rfl ?_
            refine y_goto 97 c130_93 rfl ?_
            refine y_istore 98 c130_97 rfl rfl ?_
            refine y_iload 99 c130_98 rfl rfl ?_
            refine y_if 115 102 c130_99 rfl rfl (yz_eq (by omega)) (fun hb6177 => ?_) (fun hb6177 => ?_)
            · exfalso; omega
            · refine y_iload 103 c130_102 rfl rfl ?_
              refine y_if 115 106 c130_103 rfl rfl (yz_ge (by omega)) (fun hb6178 => ?_) (fun hb6178 => ?_)
              · exfalso; omega
              · refine y_aload 107 c130_106 rfl rfl rfl ?_
                refine y_aload 108 c130_107 rfl rfl rfl ?_
                refine y_getX 111 (m 376 4) c130_108 rfl kf376_4 rfl ?_
                have tb6179 := hT.atp 376 4 ((-2147483648)) 2147483647 rfl
                have tb6181 := hT.atp 376 1 0 320 rfl
                have tb6182 := hT.atp 376 6 0 320 rfl
                have tb6183 := hT.atp 376 8 ((-1)) 320 rfl
                have tb6184 := hT.atp 376 18 0 1 rfl
                refine y_callIB 114 [.ref 376, yI (m 376 4)] [] c130_111 rfl rfl rfl rfl rfl (ycanO km124 ko376) (t124_0 hT (by omega) (by omega) (by omega)) (fun rq6180 mq6180 nq6180 hq6180 => ?_)
                obtain ⟨rfl, hTq6180, hFq6180, hq6180⟩ := hq6180
                have x1q6180 : mq6180 376 1 = m 376 1 := (hFq6180 376 1 rfl)
                have hF6185 := hF.tr hFq6180 wVp0_wVr0
                refine y_istore 115 c130_114 rfl rfl ?_
                refine y_aload 116 c130_115 rfl rfl rfl ?_
                refine y_iload 117 c130_116 rfl rfl ?_
                have es6187 : mq6180 376 1 = m 376 1 := (hFq6180 376 1 rfl)
                have es6188 : mq6180 376 3 = m 376 3 := (hFq6180 376 3 rfl)
                have es6189 : mq6180 376 6 = m 376 6 := (hFq6180 376 6 rfl)
                have es6190 : mq6180 376 8 = m 376 8 := (hFq6180 376 8 rfl)
                have em6191 : mu mq6180 = mu m := mu_fr (hFq6180 376 1 rfl) (hFq6180 376 3 rfl) (hFq6180 376 6 rfl)
                refine y_callIB 120 [.ref 376, yI 1] [] c130_117 rfl rfl rfl rfl rfl (ycanO km105 ko376) (t105 (g := 1) hTq6180 (by omega) (by omega)) (fun rq6186 mq6186 nq6186 hq6186 => ?_)
                obtain ⟨rfl, hTq6186, hFq6186, hq6186⟩ := hq6186
                have x1q6186 : mq6186 376 1 = m 376 1 := ((hFq6186 376 1 rfl).trans (hFq6180 376 1 rfl))
                have hF6192 := hF6185.tr hFq6186 wNw_wVr0
                refine y_if 127 123 c130_120 rfl rfl (yz_eq (by omega)) (fun hb6193 => ?_) (fun hb6193 => ?_)
                · refine y_iconst 128 c130_127 rfl ?_
                  have es6194 : mq6186 376 1 = m 376 1 := ((hFq6186 376 1 rfl).trans (hFq6180 376 1 rfl))
                  have tb6195 := hTq6186.atp 376 3 0 3 rfl
                  have tb6196 := hTq6186.atp 376 6 0 320 rfl
                  have tb6197 := hTq6186.atp 376 8 ((-1)) 320 rfl
                  exact y_retI c130_128 (y_fit0 _) ⟨rfl, hTq6186, hF6192, by omega, by omega⟩
                · refine y_iload 124 c130_123 rfl rfl ?_
                  refine y_goto 128 c130_124 rfl ?_
                  have es6198 : mq6186 376 1 = m 376 1 := ((hFq6186 376 1 rfl).trans (hFq6180 376 1 rfl))
                  have tb6199 := hTq6186.atp 376 3 0 3 rfl
                  have tb6200 := hTq6186.atp 376 6 0 320 rfl
                  have tb6201 := hTq6186.atp 376 8 ((-1)) 320 rfl
                  exact y_retI c130_128 (y_fit0 _) ⟨rfl, hTq6186, hF6192, by omega, by omega⟩
    · refine y_aload 43 c130_42 rfl rfl rfl ?_
      have tb6202 := hT.atp 376 3 0 3 rfl
      refine y_callP 46 [.ref 376] [] c130_43 rfl rfl rfl rfl rfl (ycanO km115 ko376) (t115 hT) (fun r6203 hr6203 => ?_)
      refine y_if 70 49 c130_46 rfl rfl (yz_eq (by omega)) (fun hb6204 => ?_) (fun hb6204 => ?_)
      · refine y_aload 71 c130_70 rfl rfl rfl ?_
        refine y_callP 74 [.ref 376] [] c130_71 rfl rfl rfl rfl rfl (ycanO km115 ko376) (t115 hT) (fun r6205 hr6205 => ?_)
        refine y_if 96 77 c130_74 rfl rfl (yz_eq (by omega)) (fun hb6206 => ?_) (fun hb6206 => ?_)
        · refine y_iconst 97 c130_96 rfl ?_
          refine y_istore 98 c130_97 rfl rfl ?_
          refine y_iload 99 c130_98 rfl rfl ?_
          refine y_if 115 102 c130_99 rfl rfl (yz_eq (by omega)) (fun hb6207 => ?_) (fun hb6207 => ?_)
          · refine y_aload 116 c130_115 rfl rfl rfl ?_
            refine y_iload 117 c130_116 rfl rfl ?_
            have tb6209 := hT.atp 376 1 0 320 rfl
            have tb6210 := hT.atp 376 6 0 320 rfl
            have tb6211 := hT.atp 376 8 ((-1)) 320 rfl
            refine y_callIB 120 [.ref 376, yI 0] [] c130_117 rfl rfl rfl rfl rfl (ycanO km105 ko376) (t105 (g := 0) hT (by omega) (by omega)) (fun rq6208 mq6208 nq6208 hq6208 => ?_)
            obtain ⟨rfl, hTq6208, hFq6208, hq6208⟩ := hq6208
            have x1q6208 : mq6208 376 1 = m 376 1 := (hFq6208 376 1 rfl)
            have hF6212 := hF.tr hFq6208 wNw_wVr0
            refine y_if 127 123 c130_120 rfl rfl (yz_eq (by omega)) (fun hb6213 => ?_) (fun hb6213 => ?_)
            · refine y_iconst 128 c130_127 rfl ?_
              have es6214 : mq6208 376 1 = m 376 1 := (hFq6208 376 1 rfl)
              have tb6215 := hTq6208.atp 376 3 0 3 rfl
              have tb6216 := hTq6208.atp 376 6 0 320 rfl
              have tb6217 := hTq6208.atp 376 8 ((-1)) 320 rfl
              exact y_retI c130_128 (y_fit0 _) ⟨rfl, hTq6208, hF6212, by omega, by omega⟩
            · refine y_iload 124 c130_123 rfl rfl ?_
              refine y_goto 128 c130_124 rfl ?_
              have es6218 : mq6208 376 1 = m 376 1 := (hFq6208 376 1 rfl)
              have tb6219 := hTq6208.atp 376 3 0 3 rfl
              have tb6220 := hTq6208.atp 376 6 0 320 rfl
              have tb6221 := hTq6208.atp 376 8 ((-1)) 320 rfl
              exact y_retI c130_128 (y_fit0 _) ⟨rfl, hTq6208, hF6212, by omega, by omega⟩
          · exfalso; omega
        · refine y_iload 78 c130_77 rfl rfl ?_
          refine y_if 92 81 c130_78 rfl rfl (yz_ge (by omega)) (fun hb6222 => ?_) (fun hb6222 => ?_)
          · refine y_iconst 93 c130_92 rfl ?_
            refine y_goto 97 c130_93 rfl ?_
            refine y_istore 98 c130_97 rfl rfl ?_
            refine y_iload 99 c130_98 rfl rfl ?_
            refine y_if 115 102 c130_99 rfl rfl (yz_eq (by omega)) (fun hb6223 => ?_) (fun hb6223 => ?_)
            · exfalso; omega
            · refine y_iload 103 c130_102 rfl rfl ?_
              refine y_if 115 106 c130_103 rfl rfl (yz_ge (by omega)) (fun hb6224 => ?_) (fun hb6224 => ?_)
              · refine y_aload 116 c130_115 rfl rfl rfl ?_
                refine y_iload 117 c130_116 rfl rfl ?_
                have tb6226 := hT.atp 376 1 0 320 rfl
                have tb6227 := hT.atp 376 6 0 320 rfl
                have tb6228 := hT.atp 376 8 ((-1)) 320 rfl
                refine y_callIB 120 [.ref 376, yI 1] [] c130_117 rfl rfl rfl rfl rfl (ycanO km105 ko376) (t105 (g := 1) hT (by omega) (by omega)) (fun rq6225 mq6225 nq6225 hq6225 => ?_)
                obtain ⟨rfl, hTq6225, hFq6225, hq6225⟩ := hq6225
                have x1q6225 : mq6225 376 1 = m 376 1 := (hFq6225 376 1 rfl)
                have hF6229 := hF.tr hFq6225 wNw_wVr0
                refine y_if 127 123 c130_120 rfl rfl (yz_eq (by omega)) (fun hb6230 => ?_) (fun hb6230 => ?_)
                · refine y_iconst 128 c130_127 rfl ?_
                  have es6231 : mq6225 376 1 = m 376 1 := (hFq6225 376 1 rfl)
                  have tb6232 := hTq6225.atp 376 3 0 3 rfl
                  have tb6233 := hTq6225.atp 376 6 0 320 rfl
                  have tb6234 := hTq6225.atp 376 8 ((-1)) 320 rfl
                  exact y_retI c130_128 (y_fit0 _) ⟨rfl, hTq6225, hF6229, by omega, by omega⟩
                · refine y_iload 124 c130_123 rfl rfl ?_
                  refine y_goto 128 c130_124 rfl ?_
                  have es6235 : mq6225 376 1 = m 376 1 := (hFq6225 376 1 rfl)
                  have tb6236 := hTq6225.atp 376 3 0 3 rfl
                  have tb6237 := hTq6225.atp 376 6 0 320 rfl
                  have tb6238 := hTq6225.atp 376 8 ((-1)) 320 rfl
                  exact y_retI c130_128 (y_fit0 _) ⟨rfl, hTq6225, hF6229, by omega, by omega⟩
              · exfalso; omega
          · refine y_aload 82 c130_81 rfl rfl rfl ?_
            refine y_getR 85 c130_82 rfl kf376_26 ?_
            refine y_iload 86 c130_85 rfl rfl ?_
            refine y_iaX 87 (m 389 0) c130_86 rfl ka389 (by decide) rfl ?_
            refine y_iconst 89 c130_87 rfl ?_
            refine y_icmp 96 92 c130_89 rfl rfl (yc_ge (by omega) (by omega)) (fun hb6239 => ?_) (fun hb6239 => ?_)
            · refine y_iconst 97 c130_96 rfl ?_
              refine y_istore 98 c130_97 rfl rfl ?_
              refine y_iload 99 c130_98 rfl rfl ?_
              refine y_if 115 102 c130_99 rfl rfl (yz_eq (by omega)) (fun hb6240 => ?_) (fun hb6240 => ?_)
              · refine y_aload 116 c130_115 rfl rfl rfl ?_
                refine y_iload 117 c130_116 rfl rfl ?_
                have tb6242 := hT.atp 376 1 0 320 rfl
                have tb6243 := hT.atp 376 6 0 320 rfl
                have tb6244 := hT.atp 376 8 ((-1)) 320 rfl
                refine y_callIB 120 [.ref 376, yI 0] [] c130_117 rfl rfl rfl rfl rfl (ycanO km105 ko376) (t105 (g := 0) hT (by omega) (by omega)) (fun rq6241 mq6241 nq6241 hq6241 => ?_)
                obtain ⟨rfl, hTq6241, hFq6241, hq6241⟩ := hq6241
                have x1q6241 : mq6241 376 1 = m 376 1 := (hFq6241 376 1 rfl)
                have hF6245 := hF.tr hFq6241 wNw_wVr0
                refine y_if 127 123 c130_120 rfl rfl (yz_eq (by omega)) (fun hb6246 => ?_) (fun hb6246 => ?_)
                · refine y_iconst 128 c130_127 rfl ?_
                  have es6247 : mq6241 376 1 = m 376 1 := (hFq6241 376 1 rfl)
                  have tb6248 := hTq6241.atp 376 3 0 3 rfl
                  have tb6249 := hTq6241.atp 376 6 0 320 rfl
                  have tb6250 := hTq6241.atp 376 8 ((-1)) 320 rfl
                  exact y_retI c130_128 (y_fit0 _) ⟨rfl, hTq6241, hF6245, by omega, by omega⟩
                · refine y_iload 124 c130_123 rfl rfl ?_
                  refine y_goto 128 c130_124 rfl ?_
                  have es6251 : mq6241 376 1 = m 376 1 := (hFq6241 376 1 rfl)
                  have tb6252 := hTq6241.atp 376 3 0 3 rfl
                  have tb6253 := hTq6241.atp 376 6 0 320 rfl
                  have tb6254 := hTq6241.atp 376 8 ((-1)) 320 rfl
                  exact y_retI c130_128 (y_fit0 _) ⟨rfl, hTq6241, hF6245, by omega, by omega⟩
              · exfalso; omega
            · refine y_iconst 93 c130_92 rfl ?_
              refine y_goto 97 c130_93 rfl ?_
              refine y_istore 98 c130_97 rfl rfl ?_
              refine y_iload 99 c130_98 rfl rfl ?_
              refine y_if 115 102 c130_99 rfl rfl (yz_eq (by omega)) (fun hb6255 => ?_) (fun hb6255 => ?_)
              · exfalso; omega
              · refine y_iload 103 c130_102 rfl rfl ?_
                refine y_if 115 106 c130_103 rfl rfl (yz_ge (by omega)) (fun hb6256 => ?_) (fun hb6256 => ?_)
                · exfalso; omega
                · refine y_aload 107 c130_106 rfl rfl rfl ?_
                  refine y_aload 108 c130_107 rfl rfl rfl ?_
                  refine y_getX 111 (m 376 4) c130_108 rfl kf376_4 rfl ?_
                  have tb6257 := hT.atp 376 4 ((-2147483648)) 2147483647 rfl
                  have tb6259 := hT.atp 376 1 0 320 rfl
                  have tb6260 := hT.atp 376 6 0 320 rfl
                  have tb6261 := hT.atp 376 8 ((-1)) 320 rfl
                  have tb6262 := hT.atp 376 18 0 1 rfl
                  refine y_callIB 114 [.ref 376, yI (m 376 4)] [] c130_111 rfl rfl rfl rfl rfl (ycanO km124 ko376) (t124_0 hT (by omega) (by omega) (by omega)) (fun rq6258 mq6258 nq6258 hq6258 => ?_)
                  obtain ⟨rfl, hTq6258, hFq6258, hq6258⟩ := hq6258
                  have x1q6258 : mq6258 376 1 = m 376 1 := (hFq6258 376 1 rfl)
                  have hF6263 := hF.tr hFq6258 wVp0_wVr0
                  refine y_istore 115 c130_114 rfl rfl ?_
                  refine y_aload 116 c130_115 rfl rfl rfl ?_
                  refine y_iload 117 c130_116 rfl rfl ?_
                  have es6265 : mq6258 376 1 = m 376 1 := (hFq6258 376 1 rfl)
                  have es6266 : mq6258 376 3 = m 376 3 := (hFq6258 376 3 rfl)
                  have es6267 : mq6258 376 6 = m 376 6 := (hFq6258 376 6 rfl)
                  have es6268 : mq6258 376 8 = m 376 8 := (hFq6258 376 8 rfl)
                  have em6269 : mu mq6258 = mu m := mu_fr (hFq6258 376 1 rfl) (hFq6258 376 3 rfl) (hFq6258 376 6 rfl)
                  refine y_callIB 120 [.ref 376, yI 1] [] c130_117 rfl rfl rfl rfl rfl (ycanO km105 ko376) (t105 (g := 1) hTq6258 (by omega) (by omega)) (fun rq6264 mq6264 nq6264 hq6264 => ?_)
                  obtain ⟨rfl, hTq6264, hFq6264, hq6264⟩ := hq6264
                  have x1q6264 : mq6264 376 1 = m 376 1 := ((hFq6264 376 1 rfl).trans (hFq6258 376 1 rfl))
                  have hF6270 := hF6263.tr hFq6264 wNw_wVr0
                  refine y_if 127 123 c130_120 rfl rfl (yz_eq (by omega)) (fun hb6271 => ?_) (fun hb6271 => ?_)
                  · refine y_iconst 128 c130_127 rfl ?_
                    have es6272 : mq6264 376 1 = m 376 1 := ((hFq6264 376 1 rfl).trans (hFq6258 376 1 rfl))
                    have tb6273 := hTq6264.atp 376 3 0 3 rfl
                    have tb6274 := hTq6264.atp 376 6 0 320 rfl
                    have tb6275 := hTq6264.atp 376 8 ((-1)) 320 rfl
                    exact y_retI c130_128 (y_fit0 _) ⟨rfl, hTq6264, hF6270, by omega, by omega⟩
                  · refine y_iload 124 c130_123 rfl rfl ?_
                    refine y_goto 128 c130_124 rfl ?_
                    have es6276 : mq6264 376 1 = m 376 1 := ((hFq6264 376 1 rfl).trans (hFq6258 376 1 rfl))
                    have tb6277 := hTq6264.atp 376 3 0 3 rfl
                    have tb6278 := hTq6264.atp 376 6 0 320 rfl
                    have tb6279 := hTq6264.atp 376 8 ((-1)) 320 rfl
                    exact y_retI c130_128 (y_fit0 _) ⟨rfl, hTq6264, hF6270, by omega, by omega⟩
      · refine y_aload 50 c130_49 rfl rfl rfl ?_
        refine y_getR 53 c130_50 rfl kf376_13 ?_
        refine y_iload 54 c130_53 rfl rfl ?_
        refine y_iaT 55 ((-2147483648)) 2147483647 c130_54 rfl ka380 (by omega) hT rfl (fun v6280 hv6280 gv6280 => ?_)
        refine y_aload 56 c130_55 rfl rfl rfl ?_
        refine y_getX 59 (m 376 4) c130_56 rfl kf376_4 rfl ?_
        have tb6281 := hT.atp 376 4 ((-2147483648)) 2147483647 rfl
        refine y_icmp 64 62 c130_59 rfl rfl (yc_ne (by omega) (by omega)) (fun hb6282 => ?_) (fun hb6282 => ?_)
        · refine y_iinc 67 c130_64 rfl rfl rfl ?_
          refine y_goto 32 c130_67 rfl ?_
          exact ih (48 - (i + 1) : Int).toNat (by omega) v (i + 1)   (by omega) (by omega) (by omega)
        · refine y_iload 63 c130_62 rfl rfl ?_
          refine y_istore 64 c130_63 rfl rfl ?_
          refine y_iinc 67 c130_64 rfl rfl rfl ?_
          refine y_goto 32 c130_67 rfl ?_
          exact ih (48 - (i + 1) : Int).toNat (by omega) i (i + 1)   (by omega) (by omega) (by omega)
set_option maxRecDepth 100000 in
theorem t130_0 {L : Nat} {xs : Nat → Int32} {d nn : Nat} {m : yM} (hT : Ty gT m) (hl : m 376 6 ≤ m 376 1) (hn : m 376 18 = 1) (h8 : m 376 8 < 0) : YC (gZ L xs) (d + 4) 130 [.ref 376] m nn (qI (fun r m' n' => n' = nn ∧ Ty gT m' ∧ Fr wVr0 m m' ∧ m' 376 6 ≤ m' 376 1 ∧ (-1 ≤ r ∧ r ≤ 47 ∧ (0 ≤ m' 376 8 ∨ (m' 376 8 < 0 ∧ 0 ≤ r ∧ mu m' < mu m))))) := by
  have tb14 := hT.atp 376 14 0 46 rfl
  refine YC.mkB [some (.ref 376), none, none, none] kn130 rfl rfl ?_
  have hF : Fr wVr0 m m := Fr.rf
  refine y_aload 1 c130_0 rfl rfl rfl ?_
  have tb6284 := hT.atp 376 18 0 1 rfl
  refine y_callP 4 [.ref 376] [] c130_1 rfl rfl rfl rfl rfl (ycanO km96 ko376) (t96_0 (by omega)) (fun r6283 hr6283 => ?_)
  subst hr6283
  refine y_istore 5 c130_4 rfl rfl ?_
  refine y_aload 6 c130_5 rfl rfl rfl ?_
  have tb6285 := hT.atp 376 3 0 3 rfl
  refine y_callP 9 [.ref 376] [] c130_6 rfl rfl rfl rfl rfl (ycanO km114 ko376) (t114 hT) (fun r6286 hr6286 => ?_)
  refine y_if 23 12 c130_9 rfl rfl (yz_eq (by omega)) (fun hb6287 => ?_) (fun hb6287 => ?_)
  · refine y_iconst 24 c130_23 rfl ?_
    refine y_istore 25 c130_24 rfl rfl ?_
    refine y_aload 26 c130_25 rfl rfl rfl ?_
    refine y_getX 29 (m 376 14) c130_26 rfl kf376_14 rfl ?_
    refine y_iconst 30 c130_29 rfl ?_
    refine y_iadd 31 c130_30 rfl ?_
    refine y_istore 32 c130_31 rfl rfl ?_
    exact t130a_0 hT hl hn h8 (48 - ((m 376 14) + 2)).toNat (-1) ((m 376 14) + 2) (by omega) (by omega) (by omega)
  · refine y_aload 13 c130_12 rfl rfl rfl ?_
    have tb6289 := hT.atp 376 1 0 320 rfl
    have tb6290 := hT.atp 376 6 0 320 rfl
    have tb6291 := hT.atp 376 8 ((-1)) 320 rfl
    refine y_callUB 16 [.ref 376] [] c130_13 rfl rfl rfl rfl rfl (ycanO km99 ko376) (t99u hT (by omega)) (fun mq6288 nq6288 hq6288 => ?_)
    obtain ⟨rfl, hTq6288, hFq6288, hq6288⟩ := hq6288
    have x1q6288 : mq6288 376 1 = m 376 1 := (hFq6288 376 1 rfl)
    have hF6292 := hF.tr hFq6288 wNx_wVr0
    refine y_aload 17 c130_16 rfl rfl rfl ?_
    refine y_getX 20 (m 376 14) c130_17 rfl kf376_14 (hFq6288 376 14 rfl) ?_
    refine y_iconst 21 c130_20 rfl ?_
    refine y_iadd 22 c130_21 rfl ?_
    have es6293 : mq6288 376 1 = m 376 1 := (hFq6288 376 1 rfl)
    have tb6294 := hTq6288.atp 376 3 0 3 rfl
    have tb6295 := hTq6288.atp 376 6 0 320 rfl
    have es6296 : mq6288 376 8 = m 376 8 := (hFq6288 376 8 rfl)
    exact y_retI c130_22 (y_fit0 _) ⟨rfl, hTq6288, hF6292, by omega, by omega⟩
def wVp1 (a q : Nat) : Bool := (a == 389 && q == 1) || a == 380
theorem wVp1_X : ∀ a q, vXs 1 a q = true → wVp1 a q = false := by
  intro a q h
  cases e : wVp1 a q with
  | false => rfl
  | true => simp [wVp1] at e; simp [vXs] at h; omega
def wVr1 (a q : Nat) : Bool := (a == 376 && (decide (3 ≤ q) && decide (q ≤ 8))) || (a == 389 && q == 1) || a == 380
theorem wNx_wVr1 : ∀ a q, wNx a q = true → wVr1 a q = true := by
  intro a q h
  simp [wNx] at h
  simp [wVr1]
  omega
theorem wWr_wVr1 : ∀ a q, wWr a q = true → wVr1 a q = true := by
  intro a q h
  simp [wWr] at h
  simp [wVr1]
  omega
theorem wNw_wVr1 : ∀ a q, wNw a q = true → wVr1 a q = true := by
  intro a q h
  simp [wNw] at h
  simp [wVr1]
  omega
theorem wVp1_wVr1 : ∀ a q, wVp1 a q = true → wVr1 a q = true := by
  intro a q h
  simp [wVp1] at h
  simp [wVr1]
  omega
theorem wVr1_X : ∀ a q, vXs 1 a q = true → wVr1 a q = false := by
  intro a q h
  cases e : wVr1 a q with
  | false => rfl
  | true => simp [wVr1] at e; simp [vXs] at h; omega
def wEm1 (a q : Nat) : Bool := (a == 390 && q == 1) || (a == 403 && decide (1000 ≤ q ∧ q < 2000))
def wAi1 (a q : Nat) : Bool := a == 403 && decide (1000 ≤ q ∧ q < 2000)
theorem wAi1_op {q : Nat} (h : 1000 ≤ q ∧ q < 2000) : wAi1 403 q = true := by
  simp [wAi1]
  omega
theorem wEm1_op {q : Nat} (h : 1000 ≤ q ∧ q < 2000) : wEm1 403 q = true := by
  simp [wEm1]
  omega
set_option maxRecDepth 100000 in
theorem t124_1 {L : Nat} {xs : Nat → Int32} {d nn : Nat} {m : yM} {v : Int} (hT : Ty gT m) (hn : m 376 18 = 0) (hv : -2147483648 ≤ v ∧ v < 2147483648) (h9 : m 389 1 ≤ 47) : YC (gZ L xs) (d + 1) 124 [.ref 376, yI v] m nn (qI (fun r m' n' => n' = nn ∧ Ty gT m' ∧ Fr wVp1 m m' ∧ r = m 389 1 ∧ m' 389 1 = m 389 1 + 1)) := by
  refine YC.mkB [some (.ref 376), some (yI v), none] kn124 rfl rfl ?_
  have hF : Fr wVp1 m m := Fr.rf
  refine y_aload 1 c124_0 rfl rfl rfl ?_
  refine y_callP 4 [.ref 376] [] c124_1 rfl rfl rfl rfl rfl (ycanO km96 ko376) (t96_1 (by omega)) (fun r6343 hr6343 => ?_)
  subst hr6343
  refine y_istore 5 c124_4 rfl rfl ?_
  refine y_aload 6 c124_5 rfl rfl rfl ?_
  refine y_getR 9 c124_6 rfl kf376_13 ?_
  refine y_aload 10 c124_9 rfl rfl rfl ?_
  refine y_getR 13 c124_10 rfl kf376_26 ?_
  refine y_iload 14 c124_13 rfl rfl ?_
  refine y_iaX 15 (m 389 1) c124_14 rfl ka389 (by decide) rfl ?_
  have tb6344 := hT.atp 389 1 0 48 rfl
  refine y_iload 16 c124_15 rfl rfl ?_
  refine y_iastore 17 c124_16 rfl ka380 (by omega) (y_nar0 _) ?_
  have hT6345 := hT.up 380 ((m 389 1).toNat) v ((-2147483648)) 2147483647 rfl (by omega)
  have hF6346 := hF.up 380 ((m 389 1).toNat) v rfl
  refine y_aload 18 c124_17 rfl rfl rfl ?_
  refine y_getR 21 c124_18 rfl kf376_26 ?_
  refine y_iload 22 c124_21 rfl rfl ?_
  refine y_dup2 23 c124_22 rfl ⟨rfl, rfl⟩ ?_
  refine y_iaX 24 (m 389 1) c124_23 rfl ka389 (by decide) rfl ?_
  refine y_iconst 25 c124_24 rfl ?_
  refine y_iadd 26 c124_25 rfl ?_
  refine y_iastore 27 c124_26 rfl ka389 (by omega) (y_nar0 _) ?_
  have hT6347 := hT6345.up 389 ((1 : Int).toNat) ((m 389 1) + 1) 0 48 rfl (by omega)
  have hF6348 := hF6346.up 389 ((1 : Int).toNat) ((m 389 1) + 1) rfl
  refine y_aload 28 c124_27 rfl rfl rfl ?_
  refine y_getR 31 c124_28 rfl kf376_26 ?_
  refine y_iload 32 c124_31 rfl rfl ?_
  refine y_iaX 33 ((m 389 1) + 1) c124_32 rfl ka389 (by decide) rfl ?_
  refine y_iconst 34 c124_33 rfl ?_
  refine y_isub 35 c124_34 rfl ?_
  have es6349 : (yup (yup m 380 ((m 389 1).toNat) v) 389 ((1 : Int).toNat) ((m 389 1) + 1)) 389 1 = (m 389 1) + 1 := rfl
  exact y_retI c124_35 (y_fit0 _) ⟨rfl, hT6347, hF6348, by omega⟩
set_option maxRecDepth 100000 in
theorem t130a_1 {L : Nat} {xs : Nat → Int32} {d nn : Nat} {m : yM} (hT : Ty gT m) (hl : m 376 6 ≤ m 376 1) (hn : m 376 18 = 0) (h8 : m 376 8 < 0) : ∀ (km : Nat) (v : Int) (i : Int), 48 - i = km → -1 ≤ v ∧ v ≤ 47 → 2 ≤ i ∧ i ≤ 48 → YW (gZ L xs) 130 (d + 4) 32 [some (.ref 376), some (yI 1), some (yI v), some (yI i)] [] m nn (qI (fun r m' n' => n' = nn ∧ Ty gT m' ∧ Fr wVr1 m m' ∧ m' 376 6 ≤ m' 376 1 ∧ (-1 ≤ r ∧ r ≤ 47 ∧ (0 ≤ m' 376 8 ∨ (m' 376 8 < 0 ∧ 0 ≤ r ∧ mu m' < mu m))))) := by
  intro km
  induction km using Nat.strongRecOn with
  | ind km ih =>
    intro v i hk hv hi
    have hF : Fr wVr1 m m := Fr.rf
    have tb9 := hT.atp 389 1 0 48 rfl
    refine y_iload 33 c130_32 rfl rfl ?_
    refine y_aload 34 c130_33 rfl rfl rfl ?_
    refine y_getR 37 c130_34 rfl kf376_26 ?_
    refine y_iload 38 c130_37 rfl rfl ?_
    refine y_iaX 39 (m 389 1) c130_38 rfl ka389 (by decide) rfl ?_
    refine y_icmp 70 42 c130_39 rfl rfl (yc_ge (by omega) (by omega)) (fun hb6350 => ?_) (fun hb6350 => ?_)
    · refine y_aload 71 c130_70 rfl rfl rfl ?_
      have tb6351 := hT.atp 376 3 0 3 rfl
      refine y_callP 74 [.ref 376] [] c130_71 rfl rfl rfl rfl rfl (ycanO km115 ko376) (t115 hT) (fun r6352 hr6352 => ?_)
      refine y_if 96 77 c130_74 rfl rfl (yz_eq (by omega)) (fun hb6353 => ?_) (fun hb6353 => ?_)
      · refine y_iconst 97 c130_96 rfl ?_
        refine y_istore 98 c130_97 rfl rfl ?_
        refine y_iload 99 c130_98 rfl rfl ?_
        refine y_if 115 102 c130_99 rfl rfl (yz_eq (by omega)) (fun hb6354 => ?_) (fun hb6354 => ?_)
        · refine y_aload 116 c130_115 rfl rfl rfl ?_
          refine y_iload 117 c130_116 rfl rfl ?_
          have tb6356 := hT.atp 376 1 0 320 rfl
          have tb6357 := hT.atp 376 6 0 320 rfl
          have tb6358 := hT.atp 376 8 ((-1)) 320 rfl
          refine y_callIB 120 [.ref 376, yI 0] [] c130_117 rfl rfl rfl rfl rfl (ycanO km105 ko376) (t105 (g := 0) hT (by omega) (by omega)) (fun rq6355 mq6355 nq6355 hq6355 => ?_)
          obtain ⟨rfl, hTq6355, hFq6355, hq6355⟩ := hq6355
          have x1q6355 : mq6355 376 1 = m 376 1 := (hFq6355 376 1 rfl)
          have hF6359 := hF.tr hFq6355 wNw_wVr1
          refine y_if 127 123 c130_120 rfl rfl (yz_eq (by omega)) (fun hb6360 => ?_) (fun hb6360 => ?_)
          · refine y_iconst 128 c130_127 rfl ?_
            have es6361 : mq6355 376 1 = m 376 1 := (hFq6355 376 1 rfl)
            have tb6362 := hTq6355.atp 376 3 0 3 rfl
            have tb6363 := hTq6355.atp 376 6 0 320 rfl
            have tb6364 := hTq6355.atp 376 8 ((-1)) 320 rfl
            exact y_retI c130_128 (y_fit0 _) ⟨rfl, hTq6355, hF6359, by omega, by omega⟩
          · refine y_iload 124 c130_123 rfl rfl ?_
            refine y_goto 128 c130_124 rfl ?_
            have es6365 : mq6355 376 1 = m 376 1 := (hFq6355 376 1 rfl)
            have tb6366 := hTq6355.atp 376 3 0 3 rfl
            have tb6367 := hTq6355.atp 376 6 0 320 rfl
            have tb6368 := hTq6355.atp 376 8 ((-1)) 320 rfl
            exact y_retI c130_128 (y_fit0 _) ⟨rfl, hTq6355, hF6359, by omega, by omega⟩
        · exfalso; omega
      · refine y_iload 78 c130_77 rfl rfl ?_
        refine y_if 92 81 c130_78 rfl rfl (yz_ge (by omega)) (fun hb6369 => ?_) (fun hb6369 => ?_)
        · refine y_iconst 93 c130_92 rfl ?_
          refine y_goto 97 c130_93 rfl ?_
          refine y_istore 98 c130_97 rfl rfl ?_
          refine y_iload 99 c130_98 rfl rfl ?_
          refine y_if 115 102 c130_99 rfl rfl (yz_eq (by omega)) (fun hb6370 => ?_) (fun hb6370 => ?_)
          · exfalso; omega
          · refine y_iload 103 c130_102 rfl rfl ?_
            refine y_if 115 106 c130_103 rfl rfl (yz_ge (by omega)) (fun hb6371 => ?_) (fun hb6371 => ?_)
            · refine y_aload 116 c130_115 rfl rfl rfl ?_
              refine y_iload 117 c130_116 rfl rfl ?_
              have tb6373 := hT.atp 376 1 0 320 rfl
              have tb6374 := hT.atp 376 6 0 320 rfl
              have tb6375 := hT.atp 376 8 ((-1)) 320 rfl
              refine y_callIB 120 [.ref 376, yI 1] [] c130_117 rfl rfl rfl rfl rfl (ycanO km105 ko376) (t105 (g := 1) hT (by omega) (by omega)) (fun rq6372 mq6372 nq6372 hq6372 => ?_)
              obtain ⟨rfl, hTq6372, hFq6372, hq6372⟩ := hq6372
              have x1q6372 : mq6372 376 1 = m 376 1 := (hFq6372 376 1 rfl)
              have hF6376 := hF.tr hFq6372 wNw_wVr1
              refine y_if 127 123 c130_120 rfl rfl (yz_eq (by omega)) (fun hb6377 => ?_) (fun hb6377 => ?_)
              · refine y_iconst 128 c130_127 rfl ?_
                have es6378 : mq6372 376 1 = m 376 1 := (hFq6372 376 1 rfl)
                have tb6379 := hTq6372.atp 376 3 0 3 rfl
                have tb6380 := hTq6372.atp 376 6 0 320 rfl
                have tb6381 := hTq6372.atp 376 8 ((-1)) 320 rfl
                exact y_retI c130_128 (y_fit0 _) ⟨rfl, hTq6372, hF6376, by omega, by omega⟩
              · refine y_iload 124 c130_123 rfl rfl ?_
                refine y_goto 128 c130_124 rfl ?_
                have es6382 : mq6372 376 1 = m 376 1 := (hFq6372 376 1 rfl)
                have tb6383 := hTq6372.atp 376 3 0 3 rfl
                have tb6384 := hTq6372.atp 376 6 0 320 rfl
                have tb6385 := hTq6372.atp 376 8 ((-1)) 320 rfl
                exact y_retI c130_128 (y_fit0 _) ⟨rfl, hTq6372, hF6376, by omega, by omega⟩
            · exfalso; omega
        · refine y_aload 82 c130_81 rfl rfl rfl ?_
          refine y_getR 85 c130_82 rfl kf376_26 ?_
          refine y_iload 86 c130_85 rfl rfl ?_
          refine y_iaX 87 (m 389 1) c130_86 rfl ka389 (by decide) rfl ?_
          refine y_iconst 89 c130_87 rfl ?_
          refine y_icmp 96 92 c130_89 rfl rfl (yc_ge (by omega) (by omega)) (fun hb6386 => ?_) (fun hb6386 => ?_)
          · refine y_iconst 97 c130_96 rfl ?_
            refine y_istore 98 c130_97 rfl rfl ?_
            refine y_iload 99 c130_98 rfl rfl ?_
            refine y_if 115 102 c130_99 rfl rfl (yz_eq (by omega)) (fun hb6387 => ?_) (fun hb6387 => ?_)
            · refine y_aload 116 c130_115 rfl rfl rfl ?_
              refine y_iload 117 c130_116 rfl rfl ?_
              have tb6389 := hT.atp 376 1 0 320 rfl
              have tb6390 := hT.atp 376 6 0 320 rfl
              have tb6391 := hT.atp 376 8 ((-1)) 320 rfl
              refine y_callIB 120 [.ref 376, yI 0] [] c130_117 rfl rfl rfl rfl rfl (ycanO km105 ko376) (t105 (g := 0) hT (by omega) (by omega)) (fun rq6388 mq6388 nq6388 hq6388 => ?_)
              obtain ⟨rfl, hTq6388, hFq6388, hq6388⟩ := hq6388
              have x1q6388 : mq6388 376 1 = m 376 1 := (hFq6388 376 1 rfl)
              have hF6392 := hF.tr hFq6388 wNw_wVr1
              refine y_if 127 123 c130_120 rfl rfl (yz_eq (by omega)) (fun hb6393 => ?_) (fun hb6393 => ?_)
              · refine y_iconst 128 c130_127 rfl ?_
                have es6394 : mq6388 376 1 = m 376 1 := (hFq6388 376 1 rfl)
                have tb6395 := hTq6388.atp 376 3 0 3 rfl
                have tb6396 := hTq6388.atp 376 6 0 320 rfl
                have tb6397 := hTq6388.atp 376 8 ((-1)) 320 rfl
                exact y_retI c130_128 (y_fit0 _) ⟨rfl, hTq6388, hF6392, by omega, by omega⟩
              · refine y_iload 124 c130_123 rfl rfl ?_
                refine y_goto 128 c130_124 rfl ?_
                have es6398 : mq6388 376 1 = m 376 1 := (hFq6388 376 1 rfl)
                have tb6399 := hTq6388.atp 376 3 0 3 rfl
                have tb6400 := hTq6388.atp 376 6 0 320 rfl
                have tb6401 := hTq6388.atp 376 8 ((-1)) 320 rfl
                exact y_retI c130_128 (y_fit0 _) ⟨rfl, hTq6388, hF6392, by omega, by omega⟩
            · exfalso; omega
          · refine y_iconst 93 c130_92 rfl ?_
            refine y_goto 97 c130_93 rfl ?_
            refine y_istore 98 c130_97 rfl rfl ?_
            refine y_iload 99 c130_98 rfl rfl ?_
            refine y_if 115 102 c130_99 rfl rfl (yz_eq (by omega)) (fun hb6402 => ?_) (fun hb6402 => ?_)
            · exfalso; omega
            · refine y_iload 103 c130_102 rfl rfl ?_
              refine y_if 115 106 c130_103 rfl rfl (yz_ge (by omega)) (fun hb6403 => ?_) (fun hb6403 => ?_)
              · exfalso; omega
              · refine y_aload 107 c130_106 rfl rfl rfl ?_
                refine y_aload 108 c130_107 rfl rfl rfl ?_
                refine y_getX 111 (m 376 4) c130_108 rfl kf376_4 rfl ?_
                have tb6404 := hT.atp 376 4 ((-2147483648)) 2147483647 rfl
                have tb6406 := hT.atp 376 1 0 320 rfl
                have tb6407 := hT.atp 376 6 0 320 rfl
                have tb6408 := hT.atp 376 8 ((-1)) 320 rfl
                have tb6409 := hT.atp 376 18 0 1 rfl
                refine y_callIB 114 [.ref 376, yI (m 376 4)] [] c130_111 rfl rfl rfl rfl rfl (ycanO km124 ko376) (t124_1 hT (by omega) (by omega) (by omega)) (fun rq6405 mq6405 nq6405 hq6405 => ?_)
                obtain ⟨rfl, hTq6405, hFq6405, hq6405⟩ := hq6405
                have x1q6405 : mq6405 376 1 = m 376 1 := (hFq6405 376 1 rfl)
                have hF6410 := hF.tr hFq6405 wVp1_wVr1
                refine y_istore 115 c130_114 rfl rfl ?_
                refine y_aload 116 c130_115 rfl rfl rfl ?_
                refine y_iload 117 c130_116 rfl rfl ?_
                have es6412 : mq6405 376 1 = m 376 1 := (hFq6405 376 1 rfl)
                have es6413 : mq6405 376 3 = m 376 3 := (hFq6405 376 3 rfl)
                have es6414 : mq6405 376 6 = m 376 6 := (hFq6405 376 6 rfl)
                have es6415 : mq6405 376 8 = m 376 8 := (hFq6405 376 8 rfl)
                have em6416 : mu mq6405 = mu m := mu_fr (hFq6405 376 1 rfl) (hFq6405 376 3 rfl) (hFq6405 376 6 rfl)
                refine y_callIB 120 [.ref 376, yI 1] [] c130_117 rfl rfl rfl rfl rfl (ycanO km105 ko376) (t105 (g := 1) hTq6405 (by omega) (by omega)) (fun rq6411 mq6411 nq6411 hq6411 => ?_)
                obtain ⟨rfl, hTq6411, hFq6411, hq6411⟩ := hq6411
                have x1q6411 : mq6411 376 1 = m 376 1 := ((hFq6411 376 1 rfl).trans (hFq6405 376 1 rfl))
                have hF6417 := hF6410.tr hFq6411 wNw_wVr1
                refine y_if 127 123 c130_120 rfl rfl (yz_eq (by omega)) (fun hb6418 => ?_) (fun hb6418 => ?_)
                · refine y_iconst 128 c130_127 rfl ?_
                  have es6419 : mq6411 376 1 = m 376 1 := ((hFq6411 376 1 rfl).trans (hFq6405 376 1 rfl))
                  have tb6420 := hTq6411.atp 376 3 0 3 rfl
                  have tb6421 := hTq6411.atp 376 6 0 320 rfl
                  have tb6422 := hTq6411.atp 376 8 ((-1)) 320 rfl
                  exact y_retI c130_128 (y_fit0 _) ⟨rfl, hTq6411, hF6417, by omega, by omega⟩
                · refine y_iload 124 c130_123 rfl rfl ?_
                  refine y_goto 128 c130_124 rfl ?_
                  have es6423 : mq6411 376 1 = m 376 1 := ((hFq6411 376 1 rfl).trans (hFq6405 376 1 rfl))
                  have tb6424 := hTq6411.atp 376 3 0 3 rfl
                  have tb6425 := hTq6411.atp 376 6 0 320 rfl
                  have tb6426 := hTq6411.atp 376 8 ((-1)) 320 rfl
                  exact y_retI c130_128 (y_fit0 _) ⟨rfl, hTq6411, hF6417, by omega, by omega⟩
    · refine y_aload 43 c130_42 rfl rfl rfl ?_
      have tb6427 := hT.atp 376 3 0 3 rfl
      refine y_callP 46 [.ref 376] [] c130_43 rfl rfl rfl rfl rfl (ycanO km115 ko376) (t115 hT) (fun r6428 hr6428 => ?_)
      refine y_if 70 49 c130_46 rfl rfl (yz_eq (by omega)) (fun hb6429 => ?_) (fun hb6429 => ?_)
      · refine y_aload 71 c130_70 rfl rfl rfl ?_
        refine y_callP 74 [.ref 376] [] c130_71 rfl rfl rfl rfl rfl (ycanO km115 ko376) (t115 hT) (fun r6430 hr6430 => ?_)
        refine y_if 96 77 c130_74 rfl rfl (yz_eq (by omega)) (fun hb6431 => ?_) (fun hb6431 => ?_)
        · refine y_iconst 97 c130_96 rfl ?_
          refine y_istore 98 c130_97 rfl rfl ?_
          refine y_iload 99 c130_98 rfl rfl ?_
          refine y_if 115 102 c130_99 rfl rfl (yz_eq (by omega)) (fun hb6432 => ?_) (fun hb6432 => ?_)
          · refine y_aload 116 c130_115 rfl rfl rfl ?_
            refine y_iload 117 c130_116 rfl rfl ?_
            have tb6434 := hT.atp 376 1 0 320 rfl
            have tb6435 := hT.atp 376 6 0 320 rfl
            have tb6436 := hT.atp 376 8 ((-1)) 320 rfl
            refine y_callIB 120 [.ref 376, yI 0] [] c130_117 rfl rfl rfl rfl rfl (ycanO km105 ko376) (t105 (g := 0) hT (by omega) (by omega)) (fun rq6433 mq6433 nq6433 hq6433 => ?_)
            obtain ⟨rfl, hTq6433, hFq6433, hq6433⟩ := hq6433
            have x1q6433 : mq6433 376 1 = m 376 1 := (hFq6433 376 1 rfl)
            have hF6437 := hF.tr hFq6433 wNw_wVr1
            refine y_if 127 123 c130_120 rfl rfl (yz_eq (by omega)) (fun hb6438 => ?_) (fun hb6438 => ?_)
            · refine y_iconst 128 c130_127 rfl ?_
              have es6439 : mq6433 376 1 = m 376 1 := (hFq6433 376 1 rfl)
              have tb6440 := hTq6433.atp 376 3 0 3 rfl
              have tb6441 := hTq6433.atp 376 6 0 320 rfl
              have tb6442 := hTq6433.atp 376 8 ((-1)) 320 rfl
              exact y_retI c130_128 (y_fit0 _) ⟨rfl, hTq6433, hF6437, by omega, by omega⟩
            · refine y_iload 124 c130_123 rfl rfl ?_
              refine y_goto 128 c130_124 rfl ?_
              have es6443 : mq6433 376 1 = m 376 1 := (hFq6433 376 1 rfl)
              have tb6444 := hTq6433.atp 376 3 0 3 rfl
              have tb6445 := hTq6433.atp 376 6 0 320 rfl
              have tb6446 := hTq6433.atp 376 8 ((-1)) 320 rfl
              exact y_retI c130_128 (y_fit0 _) ⟨rfl, hTq6433, hF6437, by omega, by omega⟩
          · exfalso; omega
        · refine y_iload 78 c130_77 rfl rfl ?_
          refine y_if 92 81 c130_78 rfl rfl (yz_ge (by omega)) (fun hb6447 => ?_) (fun hb6447 => ?_)
          · refine y_iconst 93 c130_92 rfl ?_
            refine y_goto 97 c130_93 rfl ?_
            refine y_istore 98 c130_97 rfl rfl ?_
            refine y_iload 99 c130_98 rfl rfl ?_
            refine y_if 115 102 c130_99 rfl rfl (yz_eq (by omega)) (fun hb6448 => ?_) (fun hb6448 => ?_)
            · exfalso; omega
            · refine y_iload 103 c130_102 rfl rfl ?_
              refine y_if 115 106 c130_103 rfl rfl (yz_ge (by omega)) (fun hb6449 => ?_) (fun hb6449 => ?_)
              · refine y_aload 116 c130_115 rfl rfl rfl ?_
                refine y_iload 117 c130_116 rfl rfl ?_
                have tb6451 := hT.atp 376 1 0 320 rfl
                have tb6452 := hT.atp 376 6 0 320 rfl
                have tb6453 := hT.atp 376 8 ((-1)) 320 rfl
                refine y_callIB 120 [.ref 376, yI 1] [] c130_117 rfl rfl rfl rfl rfl (ycanO km105 ko376) (t105 (g := 1) hT (by omega) (by omega)) (fun rq6450 mq6450 nq6450 hq6450 => ?_)
                obtain ⟨rfl, hTq6450, hFq6450, hq6450⟩ := hq6450
                have x1q6450 : mq6450 376 1 = m 376 1 := (hFq6450 376 1 rfl)
                have hF6454 := hF.tr hFq6450 wNw_wVr1
                refine y_if 127 123 c130_120 rfl rfl (yz_eq (by omega)) (fun hb6455 => ?_) (fun hb6455 => ?_)
                · refine y_iconst 128 c130_127 rfl ?_
                  have es6456 : mq6450 376 1 = m 376 1 := (hFq6450 376 1 rfl)
                  have tb6457 := hTq6450.atp 376 3 0 3 rfl
                  have tb6458 := hTq6450.atp 376 6 0 320 rfl
                  have tb6459 := hTq6450.atp 376 8 ((-1)) 320 rfl
                  exact y_retI c130_128 (y_fit0 _) ⟨rfl, hTq6450, hF6454, by omega, by omega⟩
                · refine y_iload 124 c130_123 rfl rfl ?_
                  refine y_goto 128 c130_124 rfl ?_
                  have es6460 : mq6450 376 1 = m 376 1 := (hFq6450 376 1 rfl)
                  have tb6461 := hTq6450.atp 376 3 0 3 rfl
                  have tb6462 := hTq6450.atp 376 6 0 320 rfl
                  have tb6463 := hTq6450.atp 376 8 ((-1)) 320 rfl
                  exact y_retI c130_128 (y_fit0 _) ⟨rfl, hTq6450, hF6454, by omega, by omega⟩
              · exfalso; omega
          · refine y_aload 82 c130_81 rfl rfl rfl ?_
            refine y_getR 85 c130_82 rfl kf376_26 ?_
            refine y_iload 86 c130_85 rfl rfl ?_
            refine y_iaX 87 (m 389 1) c130_86 rfl ka389 (by decide) rfl ?_
            refine y_iconst 89 c130_87 rfl ?_
            refine y_icmp 96 92 c130_89 rfl rfl (yc_ge (by omega) (by omega)) (fun hb6464 => ?_) (fun hb6464 => ?_)
            · refine y_iconst 97 c130_96 rfl ?_
              refine y_istore 98 c130_97 rfl rfl ?_
              refine y_iload 99 c130_98 rfl rfl ?_
              refine y_if 115 102 c130_99 rfl rfl (yz_eq (by omega)) (fun hb6465 => ?_) (fun hb6465 => ?_)
              · refine y_aload 116 c130_115 rfl rfl rfl ?_
                refine y_iload 117 c130_116 rfl rfl ?_
                have tb6467 := hT.atp 376 1 0 320 rfl
                have tb6468 := hT.atp 376 6 0 320 rfl
                have tb6469 := hT.atp 376 8 ((-1)) 320 rfl
                refine y_callIB 120 [.ref 376, yI 0] [] c130_117 rfl rfl rfl rfl rfl (ycanO km105 ko376) (t105 (g := 0) hT (by omega) (by omega)) (fun rq6466 mq6466 nq6466 hq6466 => ?_)
                obtain ⟨rfl, hTq6466, hFq6466, hq6466⟩ := hq6466
                have x1q6466 : mq6466 376 1 = m 376 1 := (hFq6466 376 1 rfl)
                have hF6470 := hF.tr hFq6466 wNw_wVr1
                refine y_if 127 123 c130_120 rfl rfl (yz_eq (by omega)) (fun hb6471 => ?_) (fun hb6471 => ?_)
                · refine y_iconst 128 c130_127 rfl ?_
                  have es6472 : mq6466 376 1 = m 376 1 := (hFq6466 376 1 rfl)
                  have tb6473 := hTq6466.atp 376 3 0 3 rfl
                  have tb6474 := hTq6466.atp 376 6 0 320 rfl
                  have tb6475 := hTq6466.atp 376 8 ((-1)) 320 rfl
                  exact y_retI c130_128 (y_fit0 _) ⟨rfl, hTq6466, hF6470, by omega, by omega⟩
                · refine y_iload 124 c130_123 rfl rfl ?_
                  refine y_goto 128 c130_124 rfl ?_
                  have es6476 : mq6466 376 1 = m 376 1 := (hFq6466 376 1 rfl)
                  have tb6477 := hTq6466.atp 376 3 0 3 rfl
                  have tb6478 := hTq6466.atp 376 6 0 320 rfl
                  have tb6479 := hTq6466.atp 376 8 ((-1)) 320 rfl
                  exact y_retI c130_128 (y_fit0 _) ⟨rfl, hTq6466, hF6470, by omega, by omega⟩
              · exfalso; omega
            · refine y_iconst 93 c130_92 rfl ?_
              refine y_goto 97 c130_93 rfl ?_
              refine y_istore 98 c130_97 rfl rfl ?_
              refine y_iload 99 c130_98 rfl rfl ?_
              refine y_if 115 102 c130_99 rfl rfl (yz_eq (by omega)) (fun hb6480 => ?_) (fun hb6480 => ?_)
              · exfalso; omega
              · refine y_iload 103 c130_102 rfl rfl ?_
                refine y_if 115 106 c130_103 rfl rfl (yz_ge (by omega)) (fun hb6481 => ?_) (fun hb6481 => ?_)
                · exfalso; omega
                · refine y_aload 107 c130_106 rfl rfl rfl ?_
                  refine y_aload 108 c130_107 rfl rfl rfl ?_
                  refine y_getX 111 (m 376 4) c130_108 rfl kf376_4 rfl ?_
                  have tb6482 := hT.atp 376 4 ((-2147483648)) 2147483647 rfl
                  have tb6484 := hT.atp 376 1 0 320 rfl
                  have tb6485 := hT.atp 376 6 0 320 rfl
                  have tb6486 := hT.atp 376 8 ((-1)) 320 rfl
                  have tb6487 := hT.atp 376 18 0 1 rfl
                  refine y_callIB 114 [.ref 376, yI (m 376 4)] [] c130_111 rfl rfl rfl rfl rfl (ycanO km124 ko376) (t124_1 hT (by omega) (by omega) (by omega)) (fun rq6483 mq6483 nq6483 hq6483 => ?_)
                  obtain ⟨rfl, hTq6483, hFq6483, hq6483⟩ := hq6483
                  have x1q6483 : mq6483 376 1 = m 376 1 := (hFq6483 376 1 rfl)
                  have hF6488 := hF.tr hFq6483 wVp1_wVr1
                  refine y_istore 115 c130_114 rfl rfl ?_
                  refine y_aload 116 c130_115 rfl rfl rfl ?_
                  refine y_iload 117 c130_116 rfl rfl ?_
                  have es6490 : mq6483 376 1 = m 376 1 := (hFq6483 376 1 rfl)
                  have es6491 : mq6483 376 3 = m 376 3 := (hFq6483 376 3 rfl)
                  have es6492 : mq6483 376 6 = m 376 6 := (hFq6483 376 6 rfl)
                  have es6493 : mq6483 376 8 = m 376 8 := (hFq6483 376 8 rfl)
                  have em6494 : mu mq6483 = mu m := mu_fr (hFq6483 376 1 rfl) (hFq6483 376 3 rfl) (hFq6483 376 6 rfl)
                  refine y_callIB 120 [.ref 376, yI 1] [] c130_117 rfl rfl rfl rfl rfl (ycanO km105 ko376) (t105 (g := 1) hTq6483 (by omega) (by omega)) (fun rq6489 mq6489 nq6489 hq6489 => ?_)
                  obtain ⟨rfl, hTq6489, hFq6489, hq6489⟩ := hq6489
                  have x1q6489 : mq6489 376 1 = m 376 1 := ((hFq6489 376 1 rfl).trans (hFq6483 376 1 rfl))
                  have hF6495 := hF6488.tr hFq6489 wNw_wVr1
                  refine y_if 127 123 c130_120 rfl rfl (yz_eq (by omega)) (fun hb6496 => ?_) (fun hb6496 => ?_)
                  · refine y_iconst 128 c130_127 rfl ?_
                    have es6497 : mq6489 376 1 = m 376 1 := ((hFq6489 376 1 rfl).trans (hFq6483 376 1 rfl))
                    have tb6498 := hTq6489.atp 376 3 0 3 rfl
                    have tb6499 := hTq6489.atp 376 6 0 320 rfl
                    have tb6500 := hTq6489.atp 376 8 ((-1)) 320 rfl
                    exact y_retI c130_128 (y_fit0 _) ⟨rfl, hTq6489, hF6495, by omega, by omega⟩
                  · refine y_iload 124 c130_123 rfl rfl ?_
                    refine y_goto 128 c130_124 rfl ?_
                    have es6501 : mq6489 376 1 = m 376 1 := ((hFq6489 376 1 rfl).trans (hFq6483 376 1 rfl))
                    have tb6502 := hTq6489.atp 376 3 0 3 rfl
                    have tb6503 := hTq6489.atp 376 6 0 320 rfl
                    have tb6504 := hTq6489.atp 376 8 ((-1)) 320 rfl
                    exact y_retI c130_128 (y_fit0 _) ⟨rfl, hTq6489, hF6495, by omega, by omega⟩
      · refine y_aload 50 c130_49 rfl rfl rfl ?_
        refine y_getR 53 c130_50 rfl kf376_13 ?_
        refine y_iload 54 c130_53 rfl rfl ?_
        refine y_iaT 55 ((-2147483648)) 2147483647 c130_54 rfl ka380 (by omega) hT rfl (fun v6505 hv6505 gv6505 => ?_)
        refine y_aload 56 c130_55 rfl rfl rfl ?_
        refine y_getX 59 (m 376 4) c130_56 rfl kf376_4 rfl ?_
        have tb6506 := hT.atp 376 4 ((-2147483648)) 2147483647 rfl
        refine y_icmp 64 62 c130_59 rfl rfl (yc_ne (by omega) (by omega)) (fun hb6507 => ?_) (fun hb6507 => ?_)
        · refine y_iinc 67 c130_64 rfl rfl rfl ?_
          refine y_goto 32 c130_67 rfl ?_
          exact ih (48 - (i + 1) : Int).toNat (by omega) v (i + 1)   (by omega) (by omega) (by omega)
        · refine y_iload 63 c130_62 rfl rfl ?_
          refine y_istore 64 c130_63 rfl rfl ?_
          refine y_iinc 67 c130_64 rfl rfl rfl ?_
          refine y_goto 32 c130_67 rfl ?_
          exact ih (48 - (i + 1) : Int).toNat (by omega) i (i + 1)   (by omega) (by omega) (by omega)
set_option maxRecDepth 100000 in
theorem t130_1 {L : Nat} {xs : Nat → Int32} {d nn : Nat} {m : yM} (hT : Ty gT m) (hl : m 376 6 ≤ m 376 1) (hn : m 376 18 = 0) (h8 : m 376 8 < 0) : YC (gZ L xs) (d + 4) 130 [.ref 376] m nn (qI (fun r m' n' => n' = nn ∧ Ty gT m' ∧ Fr wVr1 m m' ∧ m' 376 6 ≤ m' 376 1 ∧ (-1 ≤ r ∧ r ≤ 47 ∧ (0 ≤ m' 376 8 ∨ (m' 376 8 < 0 ∧ 0 ≤ r ∧ mu m' < mu m))))) := by
  have tb14 := hT.atp 376 14 0 46 rfl
  refine YC.mkB [some (.ref 376), none, none, none] kn130 rfl rfl ?_
  have hF : Fr wVr1 m m := Fr.rf
  refine y_aload 1 c130_0 rfl rfl rfl ?_
  have tb6509 := hT.atp 376 18 0 1 rfl
  refine y_callP 4 [.ref 376] [] c130_1 rfl rfl rfl rfl rfl (ycanO km96 ko376) (t96_1 (by omega)) (fun r6508 hr6508 => ?_)
  subst hr6508
  refine y_istore 5 c130_4 rfl rfl ?_
  refine y_aload 6 c130_5 rfl rfl rfl ?_
  have tb6510 := hT.atp 376 3 0 3 rfl
  refine y_callP 9 [.ref 376] [] c130_6 rfl rfl rfl rfl rfl (ycanO km114 ko376) (t114 hT) (fun r6511 hr6511 => ?_)
  refine y_if 23 12 c130_9 rfl rfl (yz_eq (by omega)) (fun hb6512 => ?_) (fun hb6512 => ?_)
  · refine y_iconst 24 c130_23 rfl ?_
    refine y_istore 25 c130_24 rfl rfl ?_
    refine y_aload 26 c130_25 rfl rfl rfl ?_
    refine y_getX 29 (m 376 14) c130_26 rfl kf376_14 rfl ?_
    refine y_iconst 30 c130_29 rfl ?_
    refine y_iadd 31 c130_30 rfl ?_
    refine y_istore 32 c130_31 rfl rfl ?_
    exact t130a_1 hT hl hn h8 (48 - ((m 376 14) + 2)).toNat (-1) ((m 376 14) + 2) (by omega) (by omega) (by omega)
  · refine y_aload 13 c130_12 rfl rfl rfl ?_
    have tb6514 := hT.atp 376 1 0 320 rfl
    have tb6515 := hT.atp 376 6 0 320 rfl
    have tb6516 := hT.atp 376 8 ((-1)) 320 rfl
    refine y_callUB 16 [.ref 376] [] c130_13 rfl rfl rfl rfl rfl (ycanO km99 ko376) (t99u hT (by omega)) (fun mq6513 nq6513 hq6513 => ?_)
    obtain ⟨rfl, hTq6513, hFq6513, hq6513⟩ := hq6513
    have x1q6513 : mq6513 376 1 = m 376 1 := (hFq6513 376 1 rfl)
    have hF6517 := hF.tr hFq6513 wNx_wVr1
    refine y_aload 17 c130_16 rfl rfl rfl ?_
    refine y_getX 20 (m 376 14) c130_17 rfl kf376_14 (hFq6513 376 14 rfl) ?_
    refine y_iconst 21 c130_20 rfl ?_
    refine y_iadd 22 c130_21 rfl ?_
    have es6518 : mq6513 376 1 = m 376 1 := (hFq6513 376 1 rfl)
    have tb6519 := hTq6513.atp 376 3 0 3 rfl
    have tb6520 := hTq6513.atp 376 6 0 320 rfl
    have es6521 : mq6513 376 8 = m 376 8 := (hFq6513 376 8 rfl)
    exact y_retI c130_22 (y_fit0 _) ⟨rfl, hTq6513, hF6517, by omega, by omega⟩
