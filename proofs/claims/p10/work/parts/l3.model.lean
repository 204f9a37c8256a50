/-! CONTRACTS: the model, names settled. Printed by wip/whole/gen9e.py -/
def wS40 (a q : Nat) : Bool := a == 400 && decide (0 ≤ q ∧ q < 12)
theorem wS40_w {q : Nat} (h : 0 ≤ q ∧ q < 12) : wS40 400 q = true := by
  simp [wS40]
  omega
def wS20 (a q : Nat) : Bool := a == 402 && decide (0 ≤ q ∧ q < 8)
theorem wS20_w {q : Nat} (h : 0 ≤ q ∧ q < 8) : wS20 402 q = true := by
  simp [wS20]
  omega
def wS30 (a q : Nat) : Bool := a == 403 && decide (0 ≤ q ∧ q < 1000)
theorem wS30_w {q : Nat} (h : 0 ≤ q ∧ q < 1000) : wS30 403 q = true := by
  simp [wS30]
  omega
def wSe0 (a q : Nat) : Bool := (a == 376 && q == 8) || wS40 a q || wS20 a q || wS30 a q
theorem wS40_wSe0 : ∀ a q, wS40 a q = true → wSe0 a q = true := by
  intro a q h
  simp [wSe0, h]
theorem wS20_wSe0 : ∀ a q, wS20 a q = true → wSe0 a q = true := by
  intro a q h
  simp [wSe0, h]
theorem wS30_wSe0 : ∀ a q, wS30 a q = true → wSe0 a q = true := by
  intro a q h
  simp [wSe0, h]
theorem wWr_wSe0 : ∀ a q, wWr a q = true → wSe0 a q = true := by
  intro a q h
  simp [wWr] at h
  simp [wSe0, h]
set_option maxRecDepth 100000 in
theorem t141a_0 {L : Nat} {xs : Nat → Int32} {d nn : Nat} {m : yM} {Q : xO → yM → Nat → Prop} (hT : Ty gT m) (ho : ∀ (x2 : Option Value) (mi : yM), Ty gT mi → Fr wWr m mi → YW (gZ L xs) 141 (d + 1) 47 [some (.ref 376), some (yI 0), x2, none] [] mi nn Q) : ∀ (km : Nat) (i : Int) (mi : yM), m 376 17 - i = km → 0 ≤ i ∧ i ≤ m 376 17 → Ty gT mi → Fr wWr m mi → YW (gZ L xs) 141 (d + 1) 2 [some (.ref 376), some (yI 0), some (yI i), none] [] mi nn (Q) := by
  intro km
  induction km using Nat.strongRecOn with
  | ind km ih =>
    intro i mi hk hi hTi hFi
    have tb383 := hT.atp 383 0 0 6 rfl
    have tb384 := hT.atp 384 0 0 10 rfl
    have tb385 := hT.atp 385 0 0 8 rfl
    have tb387 := hT.atp 387 0 0 8 rfl
    have tb388 := hT.atp 388 0 0 12 rfl
    have tb390 := hT.atp 390 0 0 125 rfl
    have tb17 := hT.atp 376 17 0 20 rfl
    refine y_iload 3 c141_2 rfl rfl ?_
    refine y_aload 4 c141_3 rfl rfl rfl ?_
    refine y_getX 7 (m 376 17) c141_4 rfl kf376_17 (hFi 376 17 rfl) ?_
    refine y_icmp 47 10 c141_7 rfl rfl (yc_ge (by omega) (by omega)) (fun hb12798 => ?_) (fun hb12798 => ?_)
    · exact ho _ _ hTi hFi
    · refine y_aload 11 c141_10 rfl rfl rfl ?_
      refine y_getX 14 (mi 376 8) c141_11 rfl kf376_8 rfl ?_
      have tb12799 := hTi.atp 376 8 ((-1)) 320 rfl
      refine y_if 47 17 c141_14 rfl rfl (yz_ge (by omega)) (fun hb12800 => ?_) (fun hb12800 => ?_)
      · exact ho _ _ hTi hFi
      · refine y_aload 18 c141_17 rfl rfl rfl ?_
        refine y_iload 19 c141_18 rfl rfl ?_
        refine y_aload 20 c141_19 rfl rfl rfl ?_
        refine y_getR 23 c141_20 rfl kf376_15 ?_
        refine y_iload 24 c141_23 rfl rfl ?_
        refine y_iaT 25 ((-2147483648)) 2147483647 c141_24 rfl ka381 (by omega) hTi rfl (fun v12801 hv12801 gv12801 => ?_)
        have es12802 : mi 383 0 = m 383 0 := (hFi 383 0 rfl)
        refine y_callP 28 [.ref 376, yI 0, yI v12801] [] c141_25 rfl rfl rfl rfl rfl (ycanO km116 ko376) (t116_0 hTi (by omega)) (fun r12803 hr12803 => ?_)
        refine y_if 41 31 c141_28 rfl rfl (yz_ge (by omega)) (fun hb12804 => ?_) (fun hb12804 => ?_)
        · refine y_iinc 44 c141_41 rfl rfl rfl ?_
          refine y_goto 2 c141_44 rfl ?_
          exact ih (m 376 17 - (i + 1) : Int).toNat (by omega) (i + 1)  _ (by omega) (by omega) hTi hFi
        · refine y_aload 32 c141_31 rfl rfl rfl ?_
          refine y_aload 33 c141_32 rfl rfl rfl ?_
          refine y_getR 36 c141_33 rfl kf376_16 ?_
          refine y_iload 37 c141_36 rfl rfl ?_
          refine y_iaT 38 0 320 c141_37 rfl ka382 (by omega) hTi rfl (fun v12805 hv12805 gv12805 => ?_)
          refine y_putI 41 c141_38 rfl kf376_8 (y_fit0 _) ?_
          have hT12806 := hTi.up 376 8 v12805 ((-1)) 320 rfl (by omega)
          have hF12807 := hFi.up 376 8 v12805 rfl
          refine y_iinc 44 c141_41 rfl rfl rfl ?_
          refine y_goto 2 c141_44 rfl ?_
          exact ih (m 376 17 - (i + 1) : Int).toNat (by omega) (i + 1)  _ (by omega) (by omega) hT12806 hF12807
set_option maxRecDepth 100000 in
theorem t141b_0 {L : Nat} {xs : Nat → Int32} {d nn : Nat} {m : yM} {Q : xO → yM → Nat → Prop} (hT : Ty gT m) (ho : ∀ (x2 : Option Value) (mi : yM), Ty gT mi → Fr wS40 m mi → SX 0 mi (m 388 0) (m 383 0) → YW (gZ L xs) 141 (d + 1) 100 [some (.ref 376), some (yI 0), x2, none] [] mi nn Q) : ∀ (km : Nat) (i : Int) (mi : yM), 12 - i = km → 1 ≤ i ∧ i ≤ 12 → Ty gT mi → Fr wS40 m mi → SX 0 mi i (m 383 0) → YW (gZ L xs) 141 (d + 1) 57 [some (.ref 376), some (yI 0), some (yI i), none] [] mi nn (Q) := by
  intro km
  induction km using Nat.strongRecOn with
  | ind km ih =>
    intro i mi hk hi hTi hFi hs
    have tb383 := hT.atp 383 0 0 6 rfl
    have tb384 := hT.atp 384 0 0 10 rfl
    have tb385 := hT.atp 385 0 0 8 rfl
    have tb387 := hT.atp 387 0 0 8 rfl
    have tb388 := hT.atp 388 0 0 12 rfl
    have tb390 := hT.atp 390 0 0 125 rfl
    have tb17 := hT.atp 376 17 0 20 rfl
    refine y_iload 58 c141_57 rfl rfl ?_
    refine y_aload 59 c141_58 rfl rfl rfl ?_
    refine y_getR 62 c141_59 rfl kf376_25 ?_
    refine y_iload 63 c141_62 rfl rfl ?_
    refine y_iaX 64 (m 388 0) c141_63 rfl ka388 (by decide) (hFi 388 0 rfl) ?_
    refine y_icmp 100 67 c141_64 rfl rfl (yc_ge (by omega) (by omega)) (fun hb12808 => ?_) (fun hb12808 => ?_)
    · exact ho _ _ hTi hFi (fun k hk => hs k (by omega))
    · refine y_aload 68 c141_67 rfl rfl rfl ?_
      refine y_getR 71 c141_68 rfl kf376_37 ?_
      refine y_iconst 73 c141_71 rfl ?_
      refine y_iload 74 c141_73 rfl rfl ?_
      refine y_imul 75 c141_74 rfl ?_
      refine y_top 0 (by decide) ?_
      refine y_iload 76 c141_75 rfl rfl ?_
      refine y_iadd 77 c141_76 rfl ?_
      refine y_aload 78 c141_77 rfl rfl rfl ?_
      refine y_iload 79 c141_78 rfl rfl ?_
      refine y_aload 80 c141_79 rfl rfl rfl ?_
      refine y_getR 83 c141_80 rfl kf376_37 ?_
      refine y_iconst 85 c141_83 rfl ?_
      refine y_iload 86 c141_85 rfl rfl ?_
      refine y_imul 87 c141_86 rfl ?_
      refine y_top 0 (by decide) ?_
      refine y_iload 88 c141_87 rfl rfl ?_
      refine y_iadd 89 c141_88 rfl ?_
      refine y_iaT 90 ((-2147483648)) 2147483647 c141_89 rfl ka400 (by omega) hTi rfl (fun v12809 hv12809 gv12809 => ?_)
      have es12810 : mi 383 0 = m 383 0 := (hFi 383 0 rfl)
      refine y_callP 93 [.ref 376, yI 0, yI v12809] [yI (0 + i), .ref 400] c141_90 rfl rfl rfl rfl rfl (ycanO km116 ko376) (t116_0 hTi (by omega)) (fun r12811 hr12811 => ?_)
      refine y_iastore 94 c141_93 rfl ka400 (by omega) (y_nar0 _) ?_
      have hT12812 := hTi.up 400 ((0 + i).toNat) r12811 ((-2147483648)) 2147483647 rfl (by omega)
      have hF12813 := hFi.up 400 ((0 + i).toNat) r12811 (wS40_w (by omega))
      refine y_iinc 97 c141_94 rfl rfl rfl ?_
      refine y_goto 57 c141_97 rfl ?_
      exact ih (12 - (i + 1) : Int).toNat (by omega) (i + 1)  _ (by omega) (by omega) hT12812 hF12813 (SX.snoc (SX.fr hs (fun k hk => yup_nk (by omega))) (by omega) (by rw [show 12 * 0 + i.toNat = (0 + i).toNat by omega, yup_eq]; omega))
set_option maxRecDepth 100000 in
theorem t141c_0 {L : Nat} {xs : Nat → Int32} {d nn : Nat} {m : yM} {Q : xO → yM → Nat → Prop} (hT : Ty gT m) (ho : ∀ (x2 : Option Value) (mi : yM), Ty gT mi → Fr wS20 m mi → YW (gZ L xs) 141 (d + 1) 145 [some (.ref 376), some (yI 0), x2, none] [] mi nn Q) : ∀ (km : Nat) (i : Int) (mi : yM), m 387 0 - i = km → 0 ≤ i ∧ i ≤ m 387 0 → Ty gT mi → Fr wS20 m mi → YW (gZ L xs) 141 (d + 1) 102 [some (.ref 376), some (yI 0), some (yI i), none] [] mi nn (Q) := by
  intro km
  induction km using Nat.strongRecOn with
  | ind km ih =>
    intro i mi hk hi hTi hFi
    have tb383 := hT.atp 383 0 0 6 rfl
    have tb384 := hT.atp 384 0 0 10 rfl
    have tb385 := hT.atp 385 0 0 8 rfl
    have tb387 := hT.atp 387 0 0 8 rfl
    have tb388 := hT.atp 388 0 0 12 rfl
    have tb390 := hT.atp 390 0 0 125 rfl
    have tb17 := hT.atp 376 17 0 20 rfl
    refine y_iload 103 c141_102 rfl rfl ?_
    refine y_aload 104 c141_103 rfl rfl rfl ?_
    refine y_getR 107 c141_104 rfl kf376_24 ?_
    refine y_iload 108 c141_107 rfl rfl ?_
    refine y_iaX 109 (m 387 0) c141_108 rfl ka387 (by decide) (hFi 387 0 rfl) ?_
    refine y_icmp 145 112 c141_109 rfl rfl (yc_ge (by omega) (by omega)) (fun hb12814 => ?_) (fun hb12814 => ?_)
    · exact ho _ _ hTi hFi
    · refine y_aload 113 c141_112 rfl rfl rfl ?_
      refine y_getR 116 c141_113 rfl kf376_39 ?_
      refine y_iconst 118 c141_116 rfl ?_
      refine y_iload 119 c141_118 rfl rfl ?_
      refine y_imul 120 c141_119 rfl ?_
      refine y_top 0 (by decide) ?_
      refine y_iload 121 c141_120 rfl rfl ?_
      refine y_iadd 122 c141_121 rfl ?_
      refine y_aload 123 c141_122 rfl rfl rfl ?_
      refine y_iload 124 c141_123 rfl rfl ?_
      refine y_aload 125 c141_124 rfl rfl rfl ?_
      refine y_getR 128 c141_125 rfl kf376_39 ?_
      refine y_iconst 130 c141_128 rfl ?_
      refine y_iload 131 c141_130 rfl rfl ?_
      refine y_imul 132 c141_131 rfl ?_
      refine y_top 0 (by decide) ?_
      refine y_iload 133 c141_132 rfl rfl ?_
      refine y_iadd 134 c141_133 rfl ?_
      refine y_iaT 135 ((-2147483648)) 2147483647 c141_134 rfl ka402 (by omega) hTi rfl (fun v12815 hv12815 gv12815 => ?_)
      have es12816 : mi 383 0 = m 383 0 := (hFi 383 0 rfl)
      refine y_callP 138 [.ref 376, yI 0, yI v12815] [yI (0 + i), .ref 402] c141_135 rfl rfl rfl rfl rfl (ycanO km116 ko376) (t116_0 hTi (by omega)) (fun r12817 hr12817 => ?_)
      refine y_iastore 139 c141_138 rfl ka402 (by omega) (y_nar0 _) ?_
      have hT12818 := hTi.up 402 ((0 + i).toNat) r12817 ((-2147483648)) 2147483647 rfl (by omega)
      have hF12819 := hFi.up 402 ((0 + i).toNat) r12817 (wS20_w (by omega))
      refine y_iinc 142 c141_139 rfl rfl rfl ?_
      refine y_goto 102 c141_142 rfl ?_
      exact ih (m 387 0 - (i + 1) : Int).toNat (by omega) (i + 1)  _ (by omega) (by omega) hT12818 hF12819
set_option maxRecDepth 100000 in
theorem t141d_0 {L : Nat} {xs : Nat → Int32} {d nn : Nat} {m : yM} {Q : xO → yM → Nat → Prop} (hT : Ty gT m) (h90 : m 390 0 ≤ 100) (ho : ∀ (x2 x3 : Option Value) (mi : yM), Ty gT mi → Fr wS30 m mi → (∀ o j : Nat, j < 8 → j ≠ 4 → mi 403 (1000 * 0 + 8 * o + j) = m 403 (1000 * 0 + 8 * o + j)) → (∀ o : Nat, m 403 (1000 * 0 + 8 * o) ≠ 4 → m 403 (1000 * 0 + 8 * o) ≠ 5 → mi 403 (1000 * 0 + 8 * o + 4) = m 403 (1000 * 0 + 8 * o + 4)) → FX 0 mi (m 390 0) → YW (gZ L xs) 141 (d + 1) 215 [some (.ref 376), some (yI 0), x2, x3] [] mi nn Q) : ∀ (km : Nat) (i : Int) (x3 : Option Value) (mi : yM), m 390 0 - i = km → 0 ≤ i ∧ i ≤ m 390 0 → Ty gT mi → Fr wS30 m mi → (∀ o j : Nat, j < 8 → j ≠ 4 → mi 403 (1000 * 0 + 8 * o + j) = m 403 (1000 * 0 + 8 * o + j)) → (∀ o : Nat, m 403 (1000 * 0 + 8 * o) ≠ 4 → m 403 (1000 * 0 + 8 * o) ≠ 5 → mi 403 (1000 * 0 + 8 * o + 4) = m 403 (1000 * 0 + 8 * o + 4)) → FX 0 mi i → YW (gZ L xs) 141 (d + 1) 147 [some (.ref 376), some (yI 0), some (yI i), x3] [] mi nn (Q) := by
  intro km
  induction km using Nat.strongRecOn with
  | ind km ih =>
    intro i x3 mi hk hi hTi hFi he he4 hx
    have tb383 := hT.atp 383 0 0 6 rfl
    have tb384 := hT.atp 384 0 0 10 rfl
    have tb385 := hT.atp 385 0 0 8 rfl
    have tb387 := hT.atp 387 0 0 8 rfl
    have tb388 := hT.atp 388 0 0 12 rfl
    have tb390 := hT.atp 390 0 0 125 rfl
    have tb17 := hT.atp 376 17 0 20 rfl
    refine y_iload 148 c141_147 rfl rfl ?_
    refine y_aload 149 c141_148 rfl rfl rfl ?_
    refine y_getR 152 c141_149 rfl kf376_27 ?_
    refine y_iload 153 c141_152 rfl rfl ?_
    refine y_iaX 154 (m 390 0) c141_153 rfl ka390 (by decide) (hFi 390 0 rfl) ?_
    refine y_icmp 215 157 c141_154 rfl rfl (yc_ge (by omega) (by omega)) (fun hb12820 => ?_) (fun hb12820 => ?_)
    · exact ho _ _ _ hTi hFi he he4 (fun k hk => hx k (by omega))
    · refine y_iconst 160 c141_157 rfl ?_
      refine y_iload 161 c141_160 rfl rfl ?_
      refine y_imul 162 c141_161 rfl ?_
      refine y_top 0 (by decide) ?_
      refine y_iconst 164 c141_162 rfl ?_
      refine y_iload 165 c141_164 rfl rfl ?_
      refine y_imul 166 c141_165 rfl ?_
      refine y_iadd 167 c141_166 rfl ?_
      refine y_istore 168 c141_167 rfl rfl ?_
      refine y_aload 169 c141_168 rfl rfl rfl ?_
      refine y_getR 172 c141_169 rfl kf376_40 ?_
      refine y_iload 173 c141_172 rfl rfl ?_
      refine y_iaT 174 ((-2147483648)) 2147483647 c141_173 rfl ka403 (by omega) hTi rfl (fun v12821 hv12821 gv12821 => ?_)
      have gv12821_ : m 403 (1000 * 0 + 8 * i.toNat) = v12821 := by have h0 := he i.toNat 0 (by decide) (by decide); simp only [Nat.add_zero] at h0; rw [← h0, show 1000 * 0 + 8 * i.toNat = (0 + (8 * i)).toNat by omega]; exact hv12821
      refine y_iconst 175 c141_174 rfl ?_
      refine y_icmp 188 178 c141_175 rfl rfl (yc_eq (by omega) (by omega)) (fun hb12822 => ?_) (fun hb12822 => ?_)
      · refine y_aload 189 c141_188 rfl rfl rfl ?_
        refine y_getR 192 c141_189 rfl kf376_40 ?_
        refine y_iload 193 c141_192 rfl rfl ?_
        refine y_iconst 194 c141_193 rfl ?_
        refine y_iadd 195 c141_194 rfl ?_
        refine y_aload 196 c141_195 rfl rfl rfl ?_
        refine y_iload 197 c141_196 rfl rfl ?_
        refine y_aload 198 c141_197 rfl rfl rfl ?_
        refine y_getR 201 c141_198 rfl kf376_40 ?_
        refine y_iload 202 c141_201 rfl rfl ?_
        refine y_iconst 203 c141_202 rfl ?_
        refine y_iadd 204 c141_203 rfl ?_
        refine y_iaT 205 ((-2147483648)) 2147483647 c141_204 rfl ka403 (by omega) hTi rfl (fun v12823 hv12823 gv12823 => ?_)
        have es12824 : mi 385 0 = m 385 0 := (hFi 385 0 rfl)
        refine y_callP 208 [.ref 376, yI 0, yI v12823] [yI ((0 + (8 * i)) + 4), .ref 403] c141_205 rfl rfl rfl rfl rfl (ycanO km120 ko376) (t120_0 hTi (by omega)) (fun r12825 hr12825 => ?_)
        refine y_iastore 209 c141_208 rfl ka403 (by omega) (y_nar0 _) ?_
        have hT12826 := hTi.up 403 (((0 + (8 * i)) + 4).toNat) r12825 ((-2147483648)) 2147483647 rfl (by omega)
        have hF12827 := hFi.up 403 (((0 + (8 * i)) + 4).toNat) r12825 (wS30_w (by omega))
        refine y_iinc 212 c141_209 rfl rfl rfl ?_
        refine y_goto 147 c141_212 rfl ?_
        exact ih (m 390 0 - (i + 1) : Int).toNat (by omega) (i + 1) _  _ (by omega) (by omega) hT12826 hF12827 (fun o j h1 h2 => (yup_nk (by omega)).trans (he o j h1 h2)) (fun o h1 h2 => (yup_nk (fun e => by have ho2 : o = i.toNat := (by omega); subst ho2; omega)).trans (he4 o h1 h2)) (FX.snoc (FX.fr hx (fun o ho2 => ⟨yup_nk (by omega), yup_nk (by omega)⟩)) (by omega) (fun _ => by rw [show 1000 * 0 + 8 * i.toNat + 4 = (0 + 8 * i + 4).toNat by omega, yup_eq]; omega))
      · refine y_aload 179 c141_178 rfl rfl rfl ?_
        refine y_getR 182 c141_179 rfl kf376_40 ?_
        refine y_iload 183 c141_182 rfl rfl ?_
        refine y_iaT 184 ((-2147483648)) 2147483647 c141_183 rfl ka403 (by omega) hTi rfl (fun v12828 hv12828 gv12828 => ?_)
        have gv12828_ : m 403 (1000 * 0 + 8 * i.toNat) = v12828 := by have h0 := he i.toNat 0 (by decide) (by decide); simp only [Nat.add_zero] at h0; rw [← h0, show 1000 * 0 + 8 * i.toNat = (0 + (8 * i)).toNat by omega]; exact hv12828
        refine y_iconst 185 c141_184 rfl ?_
        refine y_icmp 209 188 c141_185 rfl rfl (yc_ne (by omega) (by omega)) (fun hb12829 => ?_) (fun hb12829 => ?_)
        · refine y_iinc 212 c141_209 rfl rfl rfl ?_
          refine y_goto 147 c141_212 rfl ?_
          exact ih (m 390 0 - (i + 1) : Int).toNat (by omega) (i + 1) _  _ (by omega) (by omega) hTi hFi he he4 (FX.snoc hx (by omega) (by have h0 := he i.toNat 0 (by decide) (by decide); simp only [Nat.add_zero] at h0; rw [h0]; omega))
        · refine y_aload 189 c141_188 rfl rfl rfl ?_
          refine y_getR 192 c141_189 rfl kf376_40 ?_
          refine y_iload 193 c141_192 rfl rfl ?_
          refine y_iconst 194 c141_193 rfl ?_
          refine y_iadd 195 c141_194 rfl ?_
          refine y_aload 196 c141_195 rfl rfl rfl ?_
          refine y_iload 197 c141_196 rfl rfl ?_
          refine y_aload 198 c141_197 rfl rfl rfl ?_
          refine y_getR 201 c141_198 rfl kf376_40 ?_
          refine y_iload 202 c141_201 rfl rfl ?_
          refine y_iconst 203 c141_202 rfl ?_
          refine y_iadd 204 c141_203 rfl ?_
          refine y_iaT 205 ((-2147483648)) 2147483647 c141_204 rfl ka403 (by omega) hTi rfl (fun v12830 hv12830 gv12830 => ?_)
          have es12831 : mi 385 0 = m 385 0 := (hFi 385 0 rfl)
          refine y_callP 208 [.ref 376, yI 0, yI v12830] [yI ((0 + (8 * i)) + 4), .ref 403] c141_205 rfl rfl rfl rfl rfl (ycanO km120 ko376) (t120_0 hTi (by omega)) (fun r12832 hr12832 => ?_)
          refine y_iastore 209 c141_208 rfl ka403 (by omega) (y_nar0 _) ?_
          have hT12833 := hTi.up 403 (((0 + (8 * i)) + 4).toNat) r12832 ((-2147483648)) 2147483647 rfl (by omega)
          have hF12834 := hFi.up 403 (((0 + (8 * i)) + 4).toNat) r12832 (wS30_w (by omega))
          refine y_iinc 212 c141_209 rfl rfl rfl ?_
          refine y_goto 147 c141_212 rfl ?_
          exact ih (m 390 0 - (i + 1) : Int).toNat (by omega) (i + 1) _  _ (by omega) (by omega) hT12833 hF12834 (fun o j h1 h2 => (yup_nk (by omega)).trans (he o j h1 h2)) (fun o h1 h2 => (yup_nk (fun e => by have ho2 : o = i.toNat := (by omega); subst ho2; omega)).trans (he4 o h1 h2)) (FX.snoc (FX.fr hx (fun o ho2 => ⟨yup_nk (by omega), yup_nk (by omega)⟩)) (by omega) (fun _ => by rw [show 1000 * 0 + 8 * i.toNat + 4 = (0 + 8 * i + 4).toNat by omega, yup_eq]; omega))
set_option maxRecDepth 100000 in
theorem t141_0 {L : Nat} {xs : Nat → Int32} {d nn : Nat} {m : yM} (hT : Ty gT m) (hC : XD 0 m) (hc1 : 1 ≤ m 383 0) (h40 : m 400 (12 * 0) = 0) (h90 : m 390 0 ≤ 100) (hM0 : MX 0 m (m 384 0) (m 390 0 - 1)) : YC (gZ L xs) (d + 1) 141 [.ref 376, yI 0] m nn (qU (fun m' n' => n' = nn ∧ Ty gT m' ∧ Fr wSe0 m m' ∧ (0 ≤ m' 376 8 ∨ (m' 376 8 < 0 ∧ GQ 0 m')))) := by
  have tb383 := hT.atp 383 0 0 6 rfl
  have tb384 := hT.atp 384 0 0 10 rfl
  have tb385 := hT.atp 385 0 0 8 rfl
  have tb387 := hT.atp 387 0 0 8 rfl
  have tb388 := hT.atp 388 0 0 12 rfl
  have tb390 := hT.atp 390 0 0 125 rfl
  have tb17 := hT.atp 376 17 0 20 rfl
  refine YC.mkB [some (.ref 376), some (yI 0), none, none] kn141 rfl rfl ?_
  have hF : Fr wSe0 m m := Fr.rf
  refine y_iconst 1 c141_0 rfl ?_
  refine y_istore 2 c141_1 rfl rfl ?_
  refine t141a_0 hT (fun zma0 ma hTma hFma => ?_) (m 376 17 - 0).toNat 0 m (by omega) (by omega) hT Fr.rf
  have hF12835 := hF.tr hFma wWr_wSe0
  refine y_aload 48 c141_47 rfl rfl rfl ?_
  refine y_getX 51 (ma 376 8) c141_48 rfl kf376_8 rfl ?_
  have tb12836 := hTma.atp 376 8 ((-1)) 320 rfl
  refine y_if 55 54 c141_51 rfl rfl (yz_lt (by omega)) (fun hb12837 => ?_) (fun hb12837 => ?_)
  · refine y_iconst 56 c141_55 rfl ?_
    refine y_istore 57 c141_56 rfl rfl ?_
    have es12838 : ma 383 0 = m 383 0 := (hFma 383 0 rfl)
    have es12839 : ma 388 0 = m 388 0 := (hFma 388 0 rfl)
    refine t141b_0 hTma (fun zmb0 mb hTmb hFmb hsb => ?_) 11 1 _ (by omega) (by omega) hTma Fr.rf (fun k hk => by have hk0 : k = 0 := (by omega); subst hk0; rw [show ma 400 (12 * 0 + 0) = m 400 (12 * 0) from hFma 400 _ rfl, h40]; omega)
    have hF12840 := hF12835.tr hFmb wS40_wSe0
    refine y_iconst 101 c141_100 rfl ?_
    refine y_istore 102 c141_101 rfl rfl ?_
    have es12841 : mb 387 0 = m 387 0 := ((hFmb 387 0 rfl).trans (hFma 387 0 rfl))
    refine t141c_0 hTmb (fun zmc0 mc hTmc hFmc => ?_) (mb 387 0 - 0).toNat 0 _ (by omega) (by omega) hTmb Fr.rf
    have hF12842 := hF12840.tr hFmc wS20_wSe0
    refine y_iconst 146 c141_145 rfl ?_
    refine y_istore 147 c141_146 rfl rfl ?_
    have es12843 : mc 390 0 = m 390 0 := ((hFmc 390 0 rfl).trans ((hFmb 390 0 rfl).trans (hFma 390 0 rfl)))
    refine t141d_0 hTmc (by omega) (fun zmd0  zmd1 md hTmd hFmd hed hed4 hxd => ?_) (mc 390 0 - 0).toNat 0 _ _ (by omega) (by omega) hTmc Fr.rf (fun o j h1 h2 => rfl) (fun o h1 h2 => rfl) (fun o ho2 => by omega)
    have hF12844 := hF12842.tr hFmd wS30_wSe0
    have es12845 : md 376 8 = ma 376 8 := ((hFmd 376 8 rfl).trans ((hFmc 376 8 rfl).trans (hFmb 376 8 rfl)))
    have es12846 : md 383 0 = m 383 0 := ((hFmd 383 0 rfl).trans ((hFmc 383 0 rfl).trans ((hFmb 383 0 rfl).trans (hFma 383 0 rfl))))
    have es12847 : md 384 0 = m 384 0 := ((hFmd 384 0 rfl).trans ((hFmc 384 0 rfl).trans ((hFmb 384 0 rfl).trans (hFma 384 0 rfl))))
    have es12848 : md 386 0 = m 386 0 := ((hFmd 386 0 rfl).trans ((hFmc 386 0 rfl).trans ((hFmb 386 0 rfl).trans (hFma 386 0 rfl))))
    have tb12849 := hT.atp 386 0 0 12 rfl
    have es12850 : md 387 0 = m 387 0 := ((hFmd 387 0 rfl).trans ((hFmc 387 0 rfl).trans ((hFmb 387 0 rfl).trans (hFma 387 0 rfl))))
    have es12851 : md 388 0 = m 388 0 := ((hFmd 388 0 rfl).trans ((hFmc 388 0 rfl).trans ((hFmb 388 0 rfl).trans (hFma 388 0 rfl))))
    have es12852 : md 390 0 = m 390 0 := ((hFmd 390 0 rfl).trans ((hFmc 390 0 rfl).trans ((hFmb 390 0 rfl).trans (hFma 390 0 rfl))))
    obtain ⟨x1, x2, x3, x4, x5, x6, x7, x8, x9⟩ := hC
    have c3 : ∀ q, mc 403 q = m 403 q := fun q => (hFmc 403 q rfl).trans ((hFmb 403 q rfl).trans (hFma 403 q rfl))
    have e1 : ∀ o j : Nat, j < 8 → j ≠ 4 → md 403 (1000 * 0 + 8 * o + j) = m 403 (1000 * 0 + 8 * o + j) := fun o j h1 h2 => (hed o j h1 h2).trans (c3 _)
    have e4 : ∀ o : Nat, m 403 (1000 * 0 + 8 * o) = 3 → md 403 (1000 * 0 + 8 * o + 4) = m 403 (1000 * 0 + 8 * o + 4) := fun o h3 => (hed4 o (by rw [c3]; omega) (by rw [c3]; omega)).trans (c3 _)
    refine y_retU c141_215 ⟨rfl, hTmd, hF12844, Or.inr ⟨by omega, ?_⟩⟩
    unfold GQ
    rw [show md 390 0 = m 390 0 from by omega, show md 386 0 = m 386 0 from by omega, show md 384 0 = m 384 0 from by omega, show md 383 0 = m 383 0 from by omega, show md 388 0 = m 388 0 from by omega, show md 387 0 = m 387 0 from by omega]
    refine ⟨x1.x4 e1 e4, x2.x4 e1, x5.x4 e1, hM0.fr (fun q => (hFmd 397 _ rfl).trans ((hFmc 397 _ rfl).trans ((hFmb 397 _ rfl).trans (hFma 397 _ rfl)))) (fun q => (hFmd 398 _ rfl).trans ((hFmc 398 _ rfl).trans ((hFmb 398 _ rfl).trans (hFma 398 _ rfl)))) (fun q => (hFmd 399 _ rfl).trans ((hFmc 399 _ rfl).trans ((hFmb 399 _ rfl).trans (hFma 399 _ rfl)))) (Int.le_refl _), x4.fr (fun q => (hFmd 392 _ rfl).trans ((hFmc 392 _ rfl).trans ((hFmb 392 _ rfl).trans (hFma 392 _ rfl)))), ?_, ?_, (CV.fr x8 (fun q => (hFmd 401 _ rfl).trans ((hFmc 401 _ rfl).trans ((hFmb 401 _ rfl).trans (hFma 401 _ rfl))))), x7, hc1, h90, fun o ho => by have z0 := e1 o 0 (by decide) (by decide); simp only [Nat.add_zero] at z0; rw [z0, e1 o 3 (by decide) (by decide)]; exact x9 o ho⟩
    · have h0 := SX.fr (m' := md) hsb (fun k hk => (hFmd 400 _ rfl).trans (hFmc 400 _ rfl)); rw [show ma 388 0 = m 388 0 from hFma 388 0 rfl, show ma 383 0 = m 383 0 from hFma 383 0 rfl] at h0; exact h0
    · rw [show mc 390 0 = m 390 0 from by omega] at hxd; exact hxd
  · exact y_retU c141_54 ⟨rfl, hTma, hF12835, Or.inl (by omega)⟩
def wS41 (a q : Nat) : Bool := a == 400 && decide (12 ≤ q ∧ q < 24)
theorem wS41_w {q : Nat} (h : 12 ≤ q ∧ q < 24) : wS41 400 q = true := by
  simp [wS41]
  omega
def wS21 (a q : Nat) : Bool := a == 402 && decide (8 ≤ q ∧ q < 16)
theorem wS21_w {q : Nat} (h : 8 ≤ q ∧ q < 16) : wS21 402 q = true := by
  simp [wS21]
  omega
def wS31 (a q : Nat) : Bool := a == 403 && decide (1000 ≤ q ∧ q < 2000)
theorem wS31_w {q : Nat} (h : 1000 ≤ q ∧ q < 2000) : wS31 403 q = true := by
  simp [wS31]
  omega
def wSe1 (a q : Nat) : Bool := (a == 376 && q == 8) || wS41 a q || wS21 a q || wS31 a q
theorem wS41_wSe1 : ∀ a q, wS41 a q = true → wSe1 a q = true := by
  intro a q h
  simp [wSe1, h]
theorem wS21_wSe1 : ∀ a q, wS21 a q = true → wSe1 a q = true := by
  intro a q h
  simp [wSe1, h]
theorem wS31_wSe1 : ∀ a q, wS31 a q = true → wSe1 a q = true := by
  intro a q h
  simp [wSe1, h]
theorem wWr_wSe1 : ∀ a q, wWr a q = true → wSe1 a q = true := by
  intro a q h
  simp [wWr] at h
  simp [wSe1, h]
set_option maxRecDepth 100000 in
theorem t141a_1 {L : Nat} {xs : Nat → Int32} {d nn : Nat} {m : yM} {Q : xO → yM → Nat → Prop} (hT : Ty gT m) (ho : ∀ (x2 : Option Value) (mi : yM), Ty gT mi → Fr wWr m mi → YW (gZ L xs) 141 (d + 1) 47 [some (.ref 376), some (yI 1), x2, none] [] mi nn Q) : ∀ (km : Nat) (i : Int) (mi : yM), m 376 17 - i = km → 0 ≤ i ∧ i ≤ m 376 17 → Ty gT mi → Fr wWr m mi → YW (gZ L xs) 141 (d + 1) 2 [some (.ref 376), some (yI 1), some (yI i), none] [] mi nn (Q) := by
  intro km
  induction km using Nat.strongRecOn with
  | ind km ih =>
    intro i mi hk hi hTi hFi
    have tb383 := hT.atp 383 1 0 6 rfl
    have tb384 := hT.atp 384 1 0 10 rfl
    have tb385 := hT.atp 385 1 0 8 rfl
    have tb387 := hT.atp 387 1 0 8 rfl
    have tb388 := hT.atp 388 1 0 12 rfl
    have tb390 := hT.atp 390 1 0 125 rfl
    have tb17 := hT.atp 376 17 0 20 rfl
    refine y_iload 3 c141_2 rfl rfl ?_
    refine y_aload 4 c141_3 rfl rfl rfl ?_
    refine y_getX 7 (m 376 17) c141_4 rfl kf376_17 (hFi 376 17 rfl) ?_
    refine y_icmp 47 10 c141_7 rfl rfl (yc_ge (by omega) (by omega)) (fun hb12853 => ?_) (fun hb12853 => ?_)
    · exact ho _ _ hTi hFi
    · refine y_aload 11 c141_10 rfl rfl rfl ?_
      refine y_getX 14 (mi 376 8) c141_11 rfl kf376_8 rfl ?_
      have tb12854 := hTi.atp 376 8 ((-1)) 320 rfl
      refine y_if 47 17 c141_14 rfl rfl (yz_ge (by omega)) (fun hb12855 => ?_) (fun hb12855 => ?_)
      · exact ho _ _ hTi hFi
      · refine y_aload 18 c141_17 rfl rfl rfl ?_
        refine y_iload 19 c141_18 rfl rfl ?_
        refine y_aload 20 c141_19 rfl rfl rfl ?_
        refine y_getR 23 c141_20 rfl kf376_15 ?_
        refine y_iload 24 c141_23 rfl rfl ?_
        refine y_iaT 25 ((-2147483648)) 2147483647 c141_24 rfl ka381 (by omega) hTi rfl (fun v12856 hv12856 gv12856 => ?_)
        have es12857 : mi 383 1 = m 383 1 := (hFi 383 1 rfl)
        refine y_callP 28 [.ref 376, yI 1, yI v12856] [] c141_25 rfl rfl rfl rfl rfl (ycanO km116 ko376) (t116_1 hTi (by omega)) (fun r12858 hr12858 => ?_)
        refine y_if 41 31 c141_28 rfl rfl (yz_ge (by omega)) (fun hb12859 => ?_) (fun hb12859 => ?_)
        · refine y_iinc 44 c141_41 rfl rfl rfl ?_
          refine y_goto 2 c141_44 rfl ?_
          exact ih (m 376 17 - (i + 1) : Int).toNat (by omega) (i + 1)  _ (by omega) (by omega) hTi hFi
        · refine y_aload 32 c141_31 rfl rfl rfl ?_
          refine y_aload 33 c141_32 rfl rfl rfl ?_
          refine y_getR 36 c141_33 rfl kf376_16 ?_
          refine y_iload 37 c141_36 rfl rfl ?_
          refine y_iaT 38 0 320 c141_37 rfl ka382 (by omega) hTi rfl (fun v12860 hv12860 gv12860 => ?_)
          refine y_putI 41 c141_38 rfl kf376_8 (y_fit0 _) ?_
          have hT12861 := hTi.up 376 8 v12860 ((-1)) 320 rfl (by omega)
          have hF12862 := hFi.up 376 8 v12860 rfl
          refine y_iinc 44 c141_41 rfl rfl rfl ?_
          refine y_goto 2 c141_44 rfl ?_
          exact ih (m 376 17 - (i + 1) : Int).toNat (by omega) (i + 1)  _ (by omega) (by omega) hT12861 hF12862
set_option maxRecDepth 100000 in
theorem t141b_1 {L : Nat} {xs : Nat → Int32} {d nn : Nat} {m : yM} {Q : xO → yM → Nat → Prop} (hT : Ty gT m) (ho : ∀ (x2 : Option Value) (mi : yM), Ty gT mi → Fr wS41 m mi → SX 1 mi (m 388 1) (m 383 1) → YW (gZ L xs) 141 (d + 1) 100 [some (.ref 376), some (yI 1), x2, none] [] mi nn Q) : ∀ (km : Nat) (i : Int) (mi : yM), 12 - i = km → 1 ≤ i ∧ i ≤ 12 → Ty gT mi → Fr wS41 m mi → SX 1 mi i (m 383 1) → YW (gZ L xs) 141 (d + 1) 57 [some (.ref 376), some (yI 1), some (yI i), none] [] mi nn (Q) := by
  intro km
  induction km using Nat.strongRecOn with
  | ind km ih =>
    intro i mi hk hi hTi hFi hs
    have tb383 := hT.atp 383 1 0 6 rfl
    have tb384 := hT.atp 384 1 0 10 rfl
    have tb385 := hT.atp 385 1 0 8 rfl
    have tb387 := hT.atp 387 1 0 8 rfl
    have tb388 := hT.atp 388 1 0 12 rfl
    have tb390 := hT.atp 390 1 0 125 rfl
    have tb17 := hT.atp 376 17 0 20 rfl
    refine y_iload 58 c141_57 rfl rfl ?_
    refine y_aload 59 c141_58 rfl rfl rfl ?_
    refine y_getR 62 c141_59 rfl kf376_25 ?_
    refine y_iload 63 c141_62 rfl rfl ?_
    refine y_iaX 64 (m 388 1) c141_63 rfl ka388 (by decide) (hFi 388 1 rfl) ?_
    refine y_icmp 100 67 c141_64 rfl rfl (yc_ge (by omega) (by omega)) (fun hb12863 => ?_) (fun hb12863 => ?_)
    · exact ho _ _ hTi hFi (fun k hk => hs k (by omega))
    · refine y_aload 68 c141_67 rfl rfl rfl ?_
      refine y_getR 71 c141_68 rfl kf376_37 ?_
      refine y_iconst 73 c141_71 rfl ?_
      refine y_iload 74 c141_73 rfl rfl ?_
      refine y_imul 75 c141_74 rfl ?_
      refine y_top 12 (by decide) ?_
      refine y_iload 76 c141_75 rfl rfl ?_
      refine y_iadd 77 c141_76 rfl ?_
      refine y_aload 78 c141_77 rfl rfl rfl ?_
      refine y_iload 79 c141_78 rfl rfl ?_
      refine y_aload 80 c141_79 rfl rfl rfl ?_
      refine y_getR 83 c141_80 rfl kf376_37 ?_
      refine y_iconst 85 c141_83 rfl ?_
      refine y_iload 86 c141_85 rfl rfl ?_
      refine y_imul 87 c141_86 rfl ?_
      refine y_top 12 (by decide) ?_
      refine y_iload 88 c141_87 rfl rfl ?_
      refine y_iadd 89 c141_88 rfl ?_
      refine y_iaT 90 ((-2147483648)) 2147483647 c141_89 rfl ka400 (by omega) hTi rfl (fun v12864 hv12864 gv12864 => ?_)
      have es12865 : mi 383 1 = m 383 1 := (hFi 383 1 rfl)
      refine y_callP 93 [.ref 376, yI 1, yI v12864] [yI (12 + i), .ref 400] c141_90 rfl rfl rfl rfl rfl (ycanO km116 ko376) (t116_1 hTi (by omega)) (fun r12866 hr12866 => ?_)
      refine y_iastore 94 c141_93 rfl ka400 (by omega) (y_nar0 _) ?_
      have hT12867 := hTi.up 400 ((12 + i).toNat) r12866 ((-2147483648)) 2147483647 rfl (by omega)
      have hF12868 := hFi.up 400 ((12 + i).toNat) r12866 (wS41_w (by omega))
      refine y_iinc 97 c141_94 rfl rfl rfl ?_
      refine y_goto 57 c141_97 rfl ?_
      exact ih (12 - (i + 1) : Int).toNat (by omega) (i + 1)  _ (by omega) (by omega) hT12867 hF12868 (SX.snoc (SX.fr hs (fun k hk => yup_nk (by omega))) (by omega) (by rw [show 12 * 1 + i.toNat = (12 + i).toNat by omega, yup_eq]; omega))
set_option maxRecDepth 100000 in
theorem t141c_1 {L : Nat} {xs : Nat → Int32} {d nn : Nat} {m : yM} {Q : xO → yM → Nat → Prop} (hT : Ty gT m) (ho : ∀ (x2 : Option Value) (mi : yM), Ty gT mi → Fr wS21 m mi → YW (gZ L xs) 141 (d + 1) 145 [some (.ref 376), some (yI 1), x2, none] [] mi nn Q) : ∀ (km : Nat) (i : Int) (mi : yM), m 387 1 - i = km → 0 ≤ i ∧ i ≤ m 387 1 → Ty gT mi → Fr wS21 m mi → YW (gZ L xs) 141 (d + 1) 102 [some (.ref 376), some (yI 1), some (yI i), none] [] mi nn (Q) := by
  intro km
  induction km using Nat.strongRecOn with
  | ind km ih =>
    intro i mi hk hi hTi hFi
    have tb383 := hT.atp 383 1 0 6 rfl
    have tb384 := hT.atp 384 1 0 10 rfl
    have tb385 := hT.atp 385 1 0 8 rfl
    have tb387 := hT.atp 387 1 0 8 rfl
    have tb388 := hT.atp 388 1 0 12 rfl
    have tb390 := hT.atp 390 1 0 125 rfl
    have tb17 := hT.atp 376 17 0 20 rfl
    refine y_iload 103 c141_102 rfl rfl ?_
    refine y_aload 104 c141_103 rfl rfl rfl ?_
    refine y_getR 107 c141_104 rfl kf376_24 ?_
    refine y_iload 108 c141_107 rfl rfl ?_
    refine y_iaX 109 (m 387 1) c141_108 rfl ka387 (by decide) (hFi 387 1 rfl) ?_
    refine y_icmp 145 112 c141_109 rfl rfl (yc_ge (by omega) (by omega)) (fun hb12869 => ?_) (fun hb12869 => ?_)
    · exact ho _ _ hTi hFi
    · refine y_aload 113 c141_112 rfl rfl rfl ?_
      refine y_getR 116 c141_113 rfl kf376_39 ?_
      refine y_iconst 118 c141_116 rfl ?_
      refine y_iload 119 c141_118 rfl rfl ?_
      refine y_imul 120 c141_119 rfl ?_
      refine y_top 8 (by decide) ?_
      refine y_iload 121 c141_120 rfl rfl ?_
      refine y_iadd 122 c141_121 rfl ?_
      refine y_aload 123 c141_122 rfl rfl rfl ?_
      refine y_iload 124 c141_123 rfl rfl ?_
      refine y_aload 125 c141_124 rfl rfl rfl ?_
      refine y_getR 128 c141_125 rfl kf376_39 ?_
      refine y_iconst 130 c141_128 rfl ?_
      refine y_iload 131 c141_130 rfl rfl ?_
      refine y_imul 132 c141_131 rfl ?_
      refine y_top 8 (by decide) ?_
      refine y_iload 133 c141_132 rfl rfl ?_
      refine y_iadd 134 c141_133 rfl ?_
      refine y_iaT 135 ((-2147483648)) 2147483647 c141_134 rfl ka402 (by omega) hTi rfl (fun v12870 hv12870 gv12870 => ?_)
      have es12871 : mi 383 1 = m 383 1 := (hFi 383 1 rfl)
      refine y_callP 138 [.ref 376, yI 1, yI v12870] [yI (8 + i), .ref 402] c141_135 rfl rfl rfl rfl rfl (ycanO km116 ko376) (t116_1 hTi (by omega)) (fun r12872 hr12872 => ?_)
      refine y_iastore 139 c141_138 rfl ka402 (by omega) (y_nar0 _) ?_
      have hT12873 := hTi.up 402 ((8 + i).toNat) r12872 ((-2147483648)) 2147483647 rfl (by omega)
      have hF12874 := hFi.up 402 ((8 + i).toNat) r12872 (wS21_w (by omega))
      refine y_iinc 142 c141_139 rfl rfl rfl ?_
      refine y_goto 102 c141_142 rfl ?_
      exact ih (m 387 1 - (i + 1) : Int).toNat (by omega) (i + 1)  _ (by omega) (by omega) hT12873 hF12874
set_option maxRecDepth 100000 in
theorem t141d_1 {L : Nat} {xs : Nat → Int32} {d nn : Nat} {m : yM} {Q : xO → yM → Nat → Prop} (hT : Ty gT m) (h90 : m 390 1 ≤ 100) (ho : ∀ (x2 x3 : Option Value) (mi : yM), Ty gT mi → Fr wS31 m mi → (∀ o j : Nat, j < 8 → j ≠ 4 → mi 403 (1000 * 1 + 8 * o + j) = m 403 (1000 * 1 + 8 * o + j)) → (∀ o : Nat, m 403 (1000 * 1 + 8 * o) ≠ 4 → m 403 (1000 * 1 + 8 * o) ≠ 5 → mi 403 (1000 * 1 + 8 * o + 4) = m 403 (1000 * 1 + 8 * o + 4)) → FX 1 mi (m 390 1) → YW (gZ L xs) 141 (d + 1) 215 [some (.ref 376), some (yI 1), x2, x3] [] mi nn Q) : ∀ (km : Nat) (i : Int) (x3 : Option Value) (mi : yM), m 390 1 - i = km → 0 ≤ i ∧ i ≤ m 390 1 → Ty gT mi → Fr wS31 m mi → (∀ o j : Nat, j < 8 → j ≠ 4 → mi 403 (1000 * 1 + 8 * o + j) = m 403 (1000 * 1 + 8 * o + j)) → (∀ o : Nat, m 403 (1000 * 1 + 8 * o) ≠ 4 → m 403 (1000 * 1 + 8 * o) ≠ 5 → mi 403 (1000 * 1 + 8 * o + 4) = m 403 (1000 * 1 + 8 * o + 4)) → FX 1 mi i → YW (gZ L xs) 141 (d + 1) 147 [some (.ref 376), some (yI 1), some (yI i), x3] [] mi nn (Q) := by
  intro km
  induction km using Nat.strongRecOn with
  | ind km ih =>
    intro i x3 mi hk hi hTi hFi he he4 hx
    have tb383 := hT.atp 383 1 0 6 rfl
    have tb384 := hT.atp 384 1 0 10 rfl
    have tb385 := hT.atp 385 1 0 8 rfl
    have tb387 := hT.atp 387 1 0 8 rfl
    have tb388 := hT.atp 388 1 0 12 rfl
    have tb390 := hT.atp 390 1 0 125 rfl
    have tb17 := hT.atp 376 17 0 20 rfl
    refine y_iload 148 c141_147 rfl rfl ?_
    refine y_aload 149 c141_148 rfl rfl rfl ?_
    refine y_getR 152 c141_149 rfl kf376_27 ?_
    refine y_iload 153 c141_152 rfl rfl ?_
    refine y_iaX 154 (m 390 1) c141_153 rfl ka390 (by decide) (hFi 390 1 rfl) ?_
    refine y_icmp 215 157 c141_154 rfl rfl (yc_ge (by omega) (by omega)) (fun hb12875 => ?_) (fun hb12875 => ?_)
    · exact ho _ _ _ hTi hFi he he4 (fun k hk => hx k (by omega))
    · refine y_iconst 160 c141_157 rfl ?_
      refine y_iload 161 c141_160 rfl rfl ?_
      refine y_imul 162 c141_161 rfl ?_
      refine y_top 1000 (by decide) ?_
      refine y_iconst 164 c141_162 rfl ?_
      refine y_iload 165 c141_164 rfl rfl ?_
      refine y_imul 166 c141_165 rfl ?_
      refine y_iadd 167 c141_166 rfl ?_
      refine y_istore 168 c141_167 rfl rfl ?_
      refine y_aload 169 c141_168 rfl rfl rfl ?_
      refine y_getR 172 c141_169 rfl kf376_40 ?_
      refine y_iload 173 c141_172 rfl rfl ?_
      refine y_iaT 174 ((-2147483648)) 2147483647 c141_173 rfl ka403 (by omega) hTi rfl (fun v12876 hv12876 gv12876 => ?_)
      have gv12876_ : m 403 (1000 * 1 + 8 * i.toNat) = v12876 := by have h0 := he i.toNat 0 (by decide) (by decide); simp only [Nat.add_zero] at h0; rw [← h0, show 1000 * 1 + 8 * i.toNat = (1000 + (8 * i)).toNat by omega]; exact hv12876
      refine y_iconst 175 c141_174 rfl ?_
      refine y_icmp 188 178 c141_175 rfl rfl (yc_eq (by omega) (by omega)) (fun hb12877 => ?_) (fun hb12877 => ?_)
      · refine y_aload 189 c141_188 rfl rfl rfl ?_
        refine y_getR 192 c141_189 rfl kf376_40 ?_
        refine y_iload 193 c141_192 rfl rfl ?_
        refine y_iconst 194 c141_193 rfl ?_
        refine y_iadd 195 c141_194 rfl ?_
        refine y_aload 196 c141_195 rfl rfl rfl ?_
        refine y_iload 197 c141_196 rfl rfl ?_
        refine y_aload 198 c141_197 rfl rfl rfl ?_
        refine y_getR 201 c141_198 rfl kf376_40 ?_
        refine y_iload 202 c141_201 rfl rfl ?_
        refine y_iconst 203 c141_202 rfl ?_
        refine y_iadd 204 c141_203 rfl ?_
        refine y_iaT 205 ((-2147483648)) 2147483647 c141_204 rfl ka403 (by omega) hTi rfl (fun v12878 hv12878 gv12878 => ?_)
        have es12879 : mi 385 1 = m 385 1 := (hFi 385 1 rfl)
        refine y_callP 208 [.ref 376, yI 1, yI v12878] [yI ((1000 + (8 * i)) + 4), .ref 403] c141_205 rfl rfl rfl rfl rfl (ycanO km120 ko376) (t120_1 hTi (by omega)) (fun r12880 hr12880 => ?_)
        refine y_iastore 209 c141_208 rfl ka403 (by omega) (y_nar0 _) ?_
        have hT12881 := hTi.up 403 (((1000 + (8 * i)) + 4).toNat) r12880 ((-2147483648)) 2147483647 rfl (by omega)
        have hF12882 := hFi.up 403 (((1000 + (8 * i)) + 4).toNat) r12880 (wS31_w (by omega))
        refine y_iinc 212 c141_209 rfl rfl rfl ?_
        refine y_goto 147 c141_212 rfl ?_
        exact ih (m 390 1 - (i + 1) : Int).toNat (by omega) (i + 1) _  _ (by omega) (by omega) hT12881 hF12882 (fun o j h1 h2 => (yup_nk (by omega)).trans (he o j h1 h2)) (fun o h1 h2 => (yup_nk (fun e => by have ho2 : o = i.toNat := (by omega); subst ho2; omega)).trans (he4 o h1 h2)) (FX.snoc (FX.fr hx (fun o ho2 => ⟨yup_nk (by omega), yup_nk (by omega)⟩)) (by omega) (fun _ => by rw [show 1000 * 1 + 8 * i.toNat + 4 = (1000 + 8 * i + 4).toNat by omega, yup_eq]; omega))
      · refine y_aload 179 c141_178 rfl rfl rfl ?_
        refine y_getR 182 c141_179 rfl kf376_40 ?_
        refine y_iload 183 c141_182 rfl rfl ?_
        refine y_iaT 184 ((-2147483648)) 2147483647 c141_183 rfl ka403 (by omega) hTi rfl (fun v12883 hv12883 gv12883 => ?_)
        have gv12883_ : m 403 (1000 * 1 + 8 * i.toNat) = v12883 := by have h0 := he i.toNat 0 (by decide) (by decide); simp only [Nat.add_zero] at h0; rw [← h0, show 1000 * 1 + 8 * i.toNat = (1000 + (8 * i)).toNat by omega]; exact hv12883
        refine y_iconst 185 c141_184 rfl ?_
        refine y_icmp 209 188 c141_185 rfl rfl (yc_ne (by omega) (by omega)) (fun hb12884 => ?_) (fun hb12884 => ?_)
        · refine y_iinc 212 c141_209 rfl rfl rfl ?_
          refine y_goto 147 c141_212 rfl ?_
          exact ih (m 390 1 - (i + 1) : Int).toNat (by omega) (i + 1) _  _ (by omega) (by omega) hTi hFi he he4 (FX.snoc hx (by omega) (by have h0 := he i.toNat 0 (by decide) (by decide); simp only [Nat.add_zero] at h0; rw [h0]; omega))
        · refine y_aload 189 c141_188 rfl rfl rfl ?_
          refine y_getR 192 c141_189 rfl kf376_40 ?_
          refine y_iload 193 c141_192 rfl rfl ?_
          refine y_iconst 194 c141_193 rfl ?_
          refine y_iadd 195 c141_194 rfl ?_
          refine y_aload 196 c141_195 rfl rfl rfl ?_
          refine y_iload 197 c141_196 rfl rfl ?_
          refine y_aload 198 c141_197 rfl rfl rfl ?_
          refine y_getR 201 c141_198 rfl kf376_40 ?_
          refine y_iload 202 c141_201 rfl rfl ?_
          refine y_iconst 203 c141_202 rfl ?_
          refine y_iadd 204 c141_203 rfl ?_
          refine y_iaT 205 ((-2147483648)) 2147483647 c141_204 rfl ka403 (by omega) hTi rfl (fun v12885 hv12885 gv12885 => ?_)
          have es12886 : mi 385 1 = m 385 1 := (hFi 385 1 rfl)
          refine y_callP 208 [.ref 376, yI 1, yI v12885] [yI ((1000 + (8 * i)) + 4), .ref 403] c141_205 rfl rfl rfl rfl rfl (ycanO km120 ko376) (t120_1 hTi (by omega)) (fun r12887 hr12887 => ?_)
          refine y_iastore 209 c141_208 rfl ka403 (by omega) (y_nar0 _) ?_
          have hT12888 := hTi.up 403 (((1000 + (8 * i)) + 4).toNat) r12887 ((-2147483648)) 2147483647 rfl (by omega)
          have hF12889 := hFi.up 403 (((1000 + (8 * i)) + 4).toNat) r12887 (wS31_w (by omega))
          refine y_iinc 212 c141_209 rfl rfl rfl ?_
          refine y_goto 147 c141_212 rfl ?_
          exact ih (m 390 1 - (i + 1) : Int).toNat (by omega) (i + 1) _  _ (by omega) (by omega) hT12888 hF12889 (fun o j h1 h2 => (yup_nk (by omega)).trans (he o j h1 h2)) (fun o h1 h2 => (yup_nk (fun e => by have ho2 : o = i.toNat := (by omega); subst ho2; omega)).trans (he4 o h1 h2)) (FX.snoc (FX.fr hx (fun o ho2 => ⟨yup_nk (by omega), yup_nk (by omega)⟩)) (by omega) (fun _ => by rw [show 1000 * 1 + 8 * i.toNat + 4 = (1000 + 8 * i + 4).toNat by omega, yup_eq]; omega))
set_option maxRecDepth 100000 in
theorem t141_1 {L : Nat} {xs : Nat → Int32} {d nn : Nat} {m : yM} (hT : Ty gT m) (hC : XD 1 m) (hc1 : 1 ≤ m 383 1) (h40 : m 400 (12 * 1) = 0) (h90 : m 390 1 ≤ 100) (hM0 : MX 1 m (m 384 1) (m 390 1 - 1)) : YC (gZ L xs) (d + 1) 141 [.ref 376, yI 1] m nn (qU (fun m' n' => n' = nn ∧ Ty gT m' ∧ Fr wSe1 m m' ∧ (0 ≤ m' 376 8 ∨ (m' 376 8 < 0 ∧ GQ 1 m')))) := by
  have tb383 := hT.atp 383 1 0 6 rfl
  have tb384 := hT.atp 384 1 0 10 rfl
  have tb385 := hT.atp 385 1 0 8 rfl
  have tb387 := hT.atp 387 1 0 8 rfl
  have tb388 := hT.atp 388 1 0 12 rfl
  have tb390 := hT.atp 390 1 0 125 rfl
  have tb17 := hT.atp 376 17 0 20 rfl
  refine YC.mkB [some (.ref 376), some (yI 1), none, none] kn141 rfl rfl ?_
  have hF : Fr wSe1 m m := Fr.rf
  refine y_iconst 1 c141_0 rfl ?_
  refine y_istore 2 c141_1 rfl rfl ?_
  refine t141a_1 hT (fun zma0 ma hTma hFma => ?_) (m 376 17 - 0).toNat 0 m (by omega) (by omega) hT Fr.rf
  have hF12890 := hF.tr hFma wWr_wSe1
  refine y_aload 48 c141_47 rfl rfl rfl ?_
  refine y_getX 51 (ma 376 8) c141_48 rfl kf376_8 rfl ?_
  have tb12891 := hTma.atp 376 8 ((-1)) 320 rfl
  refine y_if 55 54 c141_51 rfl rfl (yz_lt (by omega)) (fun hb12892 => ?_) (fun hb12892 => ?_)
  · refine y_iconst 56 c141_55 rfl ?_
    refine y_istore 57 c141_56 rfl rfl ?_
    have es12893 : ma 383 1 = m 383 1 := (hFma 383 1 rfl)
    have es12894 : ma 388 1 = m 388 1 := (hFma 388 1 rfl)
    refine t141b_1 hTma (fun zmb0 mb hTmb hFmb hsb => ?_) 11 1 _ (by omega) (by omega) hTma Fr.rf (fun k hk => by have hk0 : k = 0 := (by omega); subst hk0; rw [show ma 400 (12 * 1 + 0) = m 400 (12 * 1) from hFma 400 _ rfl, h40]; omega)
    have hF12895 := hF12890.tr hFmb wS41_wSe1
    refine y_iconst 101 c141_100 rfl ?_
    refine y_istore 102 c141_101 rfl rfl ?_
    have es12896 : mb 387 1 = m 387 1 := ((hFmb 387 1 rfl).trans (hFma 387 1 rfl))
    refine t141c_1 hTmb (fun zmc0 mc hTmc hFmc => ?_) (mb 387 1 - 0).toNat 0 _ (by omega) (by omega) hTmb Fr.rf
    have hF12897 := hF12895.tr hFmc wS21_wSe1
    refine y_iconst 146 c141_145 rfl ?_
    refine y_istore 147 c141_146 rfl rfl ?_
    have es12898 : mc 390 1 = m 390 1 := ((hFmc 390 1 rfl).trans ((hFmb 390 1 rfl).trans (hFma 390 1 rfl)))
    refine t141d_1 hTmc (by omega) (fun zmd0  zmd1 md hTmd hFmd hed hed4 hxd => ?_) (mc 390 1 - 0).toNat 0 _ _ (by omega) (by omega) hTmc Fr.rf (fun o j h1 h2 => rfl) (fun o h1 h2 => rfl) (fun o ho2 => by omega)
    have hF12899 := hF12897.tr hFmd wS31_wSe1
    have es12900 : md 376 8 = ma 376 8 := ((hFmd 376 8 rfl).trans ((hFmc 376 8 rfl).trans (hFmb 376 8 rfl)))
    have es12901 : md 383 1 = m 383 1 := ((hFmd 383 1 rfl).trans ((hFmc 383 1 rfl).trans ((hFmb 383 1 rfl).trans (hFma 383 1 rfl))))
    have es12902 : md 384 1 = m 384 1 := ((hFmd 384 1 rfl).trans ((hFmc 384 1 rfl).trans ((hFmb 384 1 rfl).trans (hFma 384 1 rfl))))
    have es12903 : md 386 1 = m 386 1 := ((hFmd 386 1 rfl).trans ((hFmc 386 1 rfl).trans ((hFmb 386 1 rfl).trans (hFma 386 1 rfl))))
    have tb12904 := hT.atp 386 1 0 12 rfl
    have es12905 : md 387 1 = m 387 1 := ((hFmd 387 1 rfl).trans ((hFmc 387 1 rfl).trans ((hFmb 387 1 rfl).trans (hFma 387 1 rfl))))
    have es12906 : md 388 1 = m 388 1 := ((hFmd 388 1 rfl).trans ((hFmc 388 1 rfl).trans ((hFmb 388 1 rfl).trans (hFma 388 1 rfl))))
    have es12907 : md 390 1 = m 390 1 := ((hFmd 390 1 rfl).trans ((hFmc 390 1 rfl).trans ((hFmb 390 1 rfl).trans (hFma 390 1 rfl))))
    obtain ⟨x1, x2, x3, x4, x5, x6, x7, x8, x9⟩ := hC
    have c3 : ∀ q, mc 403 q = m 403 q := fun q => (hFmc 403 q rfl).trans ((hFmb 403 q rfl).trans (hFma 403 q rfl))
    have e1 : ∀ o j : Nat, j < 8 → j ≠ 4 → md 403 (1000 * 1 + 8 * o + j) = m 403 (1000 * 1 + 8 * o + j) := fun o j h1 h2 => (hed o j h1 h2).trans (c3 _)
    have e4 : ∀ o : Nat, m 403 (1000 * 1 + 8 * o) = 3 → md 403 (1000 * 1 + 8 * o + 4) = m 403 (1000 * 1 + 8 * o + 4) := fun o h3 => (hed4 o (by rw [c3]; omega) (by rw [c3]; omega)).trans (c3 _)
    refine y_retU c141_215 ⟨rfl, hTmd, hF12899, Or.inr ⟨by omega, ?_⟩⟩
    unfold GQ
    rw [show md 390 1 = m 390 1 from by omega, show md 386 1 = m 386 1 from by omega, show md 384 1 = m 384 1 from by omega, show md 383 1 = m 383 1 from by omega, show md 388 1 = m 388 1 from by omega, show md 387 1 = m 387 1 from by omega]
    refine ⟨x1.x4 e1 e4, x2.x4 e1, x5.x4 e1, hM0.fr (fun q => (hFmd 397 _ rfl).trans ((hFmc 397 _ rfl).trans ((hFmb 397 _ rfl).trans (hFma 397 _ rfl)))) (fun q => (hFmd 398 _ rfl).trans ((hFmc 398 _ rfl).trans ((hFmb 398 _ rfl).trans (hFma 398 _ rfl)))) (fun q => (hFmd 399 _ rfl).trans ((hFmc 399 _ rfl).trans ((hFmb 399 _ rfl).trans (hFma 399 _ rfl)))) (Int.le_refl _), x4.fr (fun q => (hFmd 392 _ rfl).trans ((hFmc 392 _ rfl).trans ((hFmb 392 _ rfl).trans (hFma 392 _ rfl)))), ?_, ?_, (CV.fr x8 (fun q => (hFmd 401 _ rfl).trans ((hFmc 401 _ rfl).trans ((hFmb 401 _ rfl).trans (hFma 401 _ rfl))))), x7, hc1, h90, fun o ho => by have z0 := e1 o 0 (by decide) (by decide); simp only [Nat.add_zero] at z0; rw [z0, e1 o 3 (by decide) (by decide)]; exact x9 o ho⟩
    · have h0 := SX.fr (m' := md) hsb (fun k hk => (hFmd 400 _ rfl).trans (hFmc 400 _ rfl)); rw [show ma 388 1 = m 388 1 from hFma 388 1 rfl, show ma 383 1 = m 383 1 from hFma 383 1 rfl] at h0; exact h0
    · rw [show mc 390 1 = m 390 1 from by omega] at hxd; exact hxd
  · exact y_retU c141_54 ⟨rfl, hTma, hF12890, Or.inl (by omega)⟩
