/-! CONTRACTS: the model, heads. Printed by wip/whole/gen9a.py -/
def wOw0 (a q : Nat) : Bool := a == 393 && decide (0 ≤ q ∧ q < 48)
theorem wOw0_393 {q : Nat} (h : 0 ≤ q ∧ q < 48) : wOw0 393 q = true := by
  simp [wOw0]
  omega
def wHm0 (a q : Nat) : Bool := (a == 376 && (decide (3 ≤ q) && decide (q ≤ 8))) || (a == 383 && q == 0) || ((a == 391 || a == 392) && decide (0 ≤ q ∧ q < 6)) || (a == 393 && decide (0 ≤ q ∧ q < 48))
theorem wNx_wHm0 : ∀ a q, wNx a q = true → wHm0 a q = true := by
  intro a q h
  simp [wNx] at h
  simp [wHm0]
  omega
theorem wWr_wHm0 : ∀ a q, wWr a q = true → wHm0 a q = true := by
  intro a q h
  simp [wWr] at h
  simp [wHm0]
  omega
theorem wNw_wHm0 : ∀ a q, wNw a q = true → wHm0 a q = true := by
  intro a q h
  simp [wNw] at h
  simp [wHm0]
  omega
theorem wOw0_wHm0 : ∀ a q, wOw0 a q = true → wHm0 a q = true := by
  intro a q h
  simp [wOw0] at h
  simp [wHm0]
  omega
theorem wHm0_391 {q : Nat} (h : 0 ≤ q ∧ q < 6) : wHm0 391 q = true := by
  simp [wHm0]
  omega
theorem wHm0_392 {q : Nat} (h : 0 ≤ q ∧ q < 6) : wHm0 392 q = true := by
  simp [wHm0]
  omega
theorem wHm0_393 {q : Nat} (h : 0 ≤ q ∧ q < 48) : wHm0 393 q = true := by
  simp [wHm0]
  omega
def wFm0 (a q : Nat) : Bool := (a == 376 && (decide (3 ≤ q) && decide (q ≤ 8))) || (a == 385 && q == 0) || (a == 394 && decide (0 ≤ q ∧ q < 8)) || (a == 393 && decide (0 ≤ q ∧ q < 48))
theorem wNx_wFm0 : ∀ a q, wNx a q = true → wFm0 a q = true := by
  intro a q h
  simp [wNx] at h
  simp [wFm0]
  omega
theorem wWr_wFm0 : ∀ a q, wWr a q = true → wFm0 a q = true := by
  intro a q h
  simp [wWr] at h
  simp [wFm0]
  omega
theorem wNw_wFm0 : ∀ a q, wNw a q = true → wFm0 a q = true := by
  intro a q h
  simp [wNw] at h
  simp [wFm0]
  omega
theorem wFm0_394 {q : Nat} (h : 0 ≤ q ∧ q < 8) : wFm0 394 q = true := by
  simp [wFm0]
  omega
theorem wFm0_393 {q : Nat} (h : 0 ≤ q ∧ q < 48) : wFm0 393 q = true := by
  simp [wFm0]
  omega
def wPz0 (a q : Nat) : Bool := (a == 376 && (decide (3 ≤ q) && decide (q ≤ 8))) || (a == 389 && q == 0) || a == 380 || (a == 397 && decide (0 ≤ q ∧ q < 10))
theorem wNx_wPz0 : ∀ a q, wNx a q = true → wPz0 a q = true := by
  intro a q h
  simp [wNx] at h
  simp [wPz0]
  omega
theorem wWr_wPz0 : ∀ a q, wWr a q = true → wPz0 a q = true := by
  intro a q h
  simp [wWr] at h
  simp [wPz0]
  omega
theorem wNw_wPz0 : ∀ a q, wNw a q = true → wPz0 a q = true := by
  intro a q h
  simp [wNw] at h
  simp [wPz0]
  omega
theorem wVp0_wPz0 : ∀ a q, wVp0 a q = true → wPz0 a q = true := by
  intro a q h
  simp [wVp0] at h
  simp [wPz0]
  omega
theorem wVr0_wPz0 : ∀ a q, wVr0 a q = true → wPz0 a q = true := by
  intro a q h
  simp [wVr0] at h
  simp [wPz0]
  omega
theorem wPz0_397 {q : Nat} (h : 0 ≤ q ∧ q < 10) : wPz0 397 q = true := by
  simp [wPz0]
  omega
def wMh0 (a q : Nat) : Bool := (a == 376 && (decide (3 ≤ q) && decide (q ≤ 8))) || (a == 389 && q == 0) || a == 380 || (a == 384 && q == 0) || (a == 376 && q == 14) || (decide (395 ≤ a ∧ a ≤ 399) && decide (0 ≤ q ∧ q < 10))
theorem wNx_wMh0 : ∀ a q, wNx a q = true → wMh0 a q = true := by
  intro a q h
  simp [wNx] at h
  simp [wMh0]
  omega
theorem wWr_wMh0 : ∀ a q, wWr a q = true → wMh0 a q = true := by
  intro a q h
  simp [wWr] at h
  simp [wMh0]
  omega
theorem wNw_wMh0 : ∀ a q, wNw a q = true → wMh0 a q = true := by
  intro a q h
  simp [wNw] at h
  simp [wMh0]
  omega
theorem wVp0_wMh0 : ∀ a q, wVp0 a q = true → wMh0 a q = true := by
  intro a q h
  simp [wVp0] at h
  simp [wMh0]
  omega
theorem wVr0_wMh0 : ∀ a q, wVr0 a q = true → wMh0 a q = true := by
  intro a q h
  simp [wVr0] at h
  simp [wMh0]
  omega
theorem wPz0_wMh0 : ∀ a q, wPz0 a q = true → wMh0 a q = true := by
  intro a q h
  simp [wPz0] at h
  simp [wMh0]
  omega
theorem wMh0_395 {q : Nat} (h : 0 ≤ q ∧ q < 10) : wMh0 395 q = true := by
  simp [wMh0]
  omega
theorem wMh0_396 {q : Nat} (h : 0 ≤ q ∧ q < 10) : wMh0 396 q = true := by
  simp [wMh0]
  omega
theorem wMh0_397 {q : Nat} (h : 0 ≤ q ∧ q < 10) : wMh0 397 q = true := by
  simp [wMh0]
  omega
theorem wMh0_398 {q : Nat} (h : 0 ≤ q ∧ q < 10) : wMh0 398 q = true := by
  simp [wMh0]
  omega
theorem wMh0_399 {q : Nat} (h : 0 ≤ q ∧ q < 10) : wMh0 399 q = true := by
  simp [wMh0]
  omega
theorem wHm0_C : ∀ a q, vXc 0 a q = true → a ≠ 392 → a ≠ 383 → wHm0 a q = false := by
  intro a q h h1 h2
  cases e : wHm0 a q with
  | false => rfl
  | true => simp [wHm0] at e; simp [vXc] at h; omega
theorem wFm0_C : ∀ a q, vXc 0 a q = true → wFm0 a q = false := by
  intro a q h
  cases e : wFm0 a q with
  | false => rfl
  | true => simp [wFm0] at e; simp [vXc] at h; omega
theorem wMh0_C : ∀ a q, vXc 0 a q = true → a ≠ 384 → a ≠ 397 → a ≠ 398 → a ≠ 399 → wMh0 a q = false := by
  intro a q h h1 h2 h3 h4
  cases e : wMh0 a q with
  | false => rfl
  | true => simp [wMh0] at e; simp [vXc] at h; omega
theorem wNx_C {p : Nat} : ∀ a q, vXc p a q = true → wNx a q = false := fun a q h => wNx_X a q (vXc_vXs h)
set_option maxRecDepth 100000 in
theorem t119b_0 {L : Nat} {xs : Nat → Int32} {d nn : Nat} {m : yM} {Q : xO → yM → Nat → Prop} {y2 y3 : Option Value} {u : Int} (hT : Ty gT m) (hc : m 383 0 ≤ 5) (ho : ∀ (x5 : Option Value) (mi : yM), Ty gT mi → Fr wOw0 m mi → YW (gZ L xs) 119 (d + 6) 197 [some (.ref 376), some (yI 0), y2, y3, some (yI u), x5] [] mi nn Q) : ∀ (km : Nat) (f : Int) (mi : yM), 8 - f = km → 0 ≤ f ∧ f ≤ 8 → Ty gT mi → Fr wOw0 m mi → YW (gZ L xs) 119 (d + 6) 161 [some (.ref 376), some (yI 0), y2, y3, some (yI u), some (yI f)] [] mi nn (Q) := by
  intro km
  induction km using Nat.strongRecOn with
  | ind km ih =>
    intro f mi hk hf hTi hFi
    have tc := hT.atp 383 0 0 6 rfl
    refine y_iload 163 c119_161 rfl rfl ?_
    refine y_iconst 165 c119_163 rfl ?_
    refine y_icmp 197 168 c119_165 rfl rfl (yc_ge (by omega) (by omega)) (fun hb10478 => ?_) (fun hb10478 => ?_)
    · exact ho _ _ hTi hFi
    · refine y_aload 169 c119_168 rfl rfl rfl ?_
      refine y_getR 172 c119_169 rfl kf376_30 ?_
      refine y_iconst 174 c119_172 rfl ?_
      refine y_iload 175 c119_174 rfl rfl ?_
      refine y_imul 176 c119_175 rfl ?_
      refine y_top 0 (by decide) ?_
      refine y_iconst 178 c119_176 rfl ?_
      refine y_aload 179 c119_178 rfl rfl rfl ?_
      refine y_getR 182 c119_179 rfl kf376_20 ?_
      refine y_iload 183 c119_182 rfl rfl ?_
      refine y_iaX 184 (m 383 0) c119_183 rfl ka383 (by decide) (hFi 383 0 rfl) ?_
      refine y_imul 185 c119_184 rfl ?_
      refine y_iadd 186 c119_185 rfl ?_
      refine y_iload 188 c119_186 rfl rfl ?_
      refine y_iadd 189 c119_188 rfl ?_
      refine y_iconst 190 c119_189 rfl ?_
      refine y_iastore 191 c119_190 rfl ka393 (by omega) (y_nar1 (by omega)) ?_
      have hT10479 := hTi.up 393 (((0 + (8 * (m 383 0))) + f).toNat) 0 0 1 rfl (by omega)
      have hF10480 := hFi.up 393 (((0 + (8 * (m 383 0))) + f).toNat) 0 (wOw0_393 (by omega))
      refine y_iinc 194 c119_191 rfl rfl rfl ?_
      refine y_goto 161 c119_194 rfl ?_
      exact ih (8 - (f + 1) : Int).toNat (by omega) (f + 1)  _ (by omega) (by omega) hT10479 hF10480
set_option maxRecDepth 100000 in
theorem t119_0 {L : Nat} {xs : Nat → Int32} {d nn : Nat} {m : yM} (hT : Ty gT m) (hl : m 376 6 ≤ m 376 1) (hn : m 376 18 = 1) (h8 : m 376 8 < 0) (hC : XD 0 m) : YC (gZ L xs) (d + 6) 119 [.ref 376] m nn (qU (fun m' n' => n' = nn ∧ Ty gT m' ∧ Fr wHm0 m m' ∧ m' 376 6 ≤ m' 376 1 ∧ (0 ≤ m' 376 8 ∨ (m' 376 8 < 0 ∧ mu m' < mu m ∧ 1 ≤ m' 383 0 ∧ XD 0 m')))) := by
  have tb8 := hT.atp 376 8 (-1) 320 rfl
  have tc383 := hT.atp 383 0 0 6 rfl
  have tc384 := hT.atp 384 0 0 10 rfl
  have tc385 := hT.atp 385 0 0 8 rfl
  have tc389 := hT.atp 389 0 0 48 rfl
  have tc390 := hT.atp 390 0 0 125 rfl
  refine YC.mkB [some (.ref 376), none, none, none, none, none] kn119 rfl rfl ?_
  have hF : Fr wHm0 m m := Fr.rf
  refine y_aload 1 c119_0 rfl rfl rfl ?_
  have tb10482 := hT.atp 376 18 0 1 rfl
  refine y_callP 4 [.ref 376] [] c119_1 rfl rfl rfl rfl rfl (ycanO km96 ko376) (t96_0 (by omega)) (fun r10481 hr10481 => ?_)
  subst hr10481
  refine y_istore 5 c119_4 rfl rfl ?_
  refine y_aload 6 c119_5 rfl rfl rfl ?_
  refine y_aload 7 c119_6 rfl rfl rfl ?_
  have tb10483 := hT.atp 376 3 0 3 rfl
  refine y_callP 10 [.ref 376] [.ref 376] c119_7 rfl rfl rfl rfl rfl (ycanO km103 ko376) (t103 hT) (fun r10484 hr10484 => ?_)
  have tb10486 := hT.atp 376 1 0 320 rfl
  have tb10487 := hT.atp 376 6 0 320 rfl
  have tb10488 := hT.atp 376 8 ((-1)) 320 rfl
  refine y_callIB 13 [.ref 376, yI r10484] [] c119_10 rfl rfl rfl rfl rfl (ycanO km105 ko376) (t105 (g := r10484) hT (by omega) (by omega)) (fun rq10485 mq10485 nq10485 hq10485 => ?_)
  obtain ⟨rfl, hTq10485, hFq10485, hq10485⟩ := hq10485
  have x1q10485 : mq10485 376 1 = m 376 1 := (hFq10485 376 1 rfl)
  have hF10489 := hF.tr hFq10485 wNw_wHm0
  refine y_if 17 16 c119_13 rfl rfl (yz_ne (by omega)) (fun hb10490 => ?_) (fun hb10490 => ?_)
  · refine y_aload 18 c119_17 rfl rfl rfl ?_
    have tb10491 := hTq10485.atp 376 3 0 3 rfl
    refine y_callP 21 [.ref 376] [] c119_18 rfl rfl rfl rfl rfl (ycanO km115 ko376) (t115 hTq10485) (fun r10492 hr10492 => ?_)
    refine y_if 51 24 c119_21 rfl rfl (yz_eq (by omega)) (fun hb10493 => ?_) (fun hb10493 => ?_)
    · refine y_iconst 52 c119_51 rfl ?_
      refine y_istore 53 c119_52 rfl rfl ?_
      refine y_aload 54 c119_53 rfl rfl rfl ?_
      refine y_getX 57 (mq10485 376 4) c119_54 rfl kf376_4 rfl ?_
      have tb10494 := hTq10485.atp 376 4 ((-2147483648)) 2147483647 rfl
      refine y_istore 58 c119_57 rfl rfl ?_
      refine y_aload 59 c119_58 rfl rfl rfl ?_
      refine y_iload 60 c119_59 rfl rfl ?_
      have es10496 : mq10485 376 1 = m 376 1 := (hFq10485 376 1 rfl)
      have tb10497 := hTq10485.atp 376 6 0 320 rfl
      have tb10498 := hTq10485.atp 376 8 ((-1)) 320 rfl
      refine y_callIB 63 [.ref 376, yI 0] [] c119_60 rfl rfl rfl rfl rfl (ycanO km105 ko376) (t105 (g := 0) hTq10485 (by omega) (by omega)) (fun rq10495 mq10495 nq10495 hq10495 => ?_)
      obtain ⟨rfl, hTq10495, hFq10495, hq10495⟩ := hq10495
      have x1q10495 : mq10495 376 1 = m 376 1 := ((hFq10495 376 1 rfl).trans (hFq10485 376 1 rfl))
      have hF10499 := hF10489.tr hFq10495 wNw_wHm0
      refine y_if 67 66 c119_63 rfl rfl (yz_ne (by omega)) (fun hb10500 => ?_) (fun hb10500 => ?_)
      · exfalso; omega
      · have es10501 : mq10495 376 1 = m 376 1 := ((hFq10495 376 1 rfl).trans (hFq10485 376 1 rfl))
        have tb10502 := hTq10495.atp 376 3 0 3 rfl
        have tb10503 := hTq10495.atp 376 6 0 320 rfl
        have tb10504 := hTq10495.atp 376 8 ((-1)) 320 rfl
        have es10505 : mq10495 383 0 = m 383 0 := ((hFq10495 383 0 rfl).trans (hFq10485 383 0 rfl))
        exact y_retU c119_66 ⟨rfl, hTq10495, hF10499, by omega, Or.inl (by omega)⟩
    · refine y_aload 25 c119_24 rfl rfl rfl ?_
      refine y_getR 28 c119_25 rfl kf376_20 ?_
      refine y_iload 29 c119_28 rfl rfl ?_
      refine y_iaX 30 (m 383 0) c119_29 rfl ka383 (by decide) (hFq10485 383 0 rfl) ?_
      refine y_iconst 32 c119_30 rfl ?_
      refine y_icmp 51 35 c119_32 rfl rfl (yc_ge (by omega) (by omega)) (fun hb10506 => ?_) (fun hb10506 => ?_)
      · refine y_iconst 52 c119_51 rfl ?_
        refine y_istore 53 c119_52 rfl rfl ?_
        refine y_aload 54 c119_53 rfl rfl rfl ?_
        refine y_getX 57 (mq10485 376 4) c119_54 rfl kf376_4 rfl ?_
        have tb10507 := hTq10485.atp 376 4 ((-2147483648)) 2147483647 rfl
        refine y_istore 58 c119_57 rfl rfl ?_
        refine y_aload 59 c119_58 rfl rfl rfl ?_
        refine y_iload 60 c119_59 rfl rfl ?_
        have es10509 : mq10485 376 1 = m 376 1 := (hFq10485 376 1 rfl)
        have tb10510 := hTq10485.atp 376 6 0 320 rfl
        have tb10511 := hTq10485.atp 376 8 ((-1)) 320 rfl
        refine y_callIB 63 [.ref 376, yI 0] [] c119_60 rfl rfl rfl rfl rfl (ycanO km105 ko376) (t105 (g := 0) hTq10485 (by omega) (by omega)) (fun rq10508 mq10508 nq10508 hq10508 => ?_)
        obtain ⟨rfl, hTq10508, hFq10508, hq10508⟩ := hq10508
        have x1q10508 : mq10508 376 1 = m 376 1 := ((hFq10508 376 1 rfl).trans (hFq10485 376 1 rfl))
        have hF10512 := hF10489.tr hFq10508 wNw_wHm0
        refine y_if 67 66 c119_63 rfl rfl (yz_ne (by omega)) (fun hb10513 => ?_) (fun hb10513 => ?_)
        · exfalso; omega
        · have es10514 : mq10508 376 1 = m 376 1 := ((hFq10508 376 1 rfl).trans (hFq10485 376 1 rfl))
          have tb10515 := hTq10508.atp 376 3 0 3 rfl
          have tb10516 := hTq10508.atp 376 6 0 320 rfl
          have tb10517 := hTq10508.atp 376 8 ((-1)) 320 rfl
          have es10518 : mq10508 383 0 = m 383 0 := ((hFq10508 383 0 rfl).trans (hFq10485 383 0 rfl))
          exact y_retU c119_66 ⟨rfl, hTq10508, hF10512, by omega, Or.inl (by omega)⟩
      · refine y_aload 36 c119_35 rfl rfl rfl ?_
        refine y_iload 37 c119_36 rfl rfl ?_
        refine y_aload 38 c119_37 rfl rfl rfl ?_
        refine y_getX 41 (mq10485 376 4) c119_38 rfl kf376_4 rfl ?_
        have tb10519 := hTq10485.atp 376 4 ((-2147483648)) 2147483647 rfl
        have es10520 : mq10485 383 0 = m 383 0 := (hFq10485 383 0 rfl)
        refine y_callP 44 [.ref 376, yI 0, yI (mq10485 376 4)] [] c119_41 rfl rfl rfl rfl rfl (ycanO km116 ko376) (t116_0 hTq10485 (by omega)) (fun r10521 hr10521 => ?_)
        refine y_if 51 47 c119_44 rfl rfl (yz_ge (by omega)) (fun hb10522 => ?_) (fun hb10522 => ?_)
        · refine y_iconst 52 c119_51 rfl ?_
          refine y_istore 53 c119_52 rfl rfl ?_
          refine y_aload 54 c119_53 rfl rfl rfl ?_
          refine y_getX 57 (mq10485 376 4) c119_54 rfl kf376_4 rfl ?_
          refine y_istore 58 c119_57 rfl rfl ?_
          refine y_aload 59 c119_58 rfl rfl rfl ?_
          refine y_iload 60 c119_59 rfl rfl ?_
          have es10524 : mq10485 376 1 = m 376 1 := (hFq10485 376 1 rfl)
          have tb10525 := hTq10485.atp 376 6 0 320 rfl
          have tb10526 := hTq10485.atp 376 8 ((-1)) 320 rfl
          refine y_callIB 63 [.ref 376, yI 0] [] c119_60 rfl rfl rfl rfl rfl (ycanO km105 ko376) (t105 (g := 0) hTq10485 (by omega) (by omega)) (fun rq10523 mq10523 nq10523 hq10523 => ?_)
          obtain ⟨rfl, hTq10523, hFq10523, hq10523⟩ := hq10523
          have x1q10523 : mq10523 376 1 = m 376 1 := ((hFq10523 376 1 rfl).trans (hFq10485 376 1 rfl))
          have hF10527 := hF10489.tr hFq10523 wNw_wHm0
          refine y_if 67 66 c119_63 rfl rfl (yz_ne (by omega)) (fun hb10528 => ?_) (fun hb10528 => ?_)
          · exfalso; omega
          · have es10529 : mq10523 376 1 = m 376 1 := ((hFq10523 376 1 rfl).trans (hFq10485 376 1 rfl))
            have tb10530 := hTq10523.atp 376 3 0 3 rfl
            have tb10531 := hTq10523.atp 376 6 0 320 rfl
            have tb10532 := hTq10523.atp 376 8 ((-1)) 320 rfl
            have es10533 : mq10523 383 0 = m 383 0 := ((hFq10523 383 0 rfl).trans (hFq10485 383 0 rfl))
            exact y_retU c119_66 ⟨rfl, hTq10523, hF10527, by omega, Or.inl (by omega)⟩
        · refine y_iconst 48 c119_47 rfl ?_
          refine y_goto 52 c119_48 rfl ?_
          refine y_istore 53 c119_52 rfl rfl ?_
          refine y_aload 54 c119_53 rfl rfl rfl ?_
          refine y_getX 57 (mq10485 376 4) c119_54 rfl kf376_4 rfl ?_
          refine y_istore 58 c119_57 rfl rfl ?_
          refine y_aload 59 c119_58 rfl rfl rfl ?_
          refine y_iload 60 c119_59 rfl rfl ?_
          have es10535 : mq10485 376 1 = m 376 1 := (hFq10485 376 1 rfl)
          have tb10536 := hTq10485.atp 376 6 0 320 rfl
          have tb10537 := hTq10485.atp 376 8 ((-1)) 320 rfl
          refine y_callIB 63 [.ref 376, yI 1] [] c119_60 rfl rfl rfl rfl rfl (ycanO km105 ko376) (t105 (g := 1) hTq10485 (by omega) (by omega)) (fun rq10534 mq10534 nq10534 hq10534 => ?_)
          obtain ⟨rfl, hTq10534, hFq10534, hq10534⟩ := hq10534
          have x1q10534 : mq10534 376 1 = m 376 1 := ((hFq10534 376 1 rfl).trans (hFq10485 376 1 rfl))
          have hF10538 := hF10489.tr hFq10534 wNw_wHm0
          refine y_if 67 66 c119_63 rfl rfl (yz_ne (by omega)) (fun hb10539 => ?_) (fun hb10539 => ?_)
          · refine y_iconst 68 c119_67 rfl ?_
            refine y_istore 70 c119_68 rfl rfl ?_
            refine y_aload 71 c119_70 rfl rfl rfl ?_
            refine y_iconst 73 c119_71 rfl ?_
            have tb10540 := hTq10534.atp 376 3 0 3 rfl
            refine y_callP 76 [.ref 376, yI 58] [] c119_73 rfl rfl rfl rfl rfl (ycanO km117 ko376) (t117 hTq10534 (by omega)) (fun r10541 hr10541 => ?_)
            refine y_if 123 79 c119_76 rfl rfl (yz_eq (by omega)) (fun hb10542 => ?_) (fun hb10542 => ?_)
            · refine y_aload 124 c119_123 rfl rfl rfl ?_
              refine y_getR 127 c119_124 rfl kf376_28 ?_
              refine y_iconst 129 c119_127 rfl ?_
              refine y_iload 130 c119_129 rfl rfl ?_
              refine y_imul 131 c119_130 rfl ?_
              refine y_top 0 (by decide) ?_
              refine y_aload 132 c119_131 rfl rfl rfl ?_
              refine y_getR 135 c119_132 rfl kf376_20 ?_
              refine y_iload 136 c119_135 rfl rfl ?_
              refine y_iaX 137 (m 383 0) c119_136 rfl ka383 (by decide) ((hFq10534 383 0 rfl).trans (hFq10485 383 0 rfl)) ?_
              refine y_iadd 138 c119_137 rfl ?_
              refine y_iload 139 c119_138 rfl rfl ?_
              refine y_iastore 140 c119_139 rfl ka391 (by omega) (y_nar0 _) ?_
              have hT10543 := hTq10534.up 391 ((0 + (m 383 0)).toNat) (mq10485 376 4) ((-2147483648)) 2147483647 rfl (by omega)
              have hF10544 := hF10538.up 391 ((0 + (m 383 0)).toNat) (mq10485 376 4) (wHm0_391 (by omega))
              refine y_aload 141 c119_140 rfl rfl rfl ?_
              refine y_getR 144 c119_141 rfl kf376_29 ?_
              refine y_iconst 146 c119_144 rfl ?_
              refine y_iload 147 c119_146 rfl rfl ?_
              refine y_imul 148 c119_147 rfl ?_
              refine y_top 0 (by decide) ?_
              refine y_aload 149 c119_148 rfl rfl rfl ?_
              refine y_getR 152 c119_149 rfl kf376_20 ?_
              refine y_iload 153 c119_152 rfl rfl ?_
              refine y_iaX 154 (m 383 0) c119_153 rfl ka383 (by decide) ((yup_na (by decide)).trans ((hFq10534 383 0 rfl).trans (hFq10485 383 0 rfl))) ?_
              refine y_iadd 155 c119_154 rfl ?_
              refine y_iload 157 c119_155 rfl rfl ?_
              refine y_iastore 158 c119_157 rfl ka392 (by omega) (y_nar0 _) ?_
              have hT10545 := hT10543.up 392 ((0 + (m 383 0)).toNat) ((-1)) ((-1)) 5 rfl (by omega)
              have hF10546 := hF10544.up 392 ((0 + (m 383 0)).toNat) ((-1)) (wHm0_392 (by omega))
              refine y_iconst 159 c119_158 rfl ?_
              refine y_istore 161 c119_159 rfl rfl ?_
              have es10547 : (yup (yup mq10534 391 ((0 + (m 383 0)).toNat) (mq10485 376 4)) 392 ((0 + (m 383 0)).toNat) ((-1))) 376 1 = m 376 1 := ((yup_na (by decide)).trans ((yup_na (by decide)).trans ((hFq10534 376 1 rfl).trans (hFq10485 376 1 rfl))))
              have es10548 : (yup (yup mq10534 391 ((0 + (m 383 0)).toNat) (mq10485 376 4)) 392 ((0 + (m 383 0)).toNat) ((-1))) 376 3 = mq10534 376 3 := rfl
              have es10549 : (yup (yup mq10534 391 ((0 + (m 383 0)).toNat) (mq10485 376 4)) 392 ((0 + (m 383 0)).toNat) ((-1))) 376 6 = mq10534 376 6 := rfl
              have tb10550 := hTq10534.atp 376 6 0 320 rfl
              have es10551 : (yup (yup mq10534 391 ((0 + (m 383 0)).toNat) (mq10485 376 4)) 392 ((0 + (m 383 0)).toNat) ((-1))) 376 8 = mq10534 376 8 := rfl
              have tb10552 := hTq10534.atp 376 8 ((-1)) 320 rfl
              have es10553 : (yup (yup mq10534 391 ((0 + (m 383 0)).toNat) (mq10485 376 4)) 392 ((0 + (m 383 0)).toNat) ((-1))) 383 0 = m 383 0 := ((yup_na (by decide)).trans ((yup_na (by decide)).trans ((hFq10534 383 0 rfl).trans (hFq10485 383 0 rfl))))
              refine t119b_0 hT10545 (by omega) (fun x5 mw hTw hFw => ?_) 8 0 _ (by omega) (by omega) hT10545 Fr.rf
              have hF10554 := hF10546.tr hFw wOw0_wHm0
              refine y_aload 198 c119_197 rfl rfl rfl ?_
              refine y_getR 201 c119_198 rfl kf376_20 ?_
              refine y_iload 202 c119_201 rfl rfl ?_
              refine y_dup2 203 c119_202 rfl ⟨rfl, rfl⟩ ?_
              refine y_iaX 204 (m 383 0) c119_203 rfl ka383 (by decide) ((hFw 383 0 rfl).trans ((yup_na (by decide)).trans ((yup_na (by decide)).trans ((hFq10534 383 0 rfl).trans (hFq10485 383 0 rfl))))) ?_
              refine y_iconst 205 c119_204 rfl ?_
              refine y_iadd 206 c119_205 rfl ?_
              refine y_iastore 207 c119_206 rfl ka383 (by omega) (y_nar0 _) ?_
              have hT10555 := hTw.up 383 ((0 : Int).toNat) ((m 383 0) + 1) 0 6 rfl (by omega)
              have hF10556 := hF10554.up 383 ((0 : Int).toNat) ((m 383 0) + 1) rfl
              refine y_aload 208 c119_207 rfl rfl rfl ?_
              refine y_iconst 210 c119_208 rfl ?_
              have es10558 : (yup mw 383 ((0 : Int).toNat) ((m 383 0) + 1)) 376 1 = m 376 1 := ((yup_na (by decide)).trans ((hFw 376 1 rfl).trans ((yup_na (by decide)).trans ((yup_na (by decide)).trans ((hFq10534 376 1 rfl).trans (hFq10485 376 1 rfl))))))
              have es10559 : (yup mw 383 ((0 : Int).toNat) ((m 383 0) + 1)) 376 3 = mq10534 376 3 := ((yup_na (by decide)).trans ((hFw 376 3 rfl).trans ((yup_na (by decide)).trans (yup_na (by decide)))))
              have es10560 : (yup mw 383 ((0 : Int).toNat) ((m 383 0) + 1)) 376 6 = mq10534 376 6 := ((yup_na (by decide)).trans ((hFw 376 6 rfl).trans ((yup_na (by decide)).trans (yup_na (by decide)))))
              have es10561 : (yup mw 383 ((0 : Int).toNat) ((m 383 0) + 1)) 376 8 = mq10534 376 8 := ((yup_na (by decide)).trans ((hFw 376 8 rfl).trans ((yup_na (by decide)).trans (yup_na (by decide)))))
              have em10562 : mu (yup mw 383 ((0 : Int).toNat) ((m 383 0) + 1)) = mu mq10534 := mu_fr ((yup_na (by decide)).trans ((hFw 376 1 rfl).trans ((yup_na (by decide)).trans (yup_na (by decide))))) ((yup_na (by decide)).trans ((hFw 376 3 rfl).trans ((yup_na (by decide)).trans (yup_na (by decide))))) ((yup_na (by decide)).trans ((hFw 376 6 rfl).trans ((yup_na (by decide)).trans (yup_na (by decide)))))
              refine y_callIB 213 [.ref 376, yI 123] [] c119_210 rfl rfl rfl rfl rfl (ycanO km118 ko376) (t118 hT10555 (by omega) (by omega)) (fun rq10557 mq10557 nq10557 hq10557 => ?_)
              obtain ⟨rfl, hTq10557, hFq10557, hq10557⟩ := hq10557
              have x1q10557 : mq10557 376 1 = m 376 1 := ((hFq10557 376 1 rfl).trans ((yup_na (by decide)).trans ((hFw 376 1 rfl).trans ((yup_na (by decide)).trans ((yup_na (by decide)).trans ((hFq10534 376 1 rfl).trans (hFq10485 376 1 rfl)))))))
              have hF10563 := hF10556.tr hFq10557 wNw_wHm0
              refine y_if 217 216 c119_213 rfl rfl (yz_ne (by omega)) (fun hb10564 => ?_) (fun hb10564 => ?_)
              · have es10565 : mq10557 376 1 = m 376 1 := ((hFq10557 376 1 rfl).trans ((yup_na (by decide)).trans ((hFw 376 1 rfl).trans ((yup_na (by decide)).trans ((yup_na (by decide)).trans ((hFq10534 376 1 rfl).trans (hFq10485 376 1 rfl)))))))
                have tb10566 := hTq10557.atp 376 3 0 3 rfl
                have tb10567 := hTq10557.atp 376 6 0 320 rfl
                have tb10568 := hTq10557.atp 376 8 ((-1)) 320 rfl
                have es10569 : mq10557 383 0 = (m 383 0) + 1 := ((hFq10557 383 0 rfl).trans (yup_eq _ _ _ _))
                have hv : mq10557 392 (6 * 0 + (m 383 0).toNat) = (-1) := by rw [show 6 * 0 + (m 383 0).toNat = (0 + m 383 0).toNat by omega]; exact ((hFq10557 392 _ rfl).trans ((yup_na (by decide)).trans ((hFw 392 _ rfl).trans (yup_eq _ _ _ _))))
                have hx : XD 0 mq10557 := XD.head hC (by omega) (fun a q ha h1 h2 => hF10563 a q (wHm0_C a q ha h1 h2)) (by omega) (fun k hk => ((hFq10557 392 _ rfl).trans ((yup_na (by decide)).trans ((hFw 392 _ rfl).trans ((yup_nk (by omega)).trans ((yup_na (by decide)).trans ((hFq10534 392 _ rfl).trans (hFq10485 392 _ rfl)))))))) (by omega)
                exact y_retU c119_217 ⟨rfl, hTq10557, hF10563, by omega, Or.inr ⟨by omega, by omega, by omega, hx⟩⟩
              · have es10570 : mq10557 376 1 = m 376 1 := ((hFq10557 376 1 rfl).trans ((yup_na (by decide)).trans ((hFw 376 1 rfl).trans ((yup_na (by decide)).trans ((yup_na (by decide)).trans ((hFq10534 376 1 rfl).trans (hFq10485 376 1 rfl)))))))
                have tb10571 := hTq10557.atp 376 3 0 3 rfl
                have tb10572 := hTq10557.atp 376 6 0 320 rfl
                have tb10573 := hTq10557.atp 376 8 ((-1)) 320 rfl
                have es10574 : mq10557 383 0 = (m 383 0) + 1 := ((hFq10557 383 0 rfl).trans (yup_eq _ _ _ _))
                exact y_retU c119_216 ⟨rfl, hTq10557, hF10563, by omega, Or.inl (by omega)⟩
            · refine y_aload 80 c119_79 rfl rfl rfl ?_
              have es10576 : mq10534 376 1 = m 376 1 := ((hFq10534 376 1 rfl).trans (hFq10485 376 1 rfl))
              have tb10577 := hTq10534.atp 376 6 0 320 rfl
              have tb10578 := hTq10534.atp 376 8 ((-1)) 320 rfl
              refine y_callUB 83 [.ref 376] [] c119_80 rfl rfl rfl rfl rfl (ycanO km99 ko376) (t99u hTq10534 (by omega)) (fun mq10575 nq10575 hq10575 => ?_)
              obtain ⟨rfl, hTq10575, hFq10575, hq10575⟩ := hq10575
              have x1q10575 : mq10575 376 1 = m 376 1 := ((hFq10575 376 1 rfl).trans ((hFq10534 376 1 rfl).trans (hFq10485 376 1 rfl)))
              have hF10579 := hF10538.tr hFq10575 wNx_wHm0
              refine y_aload 84 c119_83 rfl rfl rfl ?_
              have tb10580 := hTq10575.atp 376 3 0 3 rfl
              refine y_callP 87 [.ref 376] [] c119_84 rfl rfl rfl rfl rfl (ycanO km115 ko376) (t115 hTq10575) (fun r10581 hr10581 => ?_)
              refine y_if 102 90 c119_87 rfl rfl (yz_eq (by omega)) (fun hb10582 => ?_) (fun hb10582 => ?_)
              · refine y_iconst 103 c119_102 rfl ?_
                refine y_istore 105 c119_103 rfl rfl ?_
                refine y_aload 106 c119_105 rfl rfl rfl ?_
                refine y_iload 108 c119_106 rfl rfl ?_
                refine y_if 115 111 c119_108 rfl rfl (yz_lt (by omega)) (fun hb10583 => ?_) (fun hb10583 => ?_)
                · refine y_iconst 116 c119_115 rfl ?_
                  have es10585 : mq10575 376 1 = m 376 1 := ((hFq10575 376 1 rfl).trans ((hFq10534 376 1 rfl).trans (hFq10485 376 1 rfl)))
                  have tb10586 := hTq10575.atp 376 6 0 320 rfl
                  have es10587 : mq10575 376 8 = mq10534 376 8 := (hFq10575 376 8 rfl)
                  refine y_callIB 119 [.ref 376, yI 0] [] c119_116 rfl rfl rfl rfl rfl (ycanO km105 ko376) (t105 (g := 0) hTq10575 (by omega) (by omega)) (fun rq10584 mq10584 nq10584 hq10584 => ?_)
                  obtain ⟨rfl, hTq10584, hFq10584, hq10584⟩ := hq10584
                  have x1q10584 : mq10584 376 1 = m 376 1 := ((hFq10584 376 1 rfl).trans ((hFq10575 376 1 rfl).trans ((hFq10534 376 1 rfl).trans (hFq10485 376 1 rfl))))
                  have hF10588 := hF10579.tr hFq10584 wNw_wHm0
                  refine y_if 123 122 c119_119 rfl rfl (yz_ne (by omega)) (fun hb10589 => ?_) (fun hb10589 => ?_)
                  · exfalso; omega
                  · have es10590 : mq10584 376 1 = m 376 1 := ((hFq10584 376 1 rfl).trans ((hFq10575 376 1 rfl).trans ((hFq10534 376 1 rfl).trans (hFq10485 376 1 rfl))))
                    have tb10591 := hTq10584.atp 376 3 0 3 rfl
                    have tb10592 := hTq10584.atp 376 6 0 320 rfl
                    have tb10593 := hTq10584.atp 376 8 ((-1)) 320 rfl
                    have es10594 : mq10584 383 0 = m 383 0 := ((hFq10584 383 0 rfl).trans ((hFq10575 383 0 rfl).trans ((hFq10534 383 0 rfl).trans (hFq10485 383 0 rfl))))
                    exact y_retU c119_122 ⟨rfl, hTq10584, hF10588, by omega, Or.inl (by omega)⟩
                · exfalso; omega
              · refine y_aload 91 c119_90 rfl rfl rfl ?_
                refine y_iload 92 c119_91 rfl rfl ?_
                refine y_aload 93 c119_92 rfl rfl rfl ?_
                refine y_getX 96 (mq10575 376 4) c119_93 rfl kf376_4 rfl ?_
                have tb10595 := hTq10575.atp 376 4 ((-2147483648)) 2147483647 rfl
                have es10596 : mq10575 383 0 = m 383 0 := ((hFq10575 383 0 rfl).trans ((hFq10534 383 0 rfl).trans (hFq10485 383 0 rfl)))
                refine y_callP 99 [.ref 376, yI 0, yI (mq10575 376 4)] [] c119_96 rfl rfl rfl rfl rfl (ycanO km116 ko376) (t116_0 hTq10575 (by omega)) (fun r10597 hr10597 => ?_)
                refine y_goto 103 c119_99 rfl ?_
                refine y_istore 105 c119_103 rfl rfl ?_
                refine y_aload 106 c119_105 rfl rfl rfl ?_
                refine y_iload 108 c119_106 rfl rfl ?_
                refine y_if 115 111 c119_108 rfl rfl (yz_lt (by omega)) (fun hb10598 => ?_) (fun hb10598 => ?_)
                · refine y_iconst 116 c119_115 rfl ?_
                  have es10600 : mq10575 376 1 = m 376 1 := ((hFq10575 376 1 rfl).trans ((hFq10534 376 1 rfl).trans (hFq10485 376 1 rfl)))
                  have tb10601 := hTq10575.atp 376 6 0 320 rfl
                  have es10602 : mq10575 376 8 = mq10534 376 8 := (hFq10575 376 8 rfl)
                  refine y_callIB 119 [.ref 376, yI 0] [] c119_116 rfl rfl rfl rfl rfl (ycanO km105 ko376) (t105 (g := 0) hTq10575 (by omega) (by omega)) (fun rq10599 mq10599 nq10599 hq10599 => ?_)
                  obtain ⟨rfl, hTq10599, hFq10599, hq10599⟩ := hq10599
                  have x1q10599 : mq10599 376 1 = m 376 1 := ((hFq10599 376 1 rfl).trans ((hFq10575 376 1 rfl).trans ((hFq10534 376 1 rfl).trans (hFq10485 376 1 rfl))))
                  have hF10603 := hF10579.tr hFq10599 wNw_wHm0
                  refine y_if 123 122 c119_119 rfl rfl (yz_ne (by omega)) (fun hb10604 => ?_) (fun hb10604 => ?_)
                  · exfalso; omega
                  · have es10605 : mq10599 376 1 = m 376 1 := ((hFq10599 376 1 rfl).trans ((hFq10575 376 1 rfl).trans ((hFq10534 376 1 rfl).trans (hFq10485 376 1 rfl))))
                    have tb10606 := hTq10599.atp 376 3 0 3 rfl
                    have tb10607 := hTq10599.atp 376 6 0 320 rfl
                    have tb10608 := hTq10599.atp 376 8 ((-1)) 320 rfl
                    have es10609 : mq10599 383 0 = m 383 0 := ((hFq10599 383 0 rfl).trans ((hFq10575 383 0 rfl).trans ((hFq10534 383 0 rfl).trans (hFq10485 383 0 rfl))))
                    exact y_retU c119_122 ⟨rfl, hTq10599, hF10603, by omega, Or.inl (by omega)⟩
                · refine y_iconst 112 c119_111 rfl ?_
                  refine y_goto 116 c119_112 rfl ?_
                  have es10611 : mq10575 376 1 = m 376 1 := ((hFq10575 376 1 rfl).trans ((hFq10534 376 1 rfl).trans (hFq10485 376 1 rfl)))
                  have tb10612 := hTq10575.atp 376 6 0 320 rfl
                  have es10613 : mq10575 376 8 = mq10534 376 8 := (hFq10575 376 8 rfl)
                  refine y_callIB 119 [.ref 376, yI 1] [] c119_116 rfl rfl rfl rfl rfl (ycanO km105 ko376) (t105 (g := 1) hTq10575 (by omega) (by omega)) (fun rq10610 mq10610 nq10610 hq10610 => ?_)
                  obtain ⟨rfl, hTq10610, hFq10610, hq10610⟩ := hq10610
                  have x1q10610 : mq10610 376 1 = m 376 1 := ((hFq10610 376 1 rfl).trans ((hFq10575 376 1 rfl).trans ((hFq10534 376 1 rfl).trans (hFq10485 376 1 rfl))))
                  have hF10614 := hF10579.tr hFq10610 wNw_wHm0
                  refine y_if 123 122 c119_119 rfl rfl (yz_ne (by omega)) (fun hb10615 => ?_) (fun hb10615 => ?_)
                  · refine y_aload 124 c119_123 rfl rfl rfl ?_
                    refine y_getR 127 c119_124 rfl kf376_28 ?_
                    refine y_iconst 129 c119_127 rfl ?_
                    refine y_iload 130 c119_129 rfl rfl ?_
                    refine y_imul 131 c119_130 rfl ?_
                    refine y_top 0 (by decide) ?_
                    refine y_aload 132 c119_131 rfl rfl rfl ?_
                    refine y_getR 135 c119_132 rfl kf376_20 ?_
                    refine y_iload 136 c119_135 rfl rfl ?_
                    refine y_iaX 137 (m 383 0) c119_136 rfl ka383 (by decide) ((hFq10610 383 0 rfl).trans ((hFq10575 383 0 rfl).trans ((hFq10534 383 0 rfl).trans (hFq10485 383 0 rfl)))) ?_
                    refine y_iadd 138 c119_137 rfl ?_
                    refine y_iload 139 c119_138 rfl rfl ?_
                    refine y_iastore 140 c119_139 rfl ka391 (by omega) (y_nar0 _) ?_
                    have hT10616 := hTq10610.up 391 ((0 + (m 383 0)).toNat) (mq10485 376 4) ((-2147483648)) 2147483647 rfl (by omega)
                    have hF10617 := hF10614.up 391 ((0 + (m 383 0)).toNat) (mq10485 376 4) (wHm0_391 (by omega))
                    refine y_aload 141 c119_140 rfl rfl rfl ?_
                    refine y_getR 144 c119_141 rfl kf376_29 ?_
                    refine y_iconst 146 c119_144 rfl ?_
                    refine y_iload 147 c119_146 rfl rfl ?_
                    refine y_imul 148 c119_147 rfl ?_
                    refine y_top 0 (by decide) ?_
                    refine y_aload 149 c119_148 rfl rfl rfl ?_
                    refine y_getR 152 c119_149 rfl kf376_20 ?_
                    refine y_iload 153 c119_152 rfl rfl ?_
                    refine y_iaX 154 (m 383 0) c119_153 rfl ka383 (by decide) ((yup_na (by decide)).trans ((hFq10610 383 0 rfl).trans ((hFq10575 383 0 rfl).trans ((hFq10534 383 0 rfl).trans (hFq10485 383 0 rfl))))) ?_
                    refine y_iadd 155 c119_154 rfl ?_
                    refine y_iload 157 c119_155 rfl rfl ?_
                    refine y_iastore 158 c119_157 rfl ka392 (by omega) (y_nar0 _) ?_
                    have hT10618 := hT10616.up 392 ((0 + (m 383 0)).toNat) r10597 ((-1)) 5 rfl (by omega)
                    have hF10619 := hF10617.up 392 ((0 + (m 383 0)).toNat) r10597 (wHm0_392 (by omega))
                    refine y_iconst 159 c119_158 rfl ?_
                    refine y_istore 161 c119_159 rfl rfl ?_
                    have es10620 : (yup (yup mq10610 391 ((0 + (m 383 0)).toNat) (mq10485 376 4)) 392 ((0 + (m 383 0)).toNat) r10597) 376 1 = m 376 1 := ((yup_na (by decide)).trans ((yup_na (by decide)).trans ((hFq10610 376 1 rfl).trans ((hFq10575 376 1 rfl).trans ((hFq10534 376 1 rfl).trans (hFq10485 376 1 rfl))))))
                    have es10621 : (yup (yup mq10610 391 ((0 + (m 383 0)).toNat) (mq10485 376 4)) 392 ((0 + (m 383 0)).toNat) r10597) 376 3 = mq10610 376 3 := rfl
                    have tb10622 := hTq10610.atp 376 3 0 3 rfl
                    have es10623 : (yup (yup mq10610 391 ((0 + (m 383 0)).toNat) (mq10485 376 4)) 392 ((0 + (m 383 0)).toNat) r10597) 376 6 = mq10610 376 6 := rfl
                    have tb10624 := hTq10610.atp 376 6 0 320 rfl
                    have es10625 : (yup (yup mq10610 391 ((0 + (m 383 0)).toNat) (mq10485 376 4)) 392 ((0 + (m 383 0)).toNat) r10597) 376 8 = mq10610 376 8 := rfl
                    have tb10626 := hTq10610.atp 376 8 ((-1)) 320 rfl
                    have es10627 : (yup (yup mq10610 391 ((0 + (m 383 0)).toNat) (mq10485 376 4)) 392 ((0 + (m 383 0)).toNat) r10597) 383 0 = m 383 0 := ((yup_na (by decide)).trans ((yup_na (by decide)).trans ((hFq10610 383 0 rfl).trans ((hFq10575 383 0 rfl).trans ((hFq10534 383 0 rfl).trans (hFq10485 383 0 rfl))))))
                    refine t119b_0 hT10618 (by omega) (fun x5 mw hTw hFw => ?_) 8 0 _ (by omega) (by omega) hT10618 Fr.rf
                    have hF10628 := hF10619.tr hFw wOw0_wHm0
                    refine y_aload 198 c119_197 rfl rfl rfl ?_
                    refine y_getR 201 c119_198 rfl kf376_20 ?_
                    refine y_iload 202 c119_201 rfl rfl ?_
                    refine y_dup2 203 c119_202 rfl ⟨rfl, rfl⟩ ?_
                    refine y_iaX 204 (m 383 0) c119_203 rfl ka383 (by decide) ((hFw 383 0 rfl).trans ((yup_na (by decide)).trans ((yup_na (by decide)).trans ((hFq10610 383 0 rfl).trans ((hFq10575 383 0 rfl).trans ((hFq10534 383 0 rfl).trans (hFq10485 383 0 rfl))))))) ?_
                    refine y_iconst 205 c119_204 rfl ?_
                    refine y_iadd 206 c119_205 rfl ?_
                    refine y_iastore 207 c119_206 rfl ka383 (by omega) (y_nar0 _) ?_
                    have hT10629 := hTw.up 383 ((0 : Int).toNat) ((m 383 0) + 1) 0 6 rfl (by omega)
                    have hF10630 := hF10628.up 383 ((0 : Int).toNat) ((m 383 0) + 1) rfl
                    refine y_aload 208 c119_207 rfl rfl rfl ?_
                    refine y_iconst 210 c119_208 rfl ?_
                    have es10632 : (yup mw 383 ((0 : Int).toNat) ((m 383 0) + 1)) 376 1 = m 376 1 := ((yup_na (by decide)).trans ((hFw 376 1 rfl).trans ((yup_na (by decide)).trans ((yup_na (by decide)).trans ((hFq10610 376 1 rfl).trans ((hFq10575 376 1 rfl).trans ((hFq10534 376 1 rfl).trans (hFq10485 376 1 rfl))))))))
                    have es10633 : (yup mw 383 ((0 : Int).toNat) ((m 383 0) + 1)) 376 3 = mq10610 376 3 := ((yup_na (by decide)).trans ((hFw 376 3 rfl).trans ((yup_na (by decide)).trans (yup_na (by decide)))))
                    have es10634 : (yup mw 383 ((0 : Int).toNat) ((m 383 0) + 1)) 376 6 = mq10610 376 6 := ((yup_na (by decide)).trans ((hFw 376 6 rfl).trans ((yup_na (by decide)).trans (yup_na (by decide)))))
                    have es10635 : (yup mw 383 ((0 : Int).toNat) ((m 383 0) + 1)) 376 8 = mq10610 376 8 := ((yup_na (by decide)).trans ((hFw 376 8 rfl).trans ((yup_na (by decide)).trans (yup_na (by decide)))))
                    have em10636 : mu (yup mw 383 ((0 : Int).toNat) ((m 383 0) + 1)) = mu mq10610 := mu_fr ((yup_na (by decide)).trans ((hFw 376 1 rfl).trans ((yup_na (by decide)).trans (yup_na (by decide))))) ((yup_na (by decide)).trans ((hFw 376 3 rfl).trans ((yup_na (by decide)).trans (yup_na (by decide))))) ((yup_na (by decide)).trans ((hFw 376 6 rfl).trans ((yup_na (by decide)).trans (yup_na (by decide)))))
                    refine y_callIB 213 [.ref 376, yI 123] [] c119_210 rfl rfl rfl rfl rfl (ycanO km118 ko376) (t118 hT10629 (by omega) (by omega)) (fun rq10631 mq10631 nq10631 hq10631 => ?_)
                    obtain ⟨rfl, hTq10631, hFq10631, hq10631⟩ := hq10631
                    have x1q10631 : mq10631 376 1 = m 376 1 := ((hFq10631 376 1 rfl).trans ((yup_na (by decide)).trans ((hFw 376 1 rfl).trans ((yup_na (by decide)).trans ((yup_na (by decide)).trans ((hFq10610 376 1 rfl).trans ((hFq10575 376 1 rfl).trans ((hFq10534 376 1 rfl).trans (hFq10485 376 1 rfl)))))))))
                    have hF10637 := hF10630.tr hFq10631 wNw_wHm0
                    refine y_if 217 216 c119_213 rfl rfl (yz_ne (by omega)) (fun hb10638 => ?_) (fun hb10638 => ?_)
                    · have es10639 : mq10631 376 1 = m 376 1 := ((hFq10631 376 1 rfl).trans ((yup_na (by decide)).trans ((hFw 376 1 rfl).trans ((yup_na (by decide)).trans ((yup_na (by decide)).trans ((hFq10610 376 1 rfl).trans ((hFq10575 376 1 rfl).trans ((hFq10534 376 1 rfl).trans (hFq10485 376 1 rfl)))))))))
                      have tb10640 := hTq10631.atp 376 3 0 3 rfl
                      have tb10641 := hTq10631.atp 376 6 0 320 rfl
                      have tb10642 := hTq10631.atp 376 8 ((-1)) 320 rfl
                      have es10643 : mq10631 383 0 = (m 383 0) + 1 := ((hFq10631 383 0 rfl).trans (yup_eq _ _ _ _))
                      have hv : mq10631 392 (6 * 0 + (m 383 0).toNat) = r10597 := by rw [show 6 * 0 + (m 383 0).toNat = (0 + m 383 0).toNat by omega]; exact ((hFq10631 392 _ rfl).trans ((yup_na (by decide)).trans ((hFw 392 _ rfl).trans (yup_eq _ _ _ _))))
                      have hx : XD 0 mq10631 := XD.head hC (by omega) (fun a q ha h1 h2 => hF10637 a q (wHm0_C a q ha h1 h2)) (by omega) (fun k hk => ((hFq10631 392 _ rfl).trans ((yup_na (by decide)).trans ((hFw 392 _ rfl).trans ((yup_nk (by omega)).trans ((yup_na (by decide)).trans ((hFq10610 392 _ rfl).trans ((hFq10575 392 _ rfl).trans ((hFq10534 392 _ rfl).trans (hFq10485 392 _ rfl)))))))))) (by omega)
                      exact y_retU c119_217 ⟨rfl, hTq10631, hF10637, by omega, Or.inr ⟨by omega, by omega, by omega, hx⟩⟩
                    · have es10644 : mq10631 376 1 = m 376 1 := ((hFq10631 376 1 rfl).trans ((yup_na (by decide)).trans ((hFw 376 1 rfl).trans ((yup_na (by decide)).trans ((yup_na (by decide)).trans ((hFq10610 376 1 rfl).trans ((hFq10575 376 1 rfl).trans ((hFq10534 376 1 rfl).trans (hFq10485 376 1 rfl)))))))))
                      have tb10645 := hTq10631.atp 376 3 0 3 rfl
                      have tb10646 := hTq10631.atp 376 6 0 320 rfl
                      have tb10647 := hTq10631.atp 376 8 ((-1)) 320 rfl
                      have es10648 : mq10631 383 0 = (m 383 0) + 1 := ((hFq10631 383 0 rfl).trans (yup_eq _ _ _ _))
                      exact y_retU c119_216 ⟨rfl, hTq10631, hF10637, by omega, Or.inl (by omega)⟩
                  · have es10649 : mq10610 376 1 = m 376 1 := ((hFq10610 376 1 rfl).trans ((hFq10575 376 1 rfl).trans ((hFq10534 376 1 rfl).trans (hFq10485 376 1 rfl))))
                    have tb10650 := hTq10610.atp 376 3 0 3 rfl
                    have tb10651 := hTq10610.atp 376 6 0 320 rfl
                    have tb10652 := hTq10610.atp 376 8 ((-1)) 320 rfl
                    have es10653 : mq10610 383 0 = m 383 0 := ((hFq10610 383 0 rfl).trans ((hFq10575 383 0 rfl).trans ((hFq10534 383 0 rfl).trans (hFq10485 383 0 rfl))))
                    exact y_retU c119_122 ⟨rfl, hTq10610, hF10614, by omega, Or.inl (by omega)⟩
          · have es10654 : mq10534 376 1 = m 376 1 := ((hFq10534 376 1 rfl).trans (hFq10485 376 1 rfl))
            have tb10655 := hTq10534.atp 376 3 0 3 rfl
            have tb10656 := hTq10534.atp 376 6 0 320 rfl
            have tb10657 := hTq10534.atp 376 8 ((-1)) 320 rfl
            have es10658 : mq10534 383 0 = m 383 0 := ((hFq10534 383 0 rfl).trans (hFq10485 383 0 rfl))
            exact y_retU c119_66 ⟨rfl, hTq10534, hF10538, by omega, Or.inl (by omega)⟩
  · have es10659 : mq10485 376 1 = m 376 1 := (hFq10485 376 1 rfl)
    have tb10660 := hTq10485.atp 376 3 0 3 rfl
    have tb10661 := hTq10485.atp 376 6 0 320 rfl
    have tb10662 := hTq10485.atp 376 8 ((-1)) 320 rfl
    have es10663 : mq10485 383 0 = m 383 0 := (hFq10485 383 0 rfl)
    exact y_retU c119_16 ⟨rfl, hTq10485, hF10489, by omega, Or.inl (by omega)⟩
set_option maxRecDepth 100000 in
theorem t122_0 {L : Nat} {xs : Nat → Int32} {d nn : Nat} {m : yM} (hT : Ty gT m) (hl : m 376 6 ≤ m 376 1) (hn : m 376 18 = 1) (h8 : m 376 8 < 0) (hU : UX 0 m (m 383 0)) (hc1 : 1 ≤ m 383 0) (h3 : m 376 3 ≠ 0) : YC (gZ L xs) (d + 5) 122 [.ref 376] m nn (qU (fun m' n' => n' = nn ∧ Ty gT m' ∧ Fr wFm0 m m' ∧ m' 376 6 ≤ m' 376 1 ∧ (0 ≤ m' 376 8 ∨ (m' 376 8 < 0 ∧ mu m' < mu m)))) := by
  have tb8 := hT.atp 376 8 (-1) 320 rfl
  have tc383 := hT.atp 383 0 0 6 rfl
  have tc384 := hT.atp 384 0 0 10 rfl
  have tc385 := hT.atp 385 0 0 8 rfl
  have tc389 := hT.atp 389 0 0 48 rfl
  have tc390 := hT.atp 390 0 0 125 rfl
  refine YC.mkB [some (.ref 376), none, none, none, none, none] kn122 rfl rfl ?_
  have hF : Fr wFm0 m m := Fr.rf
  refine y_aload 1 c122_0 rfl rfl rfl ?_
  have tb10665 := hT.atp 376 18 0 1 rfl
  refine y_callP 4 [.ref 376] [] c122_1 rfl rfl rfl rfl rfl (ycanO km96 ko376) (t96_0 (by omega)) (fun r10664 hr10664 => ?_)
  subst hr10664
  refine y_istore 5 c122_4 rfl rfl ?_
  refine y_aload 6 c122_5 rfl rfl rfl ?_
  refine y_getR 9 c122_6 rfl kf376_20 ?_
  refine y_iload 10 c122_9 rfl rfl ?_
  refine y_iaX 11 (m 383 0) c122_10 rfl ka383 (by decide) rfl ?_
  refine y_iconst 12 c122_11 rfl ?_
  refine y_isub 13 c122_12 rfl ?_
  refine y_istore 14 c122_13 rfl rfl ?_
  refine y_aload 15 c122_14 rfl rfl rfl ?_
  have tb10667 := hT.atp 376 1 0 320 rfl
  have tb10668 := hT.atp 376 3 0 3 rfl
  have tb10669 := hT.atp 376 6 0 320 rfl
  have tb10670 := hT.atp 376 8 ((-1)) 320 rfl
  refine y_callUB 18 [.ref 376] [] c122_15 rfl rfl rfl rfl rfl (ycanO km99 ko376) (t99u hT (by omega)) (fun mq10666 nq10666 hq10666 => ?_)
  obtain ⟨rfl, hTq10666, hFq10666, hq10666⟩ := hq10666
  have x1q10666 : mq10666 376 1 = m 376 1 := (hFq10666 376 1 rfl)
  have hF10671 := hF.tr hFq10666 wNx_wFm0
  refine y_aload 19 c122_18 rfl rfl rfl ?_
  have tb10672 := hTq10666.atp 376 3 0 3 rfl
  refine y_callP 22 [.ref 376] [] c122_19 rfl rfl rfl rfl rfl (ycanO km115 ko376) (t115 hTq10666) (fun r10673 hr10673 => ?_)
  refine y_if 37 25 c122_22 rfl rfl (yz_eq (by omega)) (fun hb10674 => ?_) (fun hb10674 => ?_)
  · refine y_iconst 38 c122_37 rfl ?_
    refine y_istore 39 c122_38 rfl rfl ?_
    refine y_aload 40 c122_39 rfl rfl rfl ?_
    refine y_callP 43 [.ref 376] [] c122_40 rfl rfl rfl rfl rfl (ycanO km115 ko376) (t115 hTq10666) (fun r10675 hr10675 => ?_)
    refine y_if 75 46 c122_43 rfl rfl (yz_eq (by omega)) (fun hb10676 => ?_) (fun hb10676 => ?_)
    · refine y_iconst 76 c122_75 rfl ?_
      refine y_istore 78 c122_76 rfl rfl ?_
      refine y_aload 79 c122_78 rfl rfl rfl ?_
      refine y_getX 82 (mq10666 376 4) c122_79 rfl kf376_4 rfl ?_
      have tb10677 := hTq10666.atp 376 4 ((-2147483648)) 2147483647 rfl
      refine y_istore 84 c122_82 rfl rfl ?_
      refine y_aload 85 c122_84 rfl rfl rfl ?_
      refine y_iload 87 c122_85 rfl rfl ?_
      have es10679 : mq10666 376 1 = m 376 1 := (hFq10666 376 1 rfl)
      have tb10680 := hTq10666.atp 376 6 0 320 rfl
      have es10681 : mq10666 376 8 = m 376 8 := (hFq10666 376 8 rfl)
      refine y_callIB 90 [.ref 376, yI 0] [] c122_87 rfl rfl rfl rfl rfl (ycanO km105 ko376) (t105 (g := 0) hTq10666 (by omega) (by omega)) (fun rq10678 mq10678 nq10678 hq10678 => ?_)
      obtain ⟨rfl, hTq10678, hFq10678, hq10678⟩ := hq10678
      have x1q10678 : mq10678 376 1 = m 376 1 := ((hFq10678 376 1 rfl).trans (hFq10666 376 1 rfl))
      have hF10682 := hF10671.tr hFq10678 wNw_wFm0
      refine y_if 94 93 c122_90 rfl rfl (yz_ne (by omega)) (fun hb10683 => ?_) (fun hb10683 => ?_)
      · exfalso; omega
      · have es10684 : mq10678 376 1 = m 376 1 := ((hFq10678 376 1 rfl).trans (hFq10666 376 1 rfl))
        have tb10685 := hTq10678.atp 376 3 0 3 rfl
        have tb10686 := hTq10678.atp 376 6 0 320 rfl
        have tb10687 := hTq10678.atp 376 8 ((-1)) 320 rfl
        exact y_retU c122_93 ⟨rfl, hTq10678, hF10682, by omega, by omega⟩
    · refine y_aload 47 c122_46 rfl rfl rfl ?_
      refine y_iload 48 c122_47 rfl rfl ?_
      refine y_iload 49 c122_48 rfl rfl ?_
      refine y_iload 50 c122_49 rfl rfl ?_
      have es10688 : mq10666 383 0 = m 383 0 := (hFq10666 383 0 rfl)
      refine y_callP 53 [.ref 376, yI 0, yI ((m 383 0) - 1), yI ((-1))] [] c122_50 rfl rfl rfl rfl rfl (ycanO km121 ko376) (t121_0 hTq10666 (by rw [show mq10666 383 0 = m 383 0 from (hFq10666 383 0 rfl)]; exact hU.fr (fun q => (hFq10666 392 q rfl))) (by omega) (by omega)) (fun r10689 hr10689 => ?_)
      refine y_if 75 56 c122_53 rfl rfl (yz_ne (by omega)) (fun hb10690 => ?_) (fun hb10690 => ?_)
      · refine y_iconst 76 c122_75 rfl ?_
        refine y_istore 78 c122_76 rfl rfl ?_
        refine y_aload 79 c122_78 rfl rfl rfl ?_
        refine y_getX 82 (mq10666 376 4) c122_79 rfl kf376_4 rfl ?_
        have tb10691 := hTq10666.atp 376 4 ((-2147483648)) 2147483647 rfl
        refine y_istore 84 c122_82 rfl rfl ?_
        refine y_aload 85 c122_84 rfl rfl rfl ?_
        refine y_iload 87 c122_85 rfl rfl ?_
        have es10693 : mq10666 376 1 = m 376 1 := (hFq10666 376 1 rfl)
        have tb10694 := hTq10666.atp 376 6 0 320 rfl
        have es10695 : mq10666 376 8 = m 376 8 := (hFq10666 376 8 rfl)
        refine y_callIB 90 [.ref 376, yI 0] [] c122_87 rfl rfl rfl rfl rfl (ycanO km105 ko376) (t105 (g := 0) hTq10666 (by omega) (by omega)) (fun rq10692 mq10692 nq10692 hq10692 => ?_)
        obtain ⟨rfl, hTq10692, hFq10692, hq10692⟩ := hq10692
        have x1q10692 : mq10692 376 1 = m 376 1 := ((hFq10692 376 1 rfl).trans (hFq10666 376 1 rfl))
        have hF10696 := hF10671.tr hFq10692 wNw_wFm0
        refine y_if 94 93 c122_90 rfl rfl (yz_ne (by omega)) (fun hb10697 => ?_) (fun hb10697 => ?_)
        · exfalso; omega
        · have es10698 : mq10692 376 1 = m 376 1 := ((hFq10692 376 1 rfl).trans (hFq10666 376 1 rfl))
          have tb10699 := hTq10692.atp 376 3 0 3 rfl
          have tb10700 := hTq10692.atp 376 6 0 320 rfl
          have tb10701 := hTq10692.atp 376 8 ((-1)) 320 rfl
          exact y_retU c122_93 ⟨rfl, hTq10692, hF10696, by omega, by omega⟩
      · refine y_iload 57 c122_56 rfl rfl ?_
        refine y_if 71 60 c122_57 rfl rfl (yz_ge (by omega)) (fun hb10702 => ?_) (fun hb10702 => ?_)
        · exfalso; omega
        · refine y_aload 61 c122_60 rfl rfl rfl ?_
          refine y_getR 64 c122_61 rfl kf376_22 ?_
          refine y_iload 65 c122_64 rfl rfl ?_
          refine y_iaX 66 (m 385 0) c122_65 rfl ka385 (by decide) (hFq10666 385 0 rfl) ?_
          refine y_iconst 68 c122_66 rfl ?_
          refine y_icmp 75 71 c122_68 rfl rfl (yc_ge (by omega) (by omega)) (fun hb10703 => ?_) (fun hb10703 => ?_)
          · refine y_iconst 76 c122_75 rfl ?_
            refine y_istore 78 c122_76 rfl rfl ?_
            refine y_aload 79 c122_78 rfl rfl rfl ?_
            refine y_getX 82 (mq10666 376 4) c122_79 rfl kf376_4 rfl ?_
            have tb10704 := hTq10666.atp 376 4 ((-2147483648)) 2147483647 rfl
            refine y_istore 84 c122_82 rfl rfl ?_
            refine y_aload 85 c122_84 rfl rfl rfl ?_
            refine y_iload 87 c122_85 rfl rfl ?_
            have es10706 : mq10666 376 1 = m 376 1 := (hFq10666 376 1 rfl)
            have tb10707 := hTq10666.atp 376 6 0 320 rfl
            have es10708 : mq10666 376 8 = m 376 8 := (hFq10666 376 8 rfl)
            refine y_callIB 90 [.ref 376, yI 0] [] c122_87 rfl rfl rfl rfl rfl (ycanO km105 ko376) (t105 (g := 0) hTq10666 (by omega) (by omega)) (fun rq10705 mq10705 nq10705 hq10705 => ?_)
            obtain ⟨rfl, hTq10705, hFq10705, hq10705⟩ := hq10705
            have x1q10705 : mq10705 376 1 = m 376 1 := ((hFq10705 376 1 rfl).trans (hFq10666 376 1 rfl))
            have hF10709 := hF10671.tr hFq10705 wNw_wFm0
            refine y_if 94 93 c122_90 rfl rfl (yz_ne (by omega)) (fun hb10710 => ?_) (fun hb10710 => ?_)
            · exfalso; omega
            · have es10711 : mq10705 376 1 = m 376 1 := ((hFq10705 376 1 rfl).trans (hFq10666 376 1 rfl))
              have tb10712 := hTq10705.atp 376 3 0 3 rfl
              have tb10713 := hTq10705.atp 376 6 0 320 rfl
              have tb10714 := hTq10705.atp 376 8 ((-1)) 320 rfl
              exact y_retU c122_93 ⟨rfl, hTq10705, hF10709, by omega, by omega⟩
          · refine y_iconst 72 c122_71 rfl ?_
            refine y_goto 76 c122_72 rfl ?_
            refine y_istore 78 c122_76 rfl rfl ?_
            refine y_aload 79 c122_78 rfl rfl rfl ?_
            refine y_getX 82 (mq10666 376 4) c122_79 rfl kf376_4 rfl ?_
            have tb10715 := hTq10666.atp 376 4 ((-2147483648)) 2147483647 rfl
            refine y_istore 84 c122_82 rfl rfl ?_
            refine y_aload 85 c122_84 rfl rfl rfl ?_
            refine y_iload 87 c122_85 rfl rfl ?_
            have es10717 : mq10666 376 1 = m 376 1 := (hFq10666 376 1 rfl)
            have tb10718 := hTq10666.atp 376 6 0 320 rfl
            have es10719 : mq10666 376 8 = m 376 8 := (hFq10666 376 8 rfl)
            refine y_callIB 90 [.ref 376, yI 1] [] c122_87 rfl rfl rfl rfl rfl (ycanO km105 ko376) (t105 (g := 1) hTq10666 (by omega) (by omega)) (fun rq10716 mq10716 nq10716 hq10716 => ?_)
            obtain ⟨rfl, hTq10716, hFq10716, hq10716⟩ := hq10716
            have x1q10716 : mq10716 376 1 = m 376 1 := ((hFq10716 376 1 rfl).trans (hFq10666 376 1 rfl))
            have hF10720 := hF10671.tr hFq10716 wNw_wFm0
            refine y_if 94 93 c122_90 rfl rfl (yz_ne (by omega)) (fun hb10721 => ?_) (fun hb10721 => ?_)
            · refine y_iload 95 c122_94 rfl rfl ?_
              refine y_if 128 98 c122_95 rfl rfl (yz_ge (by omega)) (fun hb10722 => ?_) (fun hb10722 => ?_)
              · exfalso; omega
              · refine y_aload 99 c122_98 rfl rfl rfl ?_
                refine y_getR 102 c122_99 rfl kf376_22 ?_
                refine y_iload 103 c122_102 rfl rfl ?_
                refine y_iaX 104 (m 385 0) c122_103 rfl ka385 (by decide) ((hFq10716 385 0 rfl).trans (hFq10666 385 0 rfl)) ?_
                refine y_istore 105 c122_104 rfl rfl ?_
                refine y_aload 106 c122_105 rfl rfl rfl ?_
                refine y_getR 109 c122_106 rfl kf376_31 ?_
                refine y_iconst 111 c122_109 rfl ?_
                refine y_iload 112 c122_111 rfl rfl ?_
                refine y_imul 113 c122_112 rfl ?_
                refine y_top 0 (by decide) ?_
                refine y_iload 114 c122_113 rfl rfl ?_
                refine y_iadd 115 c122_114 rfl ?_
                refine y_iload 117 c122_115 rfl rfl ?_
                refine y_iastore 118 c122_117 rfl ka394 (by omega) (y_nar0 _) ?_
                have hT10723 := hTq10716.up 394 ((0 + (m 385 0)).toNat) (mq10666 376 4) ((-2147483648)) 2147483647 rfl (by omega)
                have hF10724 := hF10720.up 394 ((0 + (m 385 0)).toNat) (mq10666 376 4) (wFm0_394 (by omega))
                refine y_aload 119 c122_118 rfl rfl rfl ?_
                refine y_getR 122 c122_119 rfl kf376_22 ?_
                refine y_iload 123 c122_122 rfl rfl ?_
                refine y_dup2 124 c122_123 rfl ⟨rfl, rfl⟩ ?_
                refine y_iaX 125 (m 385 0) c122_124 rfl ka385 (by decide) ((yup_na (by decide)).trans ((hFq10716 385 0 rfl).trans (hFq10666 385 0 rfl))) ?_
                refine y_iconst 126 c122_125 rfl ?_
                refine y_iadd 127 c122_126 rfl ?_
                refine y_iastore 128 c122_127 rfl ka385 (by omega) (y_nar0 _) ?_
                have hT10725 := hT10723.up 385 ((0 : Int).toNat) ((m 385 0) + 1) 0 8 rfl (by omega)
                have hF10726 := hF10724.up 385 ((0 : Int).toNat) ((m 385 0) + 1) rfl
                refine y_aload 129 c122_128 rfl rfl rfl ?_
                refine y_getR 132 c122_129 rfl kf376_30 ?_
                refine y_iconst 134 c122_132 rfl ?_
                refine y_iload 135 c122_134 rfl rfl ?_
                refine y_imul 136 c122_135 rfl ?_
                refine y_top 0 (by decide) ?_
                refine y_iconst 138 c122_136 rfl ?_
                refine y_iload 139 c122_138 rfl rfl ?_
                refine y_imul 140 c122_139 rfl ?_
                refine y_iadd 141 c122_140 rfl ?_
                refine y_iload 142 c122_141 rfl rfl ?_
                refine y_iadd 143 c122_142 rfl ?_
                refine y_iconst 144 c122_143 rfl ?_
                refine y_iastore 145 c122_144 rfl ka393 (by omega) (y_nar1 (by omega)) ?_
                have hT10727 := hT10725.up 393 (((0 + (8 * ((m 383 0) - 1))) + (m 385 0)).toNat) 1 0 1 rfl (by omega)
                have hF10728 := hF10726.up 393 (((0 + (8 * ((m 383 0) - 1))) + (m 385 0)).toNat) 1 (wFm0_393 (by omega))
                refine y_aload 146 c122_145 rfl rfl rfl ?_
                refine y_iconst 148 c122_146 rfl ?_
                have es10730 : (yup (yup (yup mq10716 394 ((0 + (m 385 0)).toNat) (mq10666 376 4)) 385 ((0 : Int).toNat) ((m 385 0) + 1)) 393 (((0 + (8 * ((m 383 0) - 1))) + (m 385 0)).toNat) 1) 376 1 = m 376 1 := ((yup_na (by decide)).trans ((yup_na (by decide)).trans ((yup_na (by decide)).trans ((hFq10716 376 1 rfl).trans (hFq10666 376 1 rfl)))))
                have es10731 : (yup (yup (yup mq10716 394 ((0 + (m 385 0)).toNat) (mq10666 376 4)) 385 ((0 : Int).toNat) ((m 385 0) + 1)) 393 (((0 + (8 * ((m 383 0) - 1))) + (m 385 0)).toNat) 1) 376 3 = mq10716 376 3 := rfl
                have tb10732 := hTq10716.atp 376 3 0 3 rfl
                have es10733 : (yup (yup (yup mq10716 394 ((0 + (m 385 0)).toNat) (mq10666 376 4)) 385 ((0 : Int).toNat) ((m 385 0) + 1)) 393 (((0 + (8 * ((m 383 0) - 1))) + (m 385 0)).toNat) 1) 376 6 = mq10716 376 6 := rfl
                have tb10734 := hTq10716.atp 376 6 0 320 rfl
                have es10735 : (yup (yup (yup mq10716 394 ((0 + (m 385 0)).toNat) (mq10666 376 4)) 385 ((0 : Int).toNat) ((m 385 0) + 1)) 393 (((0 + (8 * ((m 383 0) - 1))) + (m 385 0)).toNat) 1) 376 8 = mq10716 376 8 := rfl
                have tb10736 := hTq10716.atp 376 8 ((-1)) 320 rfl
                have em10737 : mu (yup (yup (yup mq10716 394 ((0 + (m 385 0)).toNat) (mq10666 376 4)) 385 ((0 : Int).toNat) ((m 385 0) + 1)) 393 (((0 + (8 * ((m 383 0) - 1))) + (m 385 0)).toNat) 1) = mu mq10716 := mu_fr ((yup_na (by decide)).trans ((yup_na (by decide)).trans (yup_na (by decide)))) ((yup_na (by decide)).trans ((yup_na (by decide)).trans (yup_na (by decide)))) ((yup_na (by decide)).trans ((yup_na (by decide)).trans (yup_na (by decide))))
                refine y_callIB 151 [.ref 376, yI 59] [] c122_148 rfl rfl rfl rfl rfl (ycanO km118 ko376) (t118 hT10727 (by omega) (by omega)) (fun rq10729 mq10729 nq10729 hq10729 => ?_)
                obtain ⟨rfl, hTq10729, hFq10729, hq10729⟩ := hq10729
                have x1q10729 : mq10729 376 1 = m 376 1 := ((hFq10729 376 1 rfl).trans ((yup_na (by decide)).trans ((yup_na (by decide)).trans ((yup_na (by decide)).trans ((hFq10716 376 1 rfl).trans (hFq10666 376 1 rfl))))))
                have hF10738 := hF10728.tr hFq10729 wNw_wFm0
                refine y_if 155 154 c122_151 rfl rfl (yz_ne (by omega)) (fun hb10739 => ?_) (fun hb10739 => ?_)
                · have es10740 : mq10729 376 1 = m 376 1 := ((hFq10729 376 1 rfl).trans ((yup_na (by decide)).trans ((yup_na (by decide)).trans ((yup_na (by decide)).trans ((hFq10716 376 1 rfl).trans (hFq10666 376 1 rfl))))))
                  have tb10741 := hTq10729.atp 376 3 0 3 rfl
                  have tb10742 := hTq10729.atp 376 6 0 320 rfl
                  have tb10743 := hTq10729.atp 376 8 ((-1)) 320 rfl
                  exact y_retU c122_155 ⟨rfl, hTq10729, hF10738, by omega, by omega⟩
                · have es10744 : mq10729 376 1 = m 376 1 := ((hFq10729 376 1 rfl).trans ((yup_na (by decide)).trans ((yup_na (by decide)).trans ((yup_na (by decide)).trans ((hFq10716 376 1 rfl).trans (hFq10666 376 1 rfl))))))
                  have tb10745 := hTq10729.atp 376 3 0 3 rfl
                  have tb10746 := hTq10729.atp 376 6 0 320 rfl
                  have tb10747 := hTq10729.atp 376 8 ((-1)) 320 rfl
                  exact y_retU c122_154 ⟨rfl, hTq10729, hF10738, by omega, by omega⟩
            · have es10748 : mq10716 376 1 = m 376 1 := ((hFq10716 376 1 rfl).trans (hFq10666 376 1 rfl))
              have tb10749 := hTq10716.atp 376 3 0 3 rfl
              have tb10750 := hTq10716.atp 376 6 0 320 rfl
              have tb10751 := hTq10716.atp 376 8 ((-1)) 320 rfl
              exact y_retU c122_93 ⟨rfl, hTq10716, hF10720, by omega, by omega⟩
  · refine y_aload 26 c122_25 rfl rfl rfl ?_
    refine y_iload 27 c122_26 rfl rfl ?_
    refine y_aload 28 c122_27 rfl rfl rfl ?_
    refine y_getX 31 (mq10666 376 4) c122_28 rfl kf376_4 rfl ?_
    have tb10752 := hTq10666.atp 376 4 ((-2147483648)) 2147483647 rfl
    have es10753 : mq10666 385 0 = m 385 0 := (hFq10666 385 0 rfl)
    refine y_callP 34 [.ref 376, yI 0, yI (mq10666 376 4)] [] c122_31 rfl rfl rfl rfl rfl (ycanO km120 ko376) (t120_0 hTq10666 (by omega)) (fun r10754 hr10754 => ?_)
    refine y_goto 38 c122_34 rfl ?_
    refine y_istore 39 c122_38 rfl rfl ?_
    refine y_aload 40 c122_39 rfl rfl rfl ?_
    refine y_callP 43 [.ref 376] [] c122_40 rfl rfl rfl rfl rfl (ycanO km115 ko376) (t115 hTq10666) (fun r10755 hr10755 => ?_)
    refine y_if 75 46 c122_43 rfl rfl (yz_eq (by omega)) (fun hb10756 => ?_) (fun hb10756 => ?_)
    · refine y_iconst 76 c122_75 rfl ?_
      refine y_istore 78 c122_76 rfl rfl ?_
      refine y_aload 79 c122_78 rfl rfl rfl ?_
      refine y_getX 82 (mq10666 376 4) c122_79 rfl kf376_4 rfl ?_
      refine y_istore 84 c122_82 rfl rfl ?_
      refine y_aload 85 c122_84 rfl rfl rfl ?_
      refine y_iload 87 c122_85 rfl rfl ?_
      have es10758 : mq10666 376 1 = m 376 1 := (hFq10666 376 1 rfl)
      have tb10759 := hTq10666.atp 376 6 0 320 rfl
      have es10760 : mq10666 376 8 = m 376 8 := (hFq10666 376 8 rfl)
      refine y_callIB 90 [.ref 376, yI 0] [] c122_87 rfl rfl rfl rfl rfl (ycanO km105 ko376) (t105 (g := 0) hTq10666 (by omega) (by omega)) (fun rq10757 mq10757 nq10757 hq10757 => ?_)
      obtain ⟨rfl, hTq10757, hFq10757, hq10757⟩ := hq10757
      have x1q10757 : mq10757 376 1 = m 376 1 := ((hFq10757 376 1 rfl).trans (hFq10666 376 1 rfl))
      have hF10761 := hF10671.tr hFq10757 wNw_wFm0
      refine y_if 94 93 c122_90 rfl rfl (yz_ne (by omega)) (fun hb10762 => ?_) (fun hb10762 => ?_)
      · exfalso; omega
      · have es10763 : mq10757 376 1 = m 376 1 := ((hFq10757 376 1 rfl).trans (hFq10666 376 1 rfl))
        have tb10764 := hTq10757.atp 376 3 0 3 rfl
        have tb10765 := hTq10757.atp 376 6 0 320 rfl
        have tb10766 := hTq10757.atp 376 8 ((-1)) 320 rfl
        exact y_retU c122_93 ⟨rfl, hTq10757, hF10761, by omega, by omega⟩
    · refine y_aload 47 c122_46 rfl rfl rfl ?_
      refine y_iload 48 c122_47 rfl rfl ?_
      refine y_iload 49 c122_48 rfl rfl ?_
      refine y_iload 50 c122_49 rfl rfl ?_
      have es10767 : mq10666 383 0 = m 383 0 := (hFq10666 383 0 rfl)
      refine y_callP 53 [.ref 376, yI 0, yI ((m 383 0) - 1), yI r10754] [] c122_50 rfl rfl rfl rfl rfl (ycanO km121 ko376) (t121_0 hTq10666 (by rw [show mq10666 383 0 = m 383 0 from (hFq10666 383 0 rfl)]; exact hU.fr (fun q => (hFq10666 392 q rfl))) (by omega) (by omega)) (fun r10768 hr10768 => ?_)
      refine y_if 75 56 c122_53 rfl rfl (yz_ne (by omega)) (fun hb10769 => ?_) (fun hb10769 => ?_)
      · refine y_iconst 76 c122_75 rfl ?_
        refine y_istore 78 c122_76 rfl rfl ?_
        refine y_aload 79 c122_78 rfl rfl rfl ?_
        refine y_getX 82 (mq10666 376 4) c122_79 rfl kf376_4 rfl ?_
        refine y_istore 84 c122_82 rfl rfl ?_
        refine y_aload 85 c122_84 rfl rfl rfl ?_
        refine y_iload 87 c122_85 rfl rfl ?_
        have es10771 : mq10666 376 1 = m 376 1 := (hFq10666 376 1 rfl)
        have tb10772 := hTq10666.atp 376 6 0 320 rfl
        have es10773 : mq10666 376 8 = m 376 8 := (hFq10666 376 8 rfl)
        refine y_callIB 90 [.ref 376, yI 0] [] c122_87 rfl rfl rfl rfl rfl (ycanO km105 ko376) (t105 (g := 0) hTq10666 (by omega) (by omega)) (fun rq10770 mq10770 nq10770 hq10770 => ?_)
        obtain ⟨rfl, hTq10770, hFq10770, hq10770⟩ := hq10770
        have x1q10770 : mq10770 376 1 = m 376 1 := ((hFq10770 376 1 rfl).trans (hFq10666 376 1 rfl))
        have hF10774 := hF10671.tr hFq10770 wNw_wFm0
        refine y_if 94 93 c122_90 rfl rfl (yz_ne (by omega)) (fun hb10775 => ?_) (fun hb10775 => ?_)
        · exfalso; omega
        · have es10776 : mq10770 376 1 = m 376 1 := ((hFq10770 376 1 rfl).trans (hFq10666 376 1 rfl))
          have tb10777 := hTq10770.atp 376 3 0 3 rfl
          have tb10778 := hTq10770.atp 376 6 0 320 rfl
          have tb10779 := hTq10770.atp 376 8 ((-1)) 320 rfl
          exact y_retU c122_93 ⟨rfl, hTq10770, hF10774, by omega, by omega⟩
      · refine y_iload 57 c122_56 rfl rfl ?_
        refine y_if 71 60 c122_57 rfl rfl (yz_ge (by omega)) (fun hb10780 => ?_) (fun hb10780 => ?_)
        · refine y_iconst 72 c122_71 rfl ?_
          refine y_goto 76 c122_72 rfl ?_
          refine y_istore 78 c122_76 rfl rfl ?_
          refine y_aload 79 c122_78 rfl rfl rfl ?_
          refine y_getX 82 (mq10666 376 4) c122_79 rfl kf376_4 rfl ?_
          refine y_istore 84 c122_82 rfl rfl ?_
          refine y_aload 85 c122_84 rfl rfl rfl ?_
          refine y_iload 87 c122_85 rfl rfl ?_
          have es10782 : mq10666 376 1 = m 376 1 := (hFq10666 376 1 rfl)
          have tb10783 := hTq10666.atp 376 6 0 320 rfl
          have es10784 : mq10666 376 8 = m 376 8 := (hFq10666 376 8 rfl)
          refine y_callIB 90 [.ref 376, yI 1] [] c122_87 rfl rfl rfl rfl rfl (ycanO km105 ko376) (t105 (g := 1) hTq10666 (by omega) (by omega)) (fun rq10781 mq10781 nq10781 hq10781 => ?_)
          obtain ⟨rfl, hTq10781, hFq10781, hq10781⟩ := hq10781
          have x1q10781 : mq10781 376 1 = m 376 1 := ((hFq10781 376 1 rfl).trans (hFq10666 376 1 rfl))
          have hF10785 := hF10671.tr hFq10781 wNw_wFm0
          refine y_if 94 93 c122_90 rfl rfl (yz_ne (by omega)) (fun hb10786 => ?_) (fun hb10786 => ?_)
          · refine y_iload 95 c122_94 rfl rfl ?_
            refine y_if 128 98 c122_95 rfl rfl (yz_ge (by omega)) (fun hb10787 => ?_) (fun hb10787 => ?_)
            · refine y_aload 129 c122_128 rfl rfl rfl ?_
              refine y_getR 132 c122_129 rfl kf376_30 ?_
              refine y_iconst 134 c122_132 rfl ?_
              refine y_iload 135 c122_134 rfl rfl ?_
              refine y_imul 136 c122_135 rfl ?_
              refine y_top 0 (by decide) ?_
              refine y_iconst 138 c122_136 rfl ?_
              refine y_iload 139 c122_138 rfl rfl ?_
              refine y_imul 140 c122_139 rfl ?_
              refine y_iadd 141 c122_140 rfl ?_
              refine y_iload 142 c122_141 rfl rfl ?_
              refine y_iadd 143 c122_142 rfl ?_
              refine y_iconst 144 c122_143 rfl ?_
              refine y_iastore 145 c122_144 rfl ka393 (by omega) (y_nar1 (by omega)) ?_
              have hT10788 := hTq10781.up 393 (((0 + (8 * ((m 383 0) - 1))) + r10754).toNat) 1 0 1 rfl (by omega)
              have hF10789 := hF10785.up 393 (((0 + (8 * ((m 383 0) - 1))) + r10754).toNat) 1 (wFm0_393 (by omega))
              refine y_aload 146 c122_145 rfl rfl rfl ?_
              refine y_iconst 148 c122_146 rfl ?_
              have es10791 : (yup mq10781 393 (((0 + (8 * ((m 383 0) - 1))) + r10754).toNat) 1) 376 1 = m 376 1 := ((yup_na (by decide)).trans ((hFq10781 376 1 rfl).trans (hFq10666 376 1 rfl)))
              have es10792 : (yup mq10781 393 (((0 + (8 * ((m 383 0) - 1))) + r10754).toNat) 1) 376 3 = mq10781 376 3 := rfl
              have tb10793 := hTq10781.atp 376 3 0 3 rfl
              have es10794 : (yup mq10781 393 (((0 + (8 * ((m 383 0) - 1))) + r10754).toNat) 1) 376 6 = mq10781 376 6 := rfl
              have tb10795 := hTq10781.atp 376 6 0 320 rfl
              have es10796 : (yup mq10781 393 (((0 + (8 * ((m 383 0) - 1))) + r10754).toNat) 1) 376 8 = mq10781 376 8 := rfl
              have tb10797 := hTq10781.atp 376 8 ((-1)) 320 rfl
              have em10798 : mu (yup mq10781 393 (((0 + (8 * ((m 383 0) - 1))) + r10754).toNat) 1) = mu mq10781 := mu_fr (yup_na (by decide)) (yup_na (by decide)) (yup_na (by decide))
              refine y_callIB 151 [.ref 376, yI 59] [] c122_148 rfl rfl rfl rfl rfl (ycanO km118 ko376) (t118 hT10788 (by omega) (by omega)) (fun rq10790 mq10790 nq10790 hq10790 => ?_)
              obtain ⟨rfl, hTq10790, hFq10790, hq10790⟩ := hq10790
              have x1q10790 : mq10790 376 1 = m 376 1 := ((hFq10790 376 1 rfl).trans ((yup_na (by decide)).trans ((hFq10781 376 1 rfl).trans (hFq10666 376 1 rfl))))
              have hF10799 := hF10789.tr hFq10790 wNw_wFm0
              refine y_if 155 154 c122_151 rfl rfl (yz_ne (by omega)) (fun hb10800 => ?_) (fun hb10800 => ?_)
              · have es10801 : mq10790 376 1 = m 376 1 := ((hFq10790 376 1 rfl).trans ((yup_na (by decide)).trans ((hFq10781 376 1 rfl).trans (hFq10666 376 1 rfl))))
                have tb10802 := hTq10790.atp 376 3 0 3 rfl
                have tb10803 := hTq10790.atp 376 6 0 320 rfl
                have tb10804 := hTq10790.atp 376 8 ((-1)) 320 rfl
                exact y_retU c122_155 ⟨rfl, hTq10790, hF10799, by omega, by omega⟩
              · have es10805 : mq10790 376 1 = m 376 1 := ((hFq10790 376 1 rfl).trans ((yup_na (by decide)).trans ((hFq10781 376 1 rfl).trans (hFq10666 376 1 rfl))))
                have tb10806 := hTq10790.atp 376 3 0 3 rfl
                have tb10807 := hTq10790.atp 376 6 0 320 rfl
                have tb10808 := hTq10790.atp 376 8 ((-1)) 320 rfl
                exact y_retU c122_154 ⟨rfl, hTq10790, hF10799, by omega, by omega⟩
            · exfalso; omega
          · have es10809 : mq10781 376 1 = m 376 1 := ((hFq10781 376 1 rfl).trans (hFq10666 376 1 rfl))
            have tb10810 := hTq10781.atp 376 3 0 3 rfl
            have tb10811 := hTq10781.atp 376 6 0 320 rfl
            have tb10812 := hTq10781.atp 376 8 ((-1)) 320 rfl
            exact y_retU c122_93 ⟨rfl, hTq10781, hF10785, by omega, by omega⟩
        · refine y_aload 61 c122_60 rfl rfl rfl ?_
          refine y_getR 64 c122_61 rfl kf376_22 ?_
          refine y_iload 65 c122_64 rfl rfl ?_
          refine y_iaX 66 (m 385 0) c122_65 rfl ka385 (by decide) (hFq10666 385 0 rfl) ?_
          refine y_iconst 68 c122_66 rfl ?_
          refine y_icmp 75 71 c122_68 rfl rfl (yc_ge (by omega) (by omega)) (fun hb10813 => ?_) (fun hb10813 => ?_)
          · refine y_iconst 76 c122_75 rfl ?_
            refine y_istore 78 c122_76 rfl rfl ?_
            refine y_aload 79 c122_78 rfl rfl rfl ?_
            refine y_getX 82 (mq10666 376 4) c122_79 rfl kf376_4 rfl ?_
            refine y_istore 84 c122_82 rfl rfl ?_
            refine y_aload 85 c122_84 rfl rfl rfl ?_
            refine y_iload 87 c122_85 rfl rfl ?_
            have es10815 : mq10666 376 1 = m 376 1 := (hFq10666 376 1 rfl)
            have tb10816 := hTq10666.atp 376 6 0 320 rfl
            have es10817 : mq10666 376 8 = m 376 8 := (hFq10666 376 8 rfl)
            refine y_callIB 90 [.ref 376, yI 0] [] c122_87 rfl rfl rfl rfl rfl (ycanO km105 ko376) (t105 (g := 0) hTq10666 (by omega) (by omega)) (fun rq10814 mq10814 nq10814 hq10814 => ?_)
            obtain ⟨rfl, hTq10814, hFq10814, hq10814⟩ := hq10814
            have x1q10814 : mq10814 376 1 = m 376 1 := ((hFq10814 376 1 rfl).trans (hFq10666 376 1 rfl))
            have hF10818 := hF10671.tr hFq10814 wNw_wFm0
            refine y_if 94 93 c122_90 rfl rfl (yz_ne (by omega)) (fun hb10819 => ?_) (fun hb10819 => ?_)
            · exfalso; omega
            · have es10820 : mq10814 376 1 = m 376 1 := ((hFq10814 376 1 rfl).trans (hFq10666 376 1 rfl))
              have tb10821 := hTq10814.atp 376 3 0 3 rfl
              have tb10822 := hTq10814.atp 376 6 0 320 rfl
              have tb10823 := hTq10814.atp 376 8 ((-1)) 320 rfl
              exact y_retU c122_93 ⟨rfl, hTq10814, hF10818, by omega, by omega⟩
          · refine y_iconst 72 c122_71 rfl ?_
            refine y_goto 76 c122_72 rfl ?_
            refine y_istore 78 c122_76 rfl rfl ?_
            refine y_aload 79 c122_78 rfl rfl rfl ?_
            refine y_getX 82 (mq10666 376 4) c122_79 rfl kf376_4 rfl ?_
            refine y_istore 84 c122_82 rfl rfl ?_
            refine y_aload 85 c122_84 rfl rfl rfl ?_
            refine y_iload 87 c122_85 rfl rfl ?_
            have es10825 : mq10666 376 1 = m 376 1 := (hFq10666 376 1 rfl)
            have tb10826 := hTq10666.atp 376 6 0 320 rfl
            have es10827 : mq10666 376 8 = m 376 8 := (hFq10666 376 8 rfl)
            refine y_callIB 90 [.ref 376, yI 1] [] c122_87 rfl rfl rfl rfl rfl (ycanO km105 ko376) (t105 (g := 1) hTq10666 (by omega) (by omega)) (fun rq10824 mq10824 nq10824 hq10824 => ?_)
            obtain ⟨rfl, hTq10824, hFq10824, hq10824⟩ := hq10824
            have x1q10824 : mq10824 376 1 = m 376 1 := ((hFq10824 376 1 rfl).trans (hFq10666 376 1 rfl))
            have hF10828 := hF10671.tr hFq10824 wNw_wFm0
            refine y_if 94 93 c122_90 rfl rfl (yz_ne (by omega)) (fun hb10829 => ?_) (fun hb10829 => ?_)
            · refine y_iload 95 c122_94 rfl rfl ?_
              refine y_if 128 98 c122_95 rfl rfl (yz_ge (by omega)) (fun hb10830 => ?_) (fun hb10830 => ?_)
              · exfalso; omega
              · refine y_aload 99 c122_98 rfl rfl rfl ?_
                refine y_getR 102 c122_99 rfl kf376_22 ?_
                refine y_iload 103 c122_102 rfl rfl ?_
                refine y_iaX 104 (m 385 0) c122_103 rfl ka385 (by decide) ((hFq10824 385 0 rfl).trans (hFq10666 385 0 rfl)) ?_
                refine y_istore 105 c122_104 rfl rfl ?_
                refine y_aload 106 c122_105 rfl rfl rfl ?_
                refine y_getR 109 c122_106 rfl kf376_31 ?_
                refine y_iconst 111 c122_109 rfl ?_
                refine y_iload 112 c122_111 rfl rfl ?_
                refine y_imul 113 c122_112 rfl ?_
                refine y_top 0 (by decide) ?_
                refine y_iload 114 c122_113 rfl rfl ?_
                refine y_iadd 115 c122_114 rfl ?_
                refine y_iload 117 c122_115 rfl rfl ?_
                refine y_iastore 118 c122_117 rfl ka394 (by omega) (y_nar0 _) ?_
                have hT10831 := hTq10824.up 394 ((0 + (m 385 0)).toNat) (mq10666 376 4) ((-2147483648)) 2147483647 rfl (by omega)
                have hF10832 := hF10828.up 394 ((0 + (m 385 0)).toNat) (mq10666 376 4) (wFm0_394 (by omega))
                refine y_aload 119 c122_118 rfl rfl rfl ?_
                refine y_getR 122 c122_119 rfl kf376_22 ?_
                refine y_iload 123 c122_122 rfl rfl ?_
                refine y_dup2 124 c122_123 rfl ⟨rfl, rfl⟩ ?_
                refine y_iaX 125 (m 385 0) c122_124 rfl ka385 (by decide) ((yup_na (by decide)).trans ((hFq10824 385 0 rfl).trans (hFq10666 385 0 rfl))) ?_
                refine y_iconst 126 c122_125 rfl ?_
                refine y_iadd 127 c122_126 rfl ?_
                refine y_iastore 128 c122_127 rfl ka385 (by omega) (y_nar0 _) ?_
                have hT10833 := hT10831.up 385 ((0 : Int).toNat) ((m 385 0) + 1) 0 8 rfl (by omega)
                have hF10834 := hF10832.up 385 ((0 : Int).toNat) ((m 385 0) + 1) rfl
                refine y_aload 129 c122_128 rfl rfl rfl ?_
                refine y_getR 132 c122_129 rfl kf376_30 ?_
                refine y_iconst 134 c122_132 rfl ?_
                refine y_iload 135 c122_134 rfl rfl ?_
                refine y_imul 136 c122_135 rfl ?_
                refine y_top 0 (by decide) ?_
                refine y_iconst 138 c122_136 rfl ?_
                refine y_iload 139 c122_138 rfl rfl ?_
                refine y_imul 140 c122_139 rfl ?_
                refine y_iadd 141 c122_140 rfl ?_
                refine y_iload 142 c122_141 rfl rfl ?_
                refine y_iadd 143 c122_142 rfl ?_
                refine y_iconst 144 c122_143 rfl ?_
                refine y_iastore 145 c122_144 rfl ka393 (by omega) (y_nar1 (by omega)) ?_
                have hT10835 := hT10833.up 393 (((0 + (8 * ((m 383 0) - 1))) + (m 385 0)).toNat) 1 0 1 rfl (by omega)
                have hF10836 := hF10834.up 393 (((0 + (8 * ((m 383 0) - 1))) + (m 385 0)).toNat) 1 (wFm0_393 (by omega))
                refine y_aload 146 c122_145 rfl rfl rfl ?_
                refine y_iconst 148 c122_146 rfl ?_
                have es10838 : (yup (yup (yup mq10824 394 ((0 + (m 385 0)).toNat) (mq10666 376 4)) 385 ((0 : Int).toNat) ((m 385 0) + 1)) 393 (((0 + (8 * ((m 383 0) - 1))) + (m 385 0)).toNat) 1) 376 1 = m 376 1 := ((yup_na (by decide)).trans ((yup_na (by decide)).trans ((yup_na (by decide)).trans ((hFq10824 376 1 rfl).trans (hFq10666 376 1 rfl)))))
                have es10839 : (yup (yup (yup mq10824 394 ((0 + (m 385 0)).toNat) (mq10666 376 4)) 385 ((0 : Int).toNat) ((m 385 0) + 1)) 393 (((0 + (8 * ((m 383 0) - 1))) + (m 385 0)).toNat) 1) 376 3 = mq10824 376 3 := rfl
                have tb10840 := hTq10824.atp 376 3 0 3 rfl
                have es10841 : (yup (yup (yup mq10824 394 ((0 + (m 385 0)).toNat) (mq10666 376 4)) 385 ((0 : Int).toNat) ((m 385 0) + 1)) 393 (((0 + (8 * ((m 383 0) - 1))) + (m 385 0)).toNat) 1) 376 6 = mq10824 376 6 := rfl
                have tb10842 := hTq10824.atp 376 6 0 320 rfl
                have es10843 : (yup (yup (yup mq10824 394 ((0 + (m 385 0)).toNat) (mq10666 376 4)) 385 ((0 : Int).toNat) ((m 385 0) + 1)) 393 (((0 + (8 * ((m 383 0) - 1))) + (m 385 0)).toNat) 1) 376 8 = mq10824 376 8 := rfl
                have tb10844 := hTq10824.atp 376 8 ((-1)) 320 rfl
                have em10845 : mu (yup (yup (yup mq10824 394 ((0 + (m 385 0)).toNat) (mq10666 376 4)) 385 ((0 : Int).toNat) ((m 385 0) + 1)) 393 (((0 + (8 * ((m 383 0) - 1))) + (m 385 0)).toNat) 1) = mu mq10824 := mu_fr ((yup_na (by decide)).trans ((yup_na (by decide)).trans (yup_na (by decide)))) ((yup_na (by decide)).trans ((yup_na (by decide)).trans (yup_na (by decide)))) ((yup_na (by decide)).trans ((yup_na (by decide)).trans (yup_na (by decide))))
                refine y_callIB 151 [.ref 376, yI 59] [] c122_148 rfl rfl rfl rfl rfl (ycanO km118 ko376) (t118 hT10835 (by omega) (by omega)) (fun rq10837 mq10837 nq10837 hq10837 => ?_)
                obtain ⟨rfl, hTq10837, hFq10837, hq10837⟩ := hq10837
                have x1q10837 : mq10837 376 1 = m 376 1 := ((hFq10837 376 1 rfl).trans ((yup_na (by decide)).trans ((yup_na (by decide)).trans ((yup_na (by decide)).trans ((hFq10824 376 1 rfl).trans (hFq10666 376 1 rfl))))))
                have hF10846 := hF10836.tr hFq10837 wNw_wFm0
                refine y_if 155 154 c122_151 rfl rfl (yz_ne (by omega)) (fun hb10847 => ?_) (fun hb10847 => ?_)
                · have es10848 : mq10837 376 1 = m 376 1 := ((hFq10837 376 1 rfl).trans ((yup_na (by decide)).trans ((yup_na (by decide)).trans ((yup_na (by decide)).trans ((hFq10824 376 1 rfl).trans (hFq10666 376 1 rfl))))))
                  have tb10849 := hTq10837.atp 376 3 0 3 rfl
                  have tb10850 := hTq10837.atp 376 6 0 320 rfl
                  have tb10851 := hTq10837.atp 376 8 ((-1)) 320 rfl
                  exact y_retU c122_155 ⟨rfl, hTq10837, hF10846, by omega, by omega⟩
                · have es10852 : mq10837 376 1 = m 376 1 := ((hFq10837 376 1 rfl).trans ((yup_na (by decide)).trans ((yup_na (by decide)).trans ((yup_na (by decide)).trans ((hFq10824 376 1 rfl).trans (hFq10666 376 1 rfl))))))
                  have tb10853 := hTq10837.atp 376 3 0 3 rfl
                  have tb10854 := hTq10837.atp 376 6 0 320 rfl
                  have tb10855 := hTq10837.atp 376 8 ((-1)) 320 rfl
                  exact y_retU c122_154 ⟨rfl, hTq10837, hF10846, by omega, by omega⟩
            · have es10856 : mq10824 376 1 = m 376 1 := ((hFq10824 376 1 rfl).trans (hFq10666 376 1 rfl))
              have tb10857 := hTq10824.atp 376 3 0 3 rfl
              have tb10858 := hTq10824.atp 376 6 0 320 rfl
              have tb10859 := hTq10824.atp 376 8 ((-1)) 320 rfl
              exact y_retU c122_93 ⟨rfl, hTq10824, hF10828, by omega, by omega⟩
def wOw1 (a q : Nat) : Bool := a == 393 && decide (48 ≤ q ∧ q < 96)
theorem wOw1_393 {q : Nat} (h : 48 ≤ q ∧ q < 96) : wOw1 393 q = true := by
  simp [wOw1]
  omega
def wHm1 (a q : Nat) : Bool := (a == 376 && (decide (3 ≤ q) && decide (q ≤ 8))) || (a == 383 && q == 1) || ((a == 391 || a == 392) && decide (6 ≤ q ∧ q < 12)) || (a == 393 && decide (48 ≤ q ∧ q < 96))
theorem wNx_wHm1 : ∀ a q, wNx a q = true → wHm1 a q = true := by
  intro a q h
  simp [wNx] at h
  simp [wHm1]
  omega
theorem wWr_wHm1 : ∀ a q, wWr a q = true → wHm1 a q = true := by
  intro a q h
  simp [wWr] at h
  simp [wHm1]
  omega
theorem wNw_wHm1 : ∀ a q, wNw a q = true → wHm1 a q = true := by
  intro a q h
  simp [wNw] at h
  simp [wHm1]
  omega
theorem wOw1_wHm1 : ∀ a q, wOw1 a q = true → wHm1 a q = true := by
  intro a q h
  simp [wOw1] at h
  simp [wHm1]
  omega
theorem wHm1_391 {q : Nat} (h : 6 ≤ q ∧ q < 12) : wHm1 391 q = true := by
  simp [wHm1]
  omega
theorem wHm1_392 {q : Nat} (h : 6 ≤ q ∧ q < 12) : wHm1 392 q = true := by
  simp [wHm1]
  omega
theorem wHm1_393 {q : Nat} (h : 48 ≤ q ∧ q < 96) : wHm1 393 q = true := by
  simp [wHm1]
  omega
def wFm1 (a q : Nat) : Bool := (a == 376 && (decide (3 ≤ q) && decide (q ≤ 8))) || (a == 385 && q == 1) || (a == 394 && decide (8 ≤ q ∧ q < 16)) || (a == 393 && decide (48 ≤ q ∧ q < 96))
theorem wNx_wFm1 : ∀ a q, wNx a q = true → wFm1 a q = true := by
  intro a q h
  simp [wNx] at h
  simp [wFm1]
  omega
theorem wWr_wFm1 : ∀ a q, wWr a q = true → wFm1 a q = true := by
  intro a q h
  simp [wWr] at h
  simp [wFm1]
  omega
theorem wNw_wFm1 : ∀ a q, wNw a q = true → wFm1 a q = true := by
  intro a q h
  simp [wNw] at h
  simp [wFm1]
  omega
theorem wFm1_394 {q : Nat} (h : 8 ≤ q ∧ q < 16) : wFm1 394 q = true := by
  simp [wFm1]
  omega
theorem wFm1_393 {q : Nat} (h : 48 ≤ q ∧ q < 96) : wFm1 393 q = true := by
  simp [wFm1]
  omega
def wPz1 (a q : Nat) : Bool := (a == 376 && (decide (3 ≤ q) && decide (q ≤ 8))) || (a == 389 && q == 1) || a == 380 || (a == 397 && decide (10 ≤ q ∧ q < 20))
theorem wNx_wPz1 : ∀ a q, wNx a q = true → wPz1 a q = true := by
  intro a q h
  simp [wNx] at h
  simp [wPz1]
  omega
theorem wWr_wPz1 : ∀ a q, wWr a q = true → wPz1 a q = true := by
  intro a q h
  simp [wWr] at h
  simp [wPz1]
  omega
theorem wNw_wPz1 : ∀ a q, wNw a q = true → wPz1 a q = true := by
  intro a q h
  simp [wNw] at h
  simp [wPz1]
  omega
theorem wVp1_wPz1 : ∀ a q, wVp1 a q = true → wPz1 a q = true := by
  intro a q h
  simp [wVp1] at h
  simp [wPz1]
  omega
theorem wVr1_wPz1 : ∀ a q, wVr1 a q = true → wPz1 a q = true := by
  intro a q h
  simp [wVr1] at h
  simp [wPz1]
  omega
theorem wPz1_397 {q : Nat} (h : 10 ≤ q ∧ q < 20) : wPz1 397 q = true := by
  simp [wPz1]
  omega
def wMh1 (a q : Nat) : Bool := (a == 376 && (decide (3 ≤ q) && decide (q ≤ 8))) || (a == 389 && q == 1) || a == 380 || (a == 384 && q == 1) || (a == 376 && q == 14) || (decide (395 ≤ a ∧ a ≤ 399) && decide (10 ≤ q ∧ q < 20))
theorem wNx_wMh1 : ∀ a q, wNx a q = true → wMh1 a q = true := by
  intro a q h
  simp [wNx] at h
  simp [wMh1]
  omega
theorem wWr_wMh1 : ∀ a q, wWr a q = true → wMh1 a q = true := by
  intro a q h
  simp [wWr] at h
  simp [wMh1]
  omega
theorem wNw_wMh1 : ∀ a q, wNw a q = true → wMh1 a q = true := by
  intro a q h
  simp [wNw] at h
  simp [wMh1]
  omega
theorem wVp1_wMh1 : ∀ a q, wVp1 a q = true → wMh1 a q = true := by
  intro a q h
  simp [wVp1] at h
  simp [wMh1]
  omega
theorem wVr1_wMh1 : ∀ a q, wVr1 a q = true → wMh1 a q = true := by
  intro a q h
  simp [wVr1] at h
  simp [wMh1]
  omega
theorem wPz1_wMh1 : ∀ a q, wPz1 a q = true → wMh1 a q = true := by
  intro a q h
  simp [wPz1] at h
  simp [wMh1]
  omega
theorem wMh1_395 {q : Nat} (h : 10 ≤ q ∧ q < 20) : wMh1 395 q = true := by
  simp [wMh1]
  omega
theorem wMh1_396 {q : Nat} (h : 10 ≤ q ∧ q < 20) : wMh1 396 q = true := by
  simp [wMh1]
  omega
theorem wMh1_397 {q : Nat} (h : 10 ≤ q ∧ q < 20) : wMh1 397 q = true := by
  simp [wMh1]
  omega
theorem wMh1_398 {q : Nat} (h : 10 ≤ q ∧ q < 20) : wMh1 398 q = true := by
  simp [wMh1]
  omega
theorem wMh1_399 {q : Nat} (h : 10 ≤ q ∧ q < 20) : wMh1 399 q = true := by
  simp [wMh1]
  omega
theorem wHm1_C : ∀ a q, vXc 1 a q = true → a ≠ 392 → a ≠ 383 → wHm1 a q = false := by
  intro a q h h1 h2
  cases e : wHm1 a q with
  | false => rfl
  | true => simp [wHm1] at e; simp [vXc] at h; omega
theorem wFm1_C : ∀ a q, vXc 1 a q = true → wFm1 a q = false := by
  intro a q h
  cases e : wFm1 a q with
  | false => rfl
  | true => simp [wFm1] at e; simp [vXc] at h; omega
theorem wMh1_C : ∀ a q, vXc 1 a q = true → a ≠ 384 → a ≠ 397 → a ≠ 398 → a ≠ 399 → wMh1 a q = false := by
  intro a q h h1 h2 h3 h4
  cases e : wMh1 a q with
  | false => rfl
  | true => simp [wMh1] at e; simp [vXc] at h; omega
set_option maxRecDepth 100000 in
theorem t119b_1 {L : Nat} {xs : Nat → Int32} {d nn : Nat} {m : yM} {Q : xO → yM → Nat → Prop} {y2 y3 : Option Value} {u : Int} (hT : Ty gT m) (hc : m 383 1 ≤ 5) (ho : ∀ (x5 : Option Value) (mi : yM), Ty gT mi → Fr wOw1 m mi → YW (gZ L xs) 119 (d + 6) 197 [some (.ref 376), some (yI 1), y2, y3, some (yI u), x5] [] mi nn Q) : ∀ (km : Nat) (f : Int) (mi : yM), 8 - f = km → 0 ≤ f ∧ f ≤ 8 → Ty gT mi → Fr wOw1 m mi → YW (gZ L xs) 119 (d + 6) 161 [some (.ref 376), some (yI 1), y2, y3, some (yI u), some (yI f)] [] mi nn (Q) := by
  intro km
  induction km using Nat.strongRecOn with
  | ind km ih =>
    intro f mi hk hf hTi hFi
    have tc := hT.atp 383 1 0 6 rfl
    refine y_iload 163 c119_161 rfl rfl ?_
    refine y_iconst 165 c119_163 rfl ?_
    refine y_icmp 197 168 c119_165 rfl rfl (yc_ge (by omega) (by omega)) (fun hb11051 => ?_) (fun hb11051 => ?_)
    · exact ho _ _ hTi hFi
    · refine y_aload 169 c119_168 rfl rfl rfl ?_
      refine y_getR 172 c119_169 rfl kf376_30 ?_
      refine y_iconst 174 c119_172 rfl ?_
      refine y_iload 175 c119_174 rfl rfl ?_
      refine y_imul 176 c119_175 rfl ?_
      refine y_top 48 (by decide) ?_
      refine y_iconst 178 c119_176 rfl ?_
      refine y_aload 179 c119_178 rfl rfl rfl ?_
      refine y_getR 182 c119_179 rfl kf376_20 ?_
      refine y_iload 183 c119_182 rfl rfl ?_
      refine y_iaX 184 (m 383 1) c119_183 rfl ka383 (by decide) (hFi 383 1 rfl) ?_
      refine y_imul 185 c119_184 rfl ?_
      refine y_iadd 186 c119_185 rfl ?_
      refine y_iload 188 c119_186 rfl rfl ?_
      refine y_iadd 189 c119_188 rfl ?_
      refine y_iconst 190 c119_189 rfl ?_
      refine y_iastore 191 c119_190 rfl ka393 (by omega) (y_nar1 (by omega)) ?_
      have hT11052 := hTi.up 393 (((48 + (8 * (m 383 1))) + f).toNat) 0 0 1 rfl (by omega)
      have hF11053 := hFi.up 393 (((48 + (8 * (m 383 1))) + f).toNat) 0 (wOw1_393 (by omega))
      refine y_iinc 194 c119_191 rfl rfl rfl ?_
      refine y_goto 161 c119_194 rfl ?_
      exact ih (8 - (f + 1) : Int).toNat (by omega) (f + 1)  _ (by omega) (by omega) hT11052 hF11053
set_option maxRecDepth 100000 in
theorem t119_1 {L : Nat} {xs : Nat → Int32} {d nn : Nat} {m : yM} (hT : Ty gT m) (hl : m 376 6 ≤ m 376 1) (hn : m 376 18 = 0) (h8 : m 376 8 < 0) (hC : XD 1 m) : YC (gZ L xs) (d + 6) 119 [.ref 376] m nn (qU (fun m' n' => n' = nn ∧ Ty gT m' ∧ Fr wHm1 m m' ∧ m' 376 6 ≤ m' 376 1 ∧ (0 ≤ m' 376 8 ∨ (m' 376 8 < 0 ∧ mu m' < mu m ∧ 1 ≤ m' 383 1 ∧ XD 1 m')))) := by
  have tb8 := hT.atp 376 8 (-1) 320 rfl
  have tc383 := hT.atp 383 1 0 6 rfl
  have tc384 := hT.atp 384 1 0 10 rfl
  have tc385 := hT.atp 385 1 0 8 rfl
  have tc389 := hT.atp 389 1 0 48 rfl
  have tc390 := hT.atp 390 1 0 125 rfl
  refine YC.mkB [some (.ref 376), none, none, none, none, none] kn119 rfl rfl ?_
  have hF : Fr wHm1 m m := Fr.rf
  refine y_aload 1 c119_0 rfl rfl rfl ?_
  have tb11055 := hT.atp 376 18 0 1 rfl
  refine y_callP 4 [.ref 376] [] c119_1 rfl rfl rfl rfl rfl (ycanO km96 ko376) (t96_1 (by omega)) (fun r11054 hr11054 => ?_)
  subst hr11054
  refine y_istore 5 c119_4 rfl rfl ?_
  refine y_aload 6 c119_5 rfl rfl rfl ?_
  refine y_aload 7 c119_6 rfl rfl rfl ?_
  have tb11056 := hT.atp 376 3 0 3 rfl
  refine y_callP 10 [.ref 376] [.ref 376] c119_7 rfl rfl rfl rfl rfl (ycanO km103 ko376) (t103 hT) (fun r11057 hr11057 => ?_)
  have tb11059 := hT.atp 376 1 0 320 rfl
  have tb11060 := hT.atp 376 6 0 320 rfl
  have tb11061 := hT.atp 376 8 ((-1)) 320 rfl
  refine y_callIB 13 [.ref 376, yI r11057] [] c119_10 rfl rfl rfl rfl rfl (ycanO km105 ko376) (t105 (g := r11057) hT (by omega) (by omega)) (fun rq11058 mq11058 nq11058 hq11058 => ?_)
  obtain ⟨rfl, hTq11058, hFq11058, hq11058⟩ := hq11058
  have x1q11058 : mq11058 376 1 = m 376 1 := (hFq11058 376 1 rfl)
  have hF11062 := hF.tr hFq11058 wNw_wHm1
  refine y_if 17 16 c119_13 rfl rfl (yz_ne (by omega)) (fun hb11063 => ?_) (fun hb11063 => ?_)
  · refine y_aload 18 c119_17 rfl rfl rfl ?_
    have tb11064 := hTq11058.atp 376 3 0 3 rfl
    refine y_callP 21 [.ref 376] [] c119_18 rfl rfl rfl rfl rfl (ycanO km115 ko376) (t115 hTq11058) (fun r11065 hr11065 => ?_)
    refine y_if 51 24 c119_21 rfl rfl (yz_eq (by omega)) (fun hb11066 => ?_) (fun hb11066 => ?_)
    · refine y_iconst 52 c119_51 rfl ?_
      refine y_istore 53 c119_52 rfl rfl ?_
      refine y_aload 54 c119_53 rfl rfl rfl ?_
      refine y_getX 57 (mq11058 376 4) c119_54 rfl kf376_4 rfl ?_
      have tb11067 := hTq11058.atp 376 4 ((-2147483648)) 2147483647 rfl
      refine y_istore 58 c119_57 rfl rfl ?_
      refine y_aload 59 c119_58 rfl rfl rfl ?_
      refine y_iload 60 c119_59 rfl rfl ?_
      have es11069 : mq11058 376 1 = m 376 1 := (hFq11058 376 1 rfl)
      have tb11070 := hTq11058.atp 376 6 0 320 rfl
      have tb11071 := hTq11058.atp 376 8 ((-1)) 320 rfl
      refine y_callIB 63 [.ref 376, yI 0] [] c119_60 rfl rfl rfl rfl rfl (ycanO km105 ko376) (t105 (g := 0) hTq11058 (by omega) (by omega)) (fun rq11068 mq11068 nq11068 hq11068 => ?_)
      obtain ⟨rfl, hTq11068, hFq11068, hq11068⟩ := hq11068
      have x1q11068 : mq11068 376 1 = m 376 1 := ((hFq11068 376 1 rfl).trans (hFq11058 376 1 rfl))
      have hF11072 := hF11062.tr hFq11068 wNw_wHm1
      refine y_if 67 66 c119_63 rfl rfl (yz_ne (by omega)) (fun hb11073 => ?_) (fun hb11073 => ?_)
      · exfalso; omega
      · have es11074 : mq11068 376 1 = m 376 1 := ((hFq11068 376 1 rfl).trans (hFq11058 376 1 rfl))
        have tb11075 := hTq11068.atp 376 3 0 3 rfl
        have tb11076 := hTq11068.atp 376 6 0 320 rfl
        have tb11077 := hTq11068.atp 376 8 ((-1)) 320 rfl
        have es11078 : mq11068 383 1 = m 383 1 := ((hFq11068 383 1 rfl).trans (hFq11058 383 1 rfl))
        exact y_retU c119_66 ⟨rfl, hTq11068, hF11072, by omega, Or.inl (by omega)⟩
    · refine y_aload 25 c119_24 rfl rfl rfl ?_
      refine y_getR 28 c119_25 rfl kf376_20 ?_
      refine y_iload 29 c119_28 rfl rfl ?_
      refine y_iaX 30 (m 383 1) c119_29 rfl ka383 (by decide) (hFq11058 383 1 rfl) ?_
      refine y_iconst 32 c119_30 rfl ?_
      refine y_icmp 51 35 c119_32 rfl rfl (yc_ge (by omega) (by omega)) (fun hb11079 => ?_) (fun hb11079 => ?_)
      · refine y_iconst 52 c119_51 rfl ?_
        refine y_istore 53 c119_52 rfl rfl ?_
        refine y_aload 54 c119_53 rfl rfl rfl ?_
        refine y_getX 57 (mq11058 376 4) c119_54 rfl kf376_4 rfl ?_
        have tb11080 := hTq11058.atp 376 4 ((-2147483648)) 2147483647 rfl
        refine y_istore 58 c119_57 rfl rfl ?_
        refine y_aload 59 c119_58 rfl rfl rfl ?_
        refine y_iload 60 c119_59 rfl rfl ?_
        have es11082 : mq11058 376 1 = m 376 1 := (hFq11058 376 1 rfl)
        have tb11083 := hTq11058.atp 376 6 0 320 rfl
        have tb11084 := hTq11058.atp 376 8 ((-1)) 320 rfl
        refine y_callIB 63 [.ref 376, yI 0] [] c119_60 rfl rfl rfl rfl rfl (ycanO km105 ko376) (t105 (g := 0) hTq11058 (by omega) (by omega)) (fun rq11081 mq11081 nq11081 hq11081 => ?_)
        obtain ⟨rfl, hTq11081, hFq11081, hq11081⟩ := hq11081
        have x1q11081 : mq11081 376 1 = m 376 1 := ((hFq11081 376 1 rfl).trans (hFq11058 376 1 rfl))
        have hF11085 := hF11062.tr hFq11081 wNw_wHm1
        refine y_if 67 66 c119_63 rfl rfl (yz_ne (by omega)) (fun hb11086 => ?_) (fun hb11086 => ?_)
        · exfalso; omega
        · have es11087 : mq11081 376 1 = m 376 1 := ((hFq11081 376 1 rfl).trans (hFq11058 376 1 rfl))
          have tb11088 := hTq11081.atp 376 3 0 3 rfl
          have tb11089 := hTq11081.atp 376 6 0 320 rfl
          have tb11090 := hTq11081.atp 376 8 ((-1)) 320 rfl
          have es11091 : mq11081 383 1 = m 383 1 := ((hFq11081 383 1 rfl).trans (hFq11058 383 1 rfl))
          exact y_retU c119_66 ⟨rfl, hTq11081, hF11085, by omega, Or.inl (by omega)⟩
      · refine y_aload 36 c119_35 rfl rfl rfl ?_
        refine y_iload 37 c119_36 rfl rfl ?_
        refine y_aload 38 c119_37 rfl rfl rfl ?_
        refine y_getX 41 (mq11058 376 4) c119_38 rfl kf376_4 rfl ?_
        have tb11092 := hTq11058.atp 376 4 ((-2147483648)) 2147483647 rfl
        have es11093 : mq11058 383 1 = m 383 1 := (hFq11058 383 1 rfl)
        refine y_callP 44 [.ref 376, yI 1, yI (mq11058 376 4)] [] c119_41 rfl rfl rfl rfl rfl (ycanO km116 ko376) (t116_1 hTq11058 (by omega)) (fun r11094 hr11094 => ?_)
        refine y_if 51 47 c119_44 rfl rfl (yz_ge (by omega)) (fun hb11095 => ?_) (fun hb11095 => ?_)
        · refine y_iconst 52 c119_51 rfl ?_
          refine y_istore 53 c119_52 rfl rfl ?_
          refine y_aload 54 c119_53 rfl rfl rfl ?_
          refine y_getX 57 (mq11058 376 4) c119_54 rfl kf376_4 rfl ?_
          refine y_istore 58 c119_57 rfl rfl ?_
          refine y_aload 59 c119_58 rfl rfl rfl ?_
          refine y_iload 60 c119_59 rfl rfl ?_
          have es11097 : mq11058 376 1 = m 376 1 := (hFq11058 376 1 rfl)
          have tb11098 := hTq11058.atp 376 6 0 320 rfl
          have tb11099 := hTq11058.atp 376 8 ((-1)) 320 rfl
          refine y_callIB 63 [.ref 376, yI 0] [] c119_60 rfl rfl rfl rfl rfl (ycanO km105 ko376) (t105 (g := 0) hTq11058 (by omega) (by omega)) (fun rq11096 mq11096 nq11096 hq11096 => ?_)
          obtain ⟨rfl, hTq11096, hFq11096, hq11096⟩ := hq11096
          have x1q11096 : mq11096 376 1 = m 376 1 := ((hFq11096 376 1 rfl).trans (hFq11058 376 1 rfl))
          have hF11100 := hF11062.tr hFq11096 wNw_wHm1
          refine y_if 67 66 c119_63 rfl rfl (yz_ne (by omega)) (fun hb11101 => ?_) (fun hb11101 => ?_)
          · exfalso; omega
          · have es11102 : mq11096 376 1 = m 376 1 := ((hFq11096 376 1 rfl).trans (hFq11058 376 1 rfl))
            have tb11103 := hTq11096.atp 376 3 0 3 rfl
            have tb11104 := hTq11096.atp 376 6 0 320 rfl
            have tb11105 := hTq11096.atp 376 8 ((-1)) 320 rfl
            have es11106 : mq11096 383 1 = m 383 1 := ((hFq11096 383 1 rfl).trans (hFq11058 383 1 rfl))
            exact y_retU c119_66 ⟨rfl, hTq11096, hF11100, by omega, Or.inl (by omega)⟩
        · refine y_iconst 48 c119_47 rfl ?_
          refine y_goto 52 c119_48 rfl ?_
          refine y_istore 53 c119_52 rfl rfl ?_
          refine y_aload 54 c119_53 rfl rfl rfl ?_
          refine y_getX 57 (mq11058 376 4) c119_54 rfl kf376_4 rfl ?_
          refine y_istore 58 c119_57 rfl rfl ?_
          refine y_aload 59 c119_58 rfl rfl rfl ?_
          refine y_iload 60 c119_59 rfl rfl ?_
          have es11108 : mq11058 376 1 = m 376 1 := (hFq11058 376 1 rfl)
          have tb11109 := hTq11058.atp 376 6 0 320 rfl
          have tb11110 := hTq11058.atp 376 8 ((-1)) 320 rfl
          refine y_callIB 63 [.ref 376, yI 1] [] c119_60 rfl rfl rfl rfl rfl (ycanO km105 ko376) (t105 (g := 1) hTq11058 (by omega) (by omega)) (fun rq11107 mq11107 nq11107 hq11107 => ?_)
          obtain ⟨rfl, hTq11107, hFq11107, hq11107⟩ := hq11107
          have x1q11107 : mq11107 376 1 = m 376 1 := ((hFq11107 376 1 rfl).trans (hFq11058 376 1 rfl))
          have hF11111 := hF11062.tr hFq11107 wNw_wHm1
          refine y_if 67 66 c119_63 rfl rfl (yz_ne (by omega)) (fun hb11112 => ?_) (fun hb11112 => ?_)
          · refine y_iconst 68 c119_67 rfl ?_
            refine y_istore 70 c119_68 rfl rfl ?_
            refine y_aload 71 c119_70 rfl rfl rfl ?_
            refine y_iconst 73 c119_71 rfl ?_
            have tb11113 := hTq11107.atp 376 3 0 3 rfl
            refine y_callP 76 [.ref 376, yI 58] [] c119_73 rfl rfl rfl rfl rfl (ycanO km117 ko376) (t117 hTq11107 (by omega)) (fun r11114 hr11114 => ?_)
            refine y_if 123 79 c119_76 rfl rfl (yz_eq (by omega)) (fun hb11115 => ?_) (fun hb11115 => ?_)
            · refine y_aload 124 c119_123 rfl rfl rfl ?_
              refine y_getR 127 c119_124 rfl kf376_28 ?_
              refine y_iconst 129 c119_127 rfl ?_
              refine y_iload 130 c119_129 rfl rfl ?_
              refine y_imul 131 c119_130 rfl ?_
              refine y_top 6 (by decide) ?_
              refine y_aload 132 c119_131 rfl rfl rfl ?_
              refine y_getR 135 c119_132 rfl kf376_20 ?_
              refine y_iload 136 c119_135 rfl rfl ?_
              refine y_iaX 137 (m 383 1) c119_136 rfl ka383 (by decide) ((hFq11107 383 1 rfl).trans (hFq11058 383 1 rfl)) ?_
              refine y_iadd 138 c119_137 rfl ?_
              refine y_iload 139 c119_138 rfl rfl ?_
              refine y_iastore 140 c119_139 rfl ka391 (by omega) (y_nar0 _) ?_
              have hT11116 := hTq11107.up 391 ((6 + (m 383 1)).toNat) (mq11058 376 4) ((-2147483648)) 2147483647 rfl (by omega)
              have hF11117 := hF11111.up 391 ((6 + (m 383 1)).toNat) (mq11058 376 4) (wHm1_391 (by omega))
              refine y_aload 141 c119_140 rfl rfl rfl ?_
              refine y_getR 144 c119_141 rfl kf376_29 ?_
              refine y_iconst 146 c119_144 rfl ?_
              refine y_iload 147 c119_146 rfl rfl ?_
              refine y_imul 148 c119_147 rfl ?_
              refine y_top 6 (by decide) ?_
              refine y_aload 149 c119_148 rfl rfl rfl ?_
              refine y_getR 152 c119_149 rfl kf376_20 ?_
              refine y_iload 153 c119_152 rfl rfl ?_
              refine y_iaX 154 (m 383 1) c119_153 rfl ka383 (by decide) ((yup_na (by decide)).trans ((hFq11107 383 1 rfl).trans (hFq11058 383 1 rfl))) ?_
              refine y_iadd 155 c119_154 rfl ?_
              refine y_iload 157 c119_155 rfl rfl ?_
              refine y_iastore 158 c119_157 rfl ka392 (by omega) (y_nar0 _) ?_
              have hT11118 := hT11116.up 392 ((6 + (m 383 1)).toNat) ((-1)) ((-1)) 5 rfl (by omega)
              have hF11119 := hF11117.up 392 ((6 + (m 383 1)).toNat) ((-1)) (wHm1_392 (by omega))
              refine y_iconst 159 c119_158 rfl ?_
              refine y_istore 161 c119_159 rfl rfl ?_
              have es11120 : (yup (yup mq11107 391 ((6 + (m 383 1)).toNat) (mq11058 376 4)) 392 ((6 + (m 383 1)).toNat) ((-1))) 376 1 = m 376 1 := ((yup_na (by decide)).trans ((yup_na (by decide)).trans ((hFq11107 376 1 rfl).trans (hFq11058 376 1 rfl))))
              have es11121 : (yup (yup mq11107 391 ((6 + (m 383 1)).toNat) (mq11058 376 4)) 392 ((6 + (m 383 1)).toNat) ((-1))) 376 3 = mq11107 376 3 := rfl
              have es11122 : (yup (yup mq11107 391 ((6 + (m 383 1)).toNat) (mq11058 376 4)) 392 ((6 + (m 383 1)).toNat) ((-1))) 376 6 = mq11107 376 6 := rfl
              have tb11123 := hTq11107.atp 376 6 0 320 rfl
              have es11124 : (yup (yup mq11107 391 ((6 + (m 383 1)).toNat) (mq11058 376 4)) 392 ((6 + (m 383 1)).toNat) ((-1))) 376 8 = mq11107 376 8 := rfl
              have tb11125 := hTq11107.atp 376 8 ((-1)) 320 rfl
              have es11126 : (yup (yup mq11107 391 ((6 + (m 383 1)).toNat) (mq11058 376 4)) 392 ((6 + (m 383 1)).toNat) ((-1))) 383 1 = m 383 1 := ((yup_na (by decide)).trans ((yup_na (by decide)).trans ((hFq11107 383 1 rfl).trans (hFq11058 383 1 rfl))))
              refine t119b_1 hT11118 (by omega) (fun x5 mw hTw hFw => ?_) 8 0 _ (by omega) (by omega) hT11118 Fr.rf
              have hF11127 := hF11119.tr hFw wOw1_wHm1
              refine y_aload 198 c119_197 rfl rfl rfl ?_
              refine y_getR 201 c119_198 rfl kf376_20 ?_
              refine y_iload 202 c119_201 rfl rfl ?_
              refine y_dup2 203 c119_202 rfl ⟨rfl, rfl⟩ ?_
              refine y_iaX 204 (m 383 1) c119_203 rfl ka383 (by decide) ((hFw 383 1 rfl).trans ((yup_na (by decide)).trans ((yup_na (by decide)).trans ((hFq11107 383 1 rfl).trans (hFq11058 383 1 rfl))))) ?_
              refine y_iconst 205 c119_204 rfl ?_
              refine y_iadd 206 c119_205 rfl ?_
              refine y_iastore 207 c119_206 rfl ka383 (by omega) (y_nar0 _) ?_
              have hT11128 := hTw.up 383 ((1 : Int).toNat) ((m 383 1) + 1) 0 6 rfl (by omega)
              have hF11129 := hF11127.up 383 ((1 : Int).toNat) ((m 383 1) + 1) rfl
              refine y_aload 208 c119_207 rfl rfl rfl ?_
              refine y_iconst 210 c119_208 rfl ?_
              have es11131 : (yup mw 383 ((1 : Int).toNat) ((m 383 1) + 1)) 376 1 = m 376 1 := ((yup_na (by decide)).trans ((hFw 376 1 rfl).trans ((yup_na (by decide)).trans ((yup_na (by decide)).trans ((hFq11107 376 1 rfl).trans (hFq11058 376 1 rfl))))))
              have es11132 : (yup mw 383 ((1 : Int).toNat) ((m 383 1) + 1)) 376 3 = mq11107 376 3 := ((yup_na (by decide)).trans ((hFw 376 3 rfl).trans ((yup_na (by decide)).trans (yup_na (by decide)))))
              have es11133 : (yup mw 383 ((1 : Int).toNat) ((m 383 1) + 1)) 376 6 = mq11107 376 6 := ((yup_na (by decide)).trans ((hFw 376 6 rfl).trans ((yup_na (by decide)).trans (yup_na (by decide)))))
              have es11134 : (yup mw 383 ((1 : Int).toNat) ((m 383 1) + 1)) 376 8 = mq11107 376 8 := ((yup_na (by decide)).trans ((hFw 376 8 rfl).trans ((yup_na (by decide)).trans (yup_na (by decide)))))
              have em11135 : mu (yup mw 383 ((1 : Int).toNat) ((m 383 1) + 1)) = mu mq11107 := mu_fr ((yup_na (by decide)).trans ((hFw 376 1 rfl).trans ((yup_na (by decide)).trans (yup_na (by decide))))) ((yup_na (by decide)).trans ((hFw 376 3 rfl).trans ((yup_na (by decide)).trans (yup_na (by decide))))) ((yup_na (by decide)).trans ((hFw 376 6 rfl).trans ((yup_na (by decide)).trans (yup_na (by decide)))))
              refine y_callIB 213 [.ref 376, yI 123] [] c119_210 rfl rfl rfl rfl rfl (ycanO km118 ko376) (t118 hT11128 (by omega) (by omega)) (fun rq11130 mq11130 nq11130 hq11130 => ?_)
              obtain ⟨rfl, hTq11130, hFq11130, hq11130⟩ := hq11130
              have x1q11130 : mq11130 376 1 = m 376 1 := ((hFq11130 376 1 rfl).trans ((yup_na (by decide)).trans ((hFw 376 1 rfl).trans ((yup_na (by decide)).trans ((yup_na (by decide)).trans ((hFq11107 376 1 rfl).trans (hFq11058 376 1 rfl)))))))
              have hF11136 := hF11129.tr hFq11130 wNw_wHm1
              refine y_if 217 216 c119_213 rfl rfl (yz_ne (by omega)) (fun hb11137 => ?_) (fun hb11137 => ?_)
              · have es11138 : mq11130 376 1 = m 376 1 := ((hFq11130 376 1 rfl).trans ((yup_na (by decide)).trans ((hFw 376 1 rfl).trans ((yup_na (by decide)).trans ((yup_na (by decide)).trans ((hFq11107 376 1 rfl).trans (hFq11058 376 1 rfl)))))))
                have tb11139 := hTq11130.atp 376 3 0 3 rfl
                have tb11140 := hTq11130.atp 376 6 0 320 rfl
                have tb11141 := hTq11130.atp 376 8 ((-1)) 320 rfl
                have es11142 : mq11130 383 1 = (m 383 1) + 1 := ((hFq11130 383 1 rfl).trans (yup_eq _ _ _ _))
                have hv : mq11130 392 (6 * 1 + (m 383 1).toNat) = (-1) := by rw [show 6 * 1 + (m 383 1).toNat = (6 + m 383 1).toNat by omega]; exact ((hFq11130 392 _ rfl).trans ((yup_na (by decide)).trans ((hFw 392 _ rfl).trans (yup_eq _ _ _ _))))
                have hx : XD 1 mq11130 := XD.head hC (by omega) (fun a q ha h1 h2 => hF11136 a q (wHm1_C a q ha h1 h2)) (by omega) (fun k hk => ((hFq11130 392 _ rfl).trans ((yup_na (by decide)).trans ((hFw 392 _ rfl).trans ((yup_nk (by omega)).trans ((yup_na (by decide)).trans ((hFq11107 392 _ rfl).trans (hFq11058 392 _ rfl)))))))) (by omega)
                exact y_retU c119_217 ⟨rfl, hTq11130, hF11136, by omega, Or.inr ⟨by omega, by omega, by omega, hx⟩⟩
              · have es11143 : mq11130 376 1 = m 376 1 := ((hFq11130 376 1 rfl).trans ((yup_na (by decide)).trans ((hFw 376 1 rfl).trans ((yup_na (by decide)).trans ((yup_na (by decide)).trans ((hFq11107 376 1 rfl).trans (hFq11058 376 1 rfl)))))))
                have tb11144 := hTq11130.atp 376 3 0 3 rfl
                have tb11145 := hTq11130.atp 376 6 0 320 rfl
                have tb11146 := hTq11130.atp 376 8 ((-1)) 320 rfl
                have es11147 : mq11130 383 1 = (m 383 1) + 1 := ((hFq11130 383 1 rfl).trans (yup_eq _ _ _ _))
                exact y_retU c119_216 ⟨rfl, hTq11130, hF11136, by omega, Or.inl (by omega)⟩
            · refine y_aload 80 c119_79 rfl rfl rfl ?_
              have es11149 : mq11107 376 1 = m 376 1 := ((hFq11107 376 1 rfl).trans (hFq11058 376 1 rfl))
              have tb11150 := hTq11107.atp 376 6 0 320 rfl
              have tb11151 := hTq11107.atp 376 8 ((-1)) 320 rfl
              refine y_callUB 83 [.ref 376] [] c119_80 rfl rfl rfl rfl rfl (ycanO km99 ko376) (t99u hTq11107 (by omega)) (fun mq11148 nq11148 hq11148 => ?_)
              obtain ⟨rfl, hTq11148, hFq11148, hq11148⟩ := hq11148
              have x1q11148 : mq11148 376 1 = m 376 1 := ((hFq11148 376 1 rfl).trans ((hFq11107 376 1 rfl).trans (hFq11058 376 1 rfl)))
              have hF11152 := hF11111.tr hFq11148 wNx_wHm1
              refine y_aload 84 c119_83 rfl rfl rfl ?_
              have tb11153 := hTq11148.atp 376 3 0 3 rfl
              refine y_callP 87 [.ref 376] [] c119_84 rfl rfl rfl rfl rfl (ycanO km115 ko376) (t115 hTq11148) (fun r11154 hr11154 => ?_)
              refine y_if 102 90 c119_87 rfl rfl (yz_eq (by omega)) (fun hb11155 => ?_) (fun hb11155 => ?_)
              · refine y_iconst 103 c119_102 rfl ?_
                refine y_istore 105 c119_103 rfl rfl ?_
                refine y_aload 106 c119_105 rfl rfl rfl ?_
                refine y_iload 108 c119_106 rfl rfl ?_
                refine y_if 115 111 c119_108 rfl rfl (yz_lt (by omega)) (fun hb11156 => ?_) (fun hb11156 => ?_)
                · refine y_iconst 116 c119_115 rfl ?_
                  have es11158 : mq11148 376 1 = m 376 1 := ((hFq11148 376 1 rfl).trans ((hFq11107 376 1 rfl).trans (hFq11058 376 1 rfl)))
                  have tb11159 := hTq11148.atp 376 6 0 320 rfl
                  have es11160 : mq11148 376 8 = mq11107 376 8 := (hFq11148 376 8 rfl)
                  refine y_callIB 119 [.ref 376, yI 0] [] c119_116 rfl rfl rfl rfl rfl (ycanO km105 ko376) (t105 (g := 0) hTq11148 (by omega) (by omega)) (fun rq11157 mq11157 nq11157 hq11157 => ?_)
                  obtain ⟨rfl, hTq11157, hFq11157, hq11157⟩ := hq11157
                  have x1q11157 : mq11157 376 1 = m 376 1 := ((hFq11157 376 1 rfl).trans ((hFq11148 376 1 rfl).trans ((hFq11107 376 1 rfl).trans (hFq11058 376 1 rfl))))
                  have hF11161 := hF11152.tr hFq11157 wNw_wHm1
                  refine y_if 123 122 c119_119 rfl rfl (yz_ne (by omega)) (fun hb11162 => ?_) (fun hb11162 => ?_)
                  · exfalso; omega
                  · have es11163 : mq11157 376 1 = m 376 1 := ((hFq11157 376 1 rfl).trans ((hFq11148 376 1 rfl).trans ((hFq11107 376 1 rfl).trans (hFq11058 376 1 rfl))))
                    have tb11164 := hTq11157.atp 376 3 0 3 rfl
                    have tb11165 := hTq11157.atp 376 6 0 320 rfl
                    have tb11166 := hTq11157.atp 376 8 ((-1)) 320 rfl
                    have es11167 : mq11157 383 1 = m 383 1 := ((hFq11157 383 1 rfl).trans ((hFq11148 383 1 rfl).trans ((hFq11107 383 1 rfl).trans (hFq11058 383 1 rfl))))
                    exact y_retU c119_122 ⟨rfl, hTq11157, hF11161, by omega, Or.inl (by omega)⟩
                · exfalso; omega
              · refine y_aload 91 c119_90 rfl rfl rfl ?_
                refine y_iload 92 c119_91 rfl rfl ?_
                refine y_aload 93 c119_92 rfl rfl rfl ?_
                refine y_getX 96 (mq11148 376 4) c119_93 rfl kf376_4 rfl ?_
                have tb11168 := hTq11148.atp 376 4 ((-2147483648)) 2147483647 rfl
                have es11169 : mq11148 383 1 = m 383 1 := ((hFq11148 383 1 rfl).trans ((hFq11107 383 1 rfl).trans (hFq11058 383 1 rfl)))
                refine y_callP 99 [.ref 376, yI 1, yI (mq11148 376 4)] [] c119_96 rfl rfl rfl rfl rfl (ycanO km116 ko376) (t116_1 hTq11148 (by omega)) (fun r11170 hr11170 => ?_)
                refine y_goto 103 c119_99 rfl ?_
                refine y_istore 105 c119_103 rfl rfl ?_
                refine y_aload 106 c119_105 rfl rfl rfl ?_
                refine y_iload 108 c119_106 rfl rfl ?_
                refine y_if 115 111 c119_108 rfl rfl (yz_lt (by omega)) (fun hb11171 => ?_) (fun hb11171 => ?_)
                · refine y_iconst 116 c119_115 rfl ?_
                  have es11173 : mq11148 376 1 = m 376 1 := ((hFq11148 376 1 rfl).trans ((hFq11107 376 1 rfl).trans (hFq11058 376 1 rfl)))
                  have tb11174 := hTq11148.atp 376 6 0 320 rfl
                  have es11175 : mq11148 376 8 = mq11107 376 8 := (hFq11148 376 8 rfl)
                  refine y_callIB 119 [.ref 376, yI 0] [] c119_116 rfl rfl rfl rfl rfl (ycanO km105 ko376) (t105 (g := 0) hTq11148 (by omega) (by omega)) (fun rq11172 mq11172 nq11172 hq11172 => ?_)
                  obtain ⟨rfl, hTq11172, hFq11172, hq11172⟩ := hq11172
                  have x1q11172 : mq11172 376 1 = m 376 1 := ((hFq11172 376 1 rfl).trans ((hFq11148 376 1 rfl).trans ((hFq11107 376 1 rfl).trans (hFq11058 376 1 rfl))))
                  have hF11176 := hF11152.tr hFq11172 wNw_wHm1
                  refine y_if 123 122 c119_119 rfl rfl (yz_ne (by omega)) (fun hb11177 => ?_) (fun hb11177 => ?_)
                  · exfalso; omega
                  · have es11178 : mq11172 376 1 = m 376 1 := ((hFq11172 376 1 rfl).trans ((hFq11148 376 1 rfl).trans ((hFq11107 376 1 rfl).trans (hFq11058 376 1 rfl))))
                    have tb11179 := hTq11172.atp 376 3 0 3 rfl
                    have tb11180 := hTq11172.atp 376 6 0 320 rfl
                    have tb11181 := hTq11172.atp 376 8 ((-1)) 320 rfl
                    have es11182 : mq11172 383 1 = m 383 1 := ((hFq11172 383 1 rfl).trans ((hFq11148 383 1 rfl).trans ((hFq11107 383 1 rfl).trans (hFq11058 383 1 rfl))))
                    exact y_retU c119_122 ⟨rfl, hTq11172, hF11176, by omega, Or.inl (by omega)⟩
                · refine y_iconst 112 c119_111 rfl ?_
                  refine y_goto 116 c119_112 rfl ?_
                  have es11184 : mq11148 376 1 = m 376 1 := ((hFq11148 376 1 rfl).trans ((hFq11107 376 1 rfl).trans (hFq11058 376 1 rfl)))
                  have tb11185 := hTq11148.atp 376 6 0 320 rfl
                  have es11186 : mq11148 376 8 = mq11107 376 8 := (hFq11148 376 8 rfl)
                  refine y_callIB 119 [.ref 376, yI 1] [] c119_116 rfl rfl rfl rfl rfl (ycanO km105 ko376) (t105 (g := 1) hTq11148 (by omega) (by omega)) (fun rq11183 mq11183 nq11183 hq11183 => ?_)
                  obtain ⟨rfl, hTq11183, hFq11183, hq11183⟩ := hq11183
                  have x1q11183 : mq11183 376 1 = m 376 1 := ((hFq11183 376 1 rfl).trans ((hFq11148 376 1 rfl).trans ((hFq11107 376 1 rfl).trans (hFq11058 376 1 rfl))))
                  have hF11187 := hF11152.tr hFq11183 wNw_wHm1
                  refine y_if 123 122 c119_119 rfl rfl (yz_ne (by omega)) (fun hb11188 => ?_) (fun hb11188 => ?_)
                  · refine y_aload 124 c119_123 rfl rfl rfl ?_
                    refine y_getR 127 c119_124 rfl kf376_28 ?_
                    refine y_iconst 129 c119_127 rfl ?_
                    refine y_iload 130 c119_129 rfl rfl ?_
                    refine y_imul 131 c119_130 rfl ?_
                    refine y_top 6 (by decide) ?_
                    refine y_aload 132 c119_131 rfl rfl rfl ?_
                    refine y_getR 135 c119_132 rfl kf376_20 ?_
                    refine y_iload 136 c119_135 rfl rfl ?_
                    refine y_iaX 137 (m 383 1) c119_136 rfl ka383 (by decide) ((hFq11183 383 1 rfl).trans ((hFq11148 383 1 rfl).trans ((hFq11107 383 1 rfl).trans (hFq11058 383 1 rfl)))) ?_
                    refine y_iadd 138 c119_137 rfl ?_
                    refine y_iload 139 c119_138 rfl rfl ?_
                    refine y_iastore 140 c119_139 rfl ka391 (by omega) (y_nar0 _) ?_
                    have hT11189 := hTq11183.up 391 ((6 + (m 383 1)).toNat) (mq11058 376 4) ((-2147483648)) 2147483647 rfl (by omega)
                    have hF11190 := hF11187.up 391 ((6 + (m 383 1)).toNat) (mq11058 376 4) (wHm1_391 (by omega))
                    refine y_aload 141 c119_140 rfl rfl rfl ?_
                    refine y_getR 144 c119_141 rfl kf376_29 ?_
                    refine y_iconst 146 c119_144 rfl ?_
                    refine y_iload 147 c119_146 rfl rfl ?_
                    refine y_imul 148 c119_147 rfl ?_
                    refine y_top 6 (by decide) ?_
                    refine y_aload 149 c119_148 rfl rfl rfl ?_
                    refine y_getR 152 c119_149 rfl kf376_20 ?_
                    refine y_iload 153 c119_152 rfl rfl ?_
                    refine y_iaX 154 (m 383 1) c119_153 rfl ka383 (by decide) ((yup_na (by decide)).trans ((hFq11183 383 1 rfl).trans ((hFq11148 383 1 rfl).trans ((hFq11107 383 1 rfl).trans (hFq11058 383 1 rfl))))) ?_
                    refine y_iadd 155 c119_154 rfl ?_
                    refine y_iload 157 c119_155 rfl rfl ?_
                    refine y_iastore 158 c119_157 rfl ka392 (by omega) (y_nar0 _) ?_
                    have hT11191 := hT11189.up 392 ((6 + (m 383 1)).toNat) r11170 ((-1)) 5 rfl (by omega)
                    have hF11192 := hF11190.up 392 ((6 + (m 383 1)).toNat) r11170 (wHm1_392 (by omega))
                    refine y_iconst 159 c119_158 rfl ?_
                    refine y_istore 161 c119_159 rfl rfl ?_
                    have es11193 : (yup (yup mq11183 391 ((6 + (m 383 1)).toNat) (mq11058 376 4)) 392 ((6 + (m 383 1)).toNat) r11170) 376 1 = m 376 1 := ((yup_na (by decide)).trans ((yup_na (by decide)).trans ((hFq11183 376 1 rfl).trans ((hFq11148 376 1 rfl).trans ((hFq11107 376 1 rfl).trans (hFq11058 376 1 rfl))))))
                    have es11194 : (yup (yup mq11183 391 ((6 + (m 383 1)).toNat) (mq11058 376 4)) 392 ((6 + (m 383 1)).toNat) r11170) 376 3 = mq11183 376 3 := rfl
                    have tb11195 := hTq11183.atp 376 3 0 3 rfl
                    have es11196 : (yup (yup mq11183 391 ((6 + (m 383 1)).toNat) (mq11058 376 4)) 392 ((6 + (m 383 1)).toNat) r11170) 376 6 = mq11183 376 6 := rfl
                    have tb11197 := hTq11183.atp 376 6 0 320 rfl
                    have es11198 : (yup (yup mq11183 391 ((6 + (m 383 1)).toNat) (mq11058 376 4)) 392 ((6 + (m 383 1)).toNat) r11170) 376 8 = mq11183 376 8 := rfl
                    have tb11199 := hTq11183.atp 376 8 ((-1)) 320 rfl
                    have es11200 : (yup (yup mq11183 391 ((6 + (m 383 1)).toNat) (mq11058 376 4)) 392 ((6 + (m 383 1)).toNat) r11170) 383 1 = m 383 1 := ((yup_na (by decide)).trans ((yup_na (by decide)).trans ((hFq11183 383 1 rfl).trans ((hFq11148 383 1 rfl).trans ((hFq11107 383 1 rfl).trans (hFq11058 383 1 rfl))))))
                    refine t119b_1 hT11191 (by omega) (fun x5 mw hTw hFw => ?_) 8 0 _ (by omega) (by omega) hT11191 Fr.rf
                    have hF11201 := hF11192.tr hFw wOw1_wHm1
                    refine y_aload 198 c119_197 rfl rfl rfl ?_
                    refine y_getR 201 c119_198 rfl kf376_20 ?_
                    refine y_iload 202 c119_201 rfl rfl ?_
                    refine y_dup2 203 c119_202 rfl ⟨rfl, rfl⟩ ?_
                    refine y_iaX 204 (m 383 1) c119_203 rfl ka383 (by decide) ((hFw 383 1 rfl).trans ((yup_na (by decide)).trans ((yup_na (by decide)).trans ((hFq11183 383 1 rfl).trans ((hFq11148 383 1 rfl).trans ((hFq11107 383 1 rfl).trans (hFq11058 383 1 rfl))))))) ?_
                    refine y_iconst 205 c119_204 rfl ?_
                    refine y_iadd 206 c119_205 rfl ?_
                    refine y_iastore 207 c119_206 rfl ka383 (by omega) (y_nar0 _) ?_
                    have hT11202 := hTw.up 383 ((1 : Int).toNat) ((m 383 1) + 1) 0 6 rfl (by omega)
                    have hF11203 := hF11201.up 383 ((1 : Int).toNat) ((m 383 1) + 1) rfl
                    refine y_aload 208 c119_207 rfl rfl rfl ?_
                    refine y_iconst 210 c119_208 rfl ?_
                    have es11205 : (yup mw 383 ((1 : Int).toNat) ((m 383 1) + 1)) 376 1 = m 376 1 := ((yup_na (by decide)).trans ((hFw 376 1 rfl).trans ((yup_na (by decide)).trans ((yup_na (by decide)).trans ((hFq11183 376 1 rfl).trans ((hFq11148 376 1 rfl).trans ((hFq11107 376 1 rfl).trans (hFq11058 376 1 rfl))))))))
                    have es11206 : (yup mw 383 ((1 : Int).toNat) ((m 383 1) + 1)) 376 3 = mq11183 376 3 := ((yup_na (by decide)).trans ((hFw 376 3 rfl).trans ((yup_na (by decide)).trans (yup_na (by decide)))))
                    have es11207 : (yup mw 383 ((1 : Int).toNat) ((m 383 1) + 1)) 376 6 = mq11183 376 6 := ((yup_na (by decide)).trans ((hFw 376 6 rfl).trans ((yup_na (by decide)).trans (yup_na (by decide)))))
                    have es11208 : (yup mw 383 ((1 : Int).toNat) ((m 383 1) + 1)) 376 8 = mq11183 376 8 := ((yup_na (by decide)).trans ((hFw 376 8 rfl).trans ((yup_na (by decide)).trans (yup_na (by decide)))))
                    have em11209 : mu (yup mw 383 ((1 : Int).toNat) ((m 383 1) + 1)) = mu mq11183 := mu_fr ((yup_na (by decide)).trans ((hFw 376 1 rfl).trans ((yup_na (by decide)).trans (yup_na (by decide))))) ((yup_na (by decide)).trans ((hFw 376 3 rfl).trans ((yup_na (by decide)).trans (yup_na (by decide))))) ((yup_na (by decide)).trans ((hFw 376 6 rfl).trans ((yup_na (by decide)).trans (yup_na (by decide)))))
                    refine y_callIB 213 [.ref 376, yI 123] [] c119_210 rfl rfl rfl rfl rfl (ycanO km118 ko376) (t118 hT11202 (by omega) (by omega)) (fun rq11204 mq11204 nq11204 hq11204 => ?_)
                    obtain ⟨rfl, hTq11204, hFq11204, hq11204⟩ := hq11204
                    have x1q11204 : mq11204 376 1 = m 376 1 := ((hFq11204 376 1 rfl).trans ((yup_na (by decide)).trans ((hFw 376 1 rfl).trans ((yup_na (by decide)).trans ((yup_na (by decide)).trans ((hFq11183 376 1 rfl).trans ((hFq11148 376 1 rfl).trans ((hFq11107 376 1 rfl).trans (hFq11058 376 1 rfl)))))))))
                    have hF11210 := hF11203.tr hFq11204 wNw_wHm1
                    refine y_if 217 216 c119_213 rfl rfl (yz_ne (by omega)) (fun hb11211 => ?_) (fun hb11211 => ?_)
                    · have es11212 : mq11204 376 1 = m 376 1 := ((hFq11204 376 1 rfl).trans ((yup_na (by decide)).trans ((hFw 376 1 rfl).trans ((yup_na (by decide)).trans ((yup_na (by decide)).trans ((hFq11183 376 1 rfl).trans ((hFq11148 376 1 rfl).trans ((hFq11107 376 1 rfl).trans (hFq11058 376 1 rfl)))))))))
                      have tb11213 := hTq11204.atp 376 3 0 3 rfl
                      have tb11214 := hTq11204.atp 376 6 0 320 rfl
                      have tb11215 := hTq11204.atp 376 8 ((-1)) 320 rfl
                      have es11216 : mq11204 383 1 = (m 383 1) + 1 := ((hFq11204 383 1 rfl).trans (yup_eq _ _ _ _))
                      have hv : mq11204 392 (6 * 1 + (m 383 1).toNat) = r11170 := by rw [show 6 * 1 + (m 383 1).toNat = (6 + m 383 1).toNat by omega]; exact ((hFq11204 392 _ rfl).trans ((yup_na (by decide)).trans ((hFw 392 _ rfl).trans (yup_eq _ _ _ _))))
                      have hx : XD 1 mq11204 := XD.head hC (by omega) (fun a q ha h1 h2 => hF11210 a q (wHm1_C a q ha h1 h2)) (by omega) (fun k hk => ((hFq11204 392 _ rfl).trans ((yup_na (by decide)).trans ((hFw 392 _ rfl).trans ((yup_nk (by omega)).trans ((yup_na (by decide)).trans ((hFq11183 392 _ rfl).trans ((hFq11148 392 _ rfl).trans ((hFq11107 392 _ rfl).trans (hFq11058 392 _ rfl)))))))))) (by omega)
                      exact y_retU c119_217 ⟨rfl, hTq11204, hF11210, by omega, Or.inr ⟨by omega, by omega, by omega, hx⟩⟩
                    · have es11217 : mq11204 376 1 = m 376 1 := ((hFq11204 376 1 rfl).trans ((yup_na (by decide)).trans ((hFw 376 1 rfl).trans ((yup_na (by decide)).trans ((yup_na (by decide)).trans ((hFq11183 376 1 rfl).trans ((hFq11148 376 1 rfl).trans ((hFq11107 376 1 rfl).trans (hFq11058 376 1 rfl)))))))))
                      have tb11218 := hTq11204.atp 376 3 0 3 rfl
                      have tb11219 := hTq11204.atp 376 6 0 320 rfl
                      have tb11220 := hTq11204.atp 376 8 ((-1)) 320 rfl
                      have es11221 : mq11204 383 1 = (m 383 1) + 1 := ((hFq11204 383 1 rfl).trans (yup_eq _ _ _ _))
                      exact y_retU c119_216 ⟨rfl, hTq11204, hF11210, by omega, Or.inl (by omega)⟩
                  · have es11222 : mq11183 376 1 = m 376 1 := ((hFq11183 376 1 rfl).trans ((hFq11148 376 1 rfl).trans ((hFq11107 376 1 rfl).trans (hFq11058 376 1 rfl))))
                    have tb11223 := hTq11183.atp 376 3 0 3 rfl
                    have tb11224 := hTq11183.atp 376 6 0 320 rfl
                    have tb11225 := hTq11183.atp 376 8 ((-1)) 320 rfl
                    have es11226 : mq11183 383 1 = m 383 1 := ((hFq11183 383 1 rfl).trans ((hFq11148 383 1 rfl).trans ((hFq11107 383 1 rfl).trans (hFq11058 383 1 rfl))))
                    exact y_retU c119_122 ⟨rfl, hTq11183, hF11187, by omega, Or.inl (by omega)⟩
          · have es11227 : mq11107 376 1 = m 376 1 := ((hFq11107 376 1 rfl).trans (hFq11058 376 1 rfl))
            have tb11228 := hTq11107.atp 376 3 0 3 rfl
            have tb11229 := hTq11107.atp 376 6 0 320 rfl
            have tb11230 := hTq11107.atp 376 8 ((-1)) 320 rfl
            have es11231 : mq11107 383 1 = m 383 1 := ((hFq11107 383 1 rfl).trans (hFq11058 383 1 rfl))
            exact y_retU c119_66 ⟨rfl, hTq11107, hF11111, by omega, Or.inl (by omega)⟩
  · have es11232 : mq11058 376 1 = m 376 1 := (hFq11058 376 1 rfl)
    have tb11233 := hTq11058.atp 376 3 0 3 rfl
    have tb11234 := hTq11058.atp 376 6 0 320 rfl
    have tb11235 := hTq11058.atp 376 8 ((-1)) 320 rfl
    have es11236 : mq11058 383 1 = m 383 1 := (hFq11058 383 1 rfl)
    exact y_retU c119_16 ⟨rfl, hTq11058, hF11062, by omega, Or.inl (by omega)⟩
set_option maxRecDepth 100000 in
theorem t122_1 {L : Nat} {xs : Nat → Int32} {d nn : Nat} {m : yM} (hT : Ty gT m) (hl : m 376 6 ≤ m 376 1) (hn : m 376 18 = 0) (h8 : m 376 8 < 0) (hU : UX 1 m (m 383 1)) (hc1 : 1 ≤ m 383 1) (h3 : m 376 3 ≠ 0) : YC (gZ L xs) (d + 5) 122 [.ref 376] m nn (qU (fun m' n' => n' = nn ∧ Ty gT m' ∧ Fr wFm1 m m' ∧ m' 376 6 ≤ m' 376 1 ∧ (0 ≤ m' 376 8 ∨ (m' 376 8 < 0 ∧ mu m' < mu m)))) := by
  have tb8 := hT.atp 376 8 (-1) 320 rfl
  have tc383 := hT.atp 383 1 0 6 rfl
  have tc384 := hT.atp 384 1 0 10 rfl
  have tc385 := hT.atp 385 1 0 8 rfl
  have tc389 := hT.atp 389 1 0 48 rfl
  have tc390 := hT.atp 390 1 0 125 rfl
  refine YC.mkB [some (.ref 376), none, none, none, none, none] kn122 rfl rfl ?_
  have hF : Fr wFm1 m m := Fr.rf
  refine y_aload 1 c122_0 rfl rfl rfl ?_
  have tb11238 := hT.atp 376 18 0 1 rfl
  refine y_callP 4 [.ref 376] [] c122_1 rfl rfl rfl rfl rfl (ycanO km96 ko376) (t96_1 (by omega)) (fun r11237 hr11237 => ?_)
  subst hr11237
  refine y_istore 5 c122_4 rfl rfl ?_
  refine y_aload 6 c122_5 rfl rfl rfl ?_
  refine y_getR 9 c122_6 rfl kf376_20 ?_
  refine y_iload 10 c122_9 rfl rfl ?_
  refine y_iaX 11 (m 383 1) c122_10 rfl ka383 (by decide) rfl ?_
  refine y_iconst 12 c122_11 rfl ?_
  refine y_isub 13 c122_12 rfl ?_
  refine y_istore 14 c122_13 rfl rfl ?_
  refine y_aload 15 c122_14 rfl rfl rfl ?_
  have tb11240 := hT.atp 376 1 0 320 rfl
  have tb11241 := hT.atp 376 3 0 3 rfl
  have tb11242 := hT.atp 376 6 0 320 rfl
  have tb11243 := hT.atp 376 8 ((-1)) 320 rfl
  refine y_callUB 18 [.ref 376] [] c122_15 rfl rfl rfl rfl rfl (ycanO km99 ko376) (t99u hT (by omega)) (fun mq11239 nq11239 hq11239 => ?_)
  obtain ⟨rfl, hTq11239, hFq11239, hq11239⟩ := hq11239
  have x1q11239 : mq11239 376 1 = m 376 1 := (hFq11239 376 1 rfl)
  have hF11244 := hF.tr hFq11239 wNx_wFm1
  refine y_aload 19 c122_18 rfl rfl rfl ?_
  have tb11245 := hTq11239.atp 376 3 0 3 rfl
  refine y_callP 22 [.ref 376] [] c122_19 rfl rfl rfl rfl rfl (ycanO km115 ko376) (t115 hTq11239) (fun r11246 hr11246 => ?_)
  refine y_if 37 25 c122_22 rfl rfl (yz_eq (by omega)) (fun hb11247 => ?_) (fun hb11247 => ?_)
  · refine y_iconst 38 c122_37 rfl ?_
    refine y_istore 39 c122_38 rfl rfl ?_
    refine y_aload 40 c122_39 rfl rfl rfl ?_
    refine y_callP 43 [.ref 376] [] c122_40 rfl rfl rfl rfl rfl (ycanO km115 ko376) (t115 hTq11239) (fun r11248 hr11248 => ?_)
    refine y_if 75 46 c122_43 rfl rfl (yz_eq (by omega)) (fun hb11249 => ?_) (fun hb11249 => ?_)
    · refine y_iconst 76 c122_75 rfl ?_
      refine y_istore 78 c122_76 rfl rfl ?_
      refine y_aload 79 c122_78 rfl rfl rfl ?_
      refine y_getX 82 (mq11239 376 4) c122_79 rfl kf376_4 rfl ?_
      have tb11250 := hTq11239.atp 376 4 ((-2147483648)) 2147483647 rfl
      refine y_istore 84 c122_82 rfl rfl ?_
      refine y_aload 85 c122_84 rfl rfl rfl ?_
      refine y_iload 87 c122_85 rfl rfl ?_
      have es11252 : mq11239 376 1 = m 376 1 := (hFq11239 376 1 rfl)
      have tb11253 := hTq11239.atp 376 6 0 320 rfl
      have es11254 : mq11239 376 8 = m 376 8 := (hFq11239 376 8 rfl)
      refine y_callIB 90 [.ref 376, yI 0] [] c122_87 rfl rfl rfl rfl rfl (ycanO km105 ko376) (t105 (g := 0) hTq11239 (by omega) (by omega)) (fun rq11251 mq11251 nq11251 hq11251 => ?_)
      obtain ⟨rfl, hTq11251, hFq11251, hq11251⟩ := hq11251
      have x1q11251 : mq11251 376 1 = m 376 1 := ((hFq11251 376 1 rfl).trans (hFq11239 376 1 rfl))
      have hF11255 := hF11244.tr hFq11251 wNw_wFm1
      refine y_if 94 93 c122_90 rfl rfl (yz_ne (by omega)) (fun hb11256 => ?_) (fun hb11256 => ?_)
      · exfalso; omega
      · have es11257 : mq11251 376 1 = m 376 1 := ((hFq11251 376 1 rfl).trans (hFq11239 376 1 rfl))
        have tb11258 := hTq11251.atp 376 3 0 3 rfl
        have tb11259 := hTq11251.atp 376 6 0 320 rfl
        have tb11260 := hTq11251.atp 376 8 ((-1)) 320 rfl
        exact y_retU c122_93 ⟨rfl, hTq11251, hF11255, by omega, by omega⟩
    · refine y_aload 47 c122_46 rfl rfl rfl ?_
      refine y_iload 48 c122_47 rfl rfl ?_
      refine y_iload 49 c122_48 rfl rfl ?_
      refine y_iload 50 c122_49 rfl rfl ?_
      have es11261 : mq11239 383 1 = m 383 1 := (hFq11239 383 1 rfl)
      refine y_callP 53 [.ref 376, yI 1, yI ((m 383 1) - 1), yI ((-1))] [] c122_50 rfl rfl rfl rfl rfl (ycanO km121 ko376) (t121_1 hTq11239 (by rw [show mq11239 383 1 = m 383 1 from (hFq11239 383 1 rfl)]; exact hU.fr (fun q => (hFq11239 392 q rfl))) (by omega) (by omega)) (fun r11262 hr11262 => ?_)
      refine y_if 75 56 c122_53 rfl rfl (yz_ne (by omega)) (fun hb11263 => ?_) (fun hb11263 => ?_)
      · refine y_iconst 76 c122_75 rfl ?_
        refine y_istore 78 c122_76 rfl rfl ?_
        refine y_aload 79 c122_78 rfl rfl rfl ?_
        refine y_getX 82 (mq11239 376 4) c122_79 rfl kf376_4 rfl ?_
        have tb11264 := hTq11239.atp 376 4 ((-2147483648)) 2147483647 rfl
        refine y_istore 84 c122_82 rfl rfl ?_
        refine y_aload 85 c122_84 rfl rfl rfl ?_
        refine y_iload 87 c122_85 rfl rfl ?_
        have es11266 : mq11239 376 1 = m 376 1 := (hFq11239 376 1 rfl)
        have tb11267 := hTq11239.atp 376 6 0 320 rfl
        have es11268 : mq11239 376 8 = m 376 8 := (hFq11239 376 8 rfl)
        refine y_callIB 90 [.ref 376, yI 0] [] c122_87 rfl rfl rfl rfl rfl (ycanO km105 ko376) (t105 (g := 0) hTq11239 (by omega) (by omega)) (fun rq11265 mq11265 nq11265 hq11265 => ?_)
        obtain ⟨rfl, hTq11265, hFq11265, hq11265⟩ := hq11265
        have x1q11265 : mq11265 376 1 = m 376 1 := ((hFq11265 376 1 rfl).trans (hFq11239 376 1 rfl))
        have hF11269 := hF11244.tr hFq11265 wNw_wFm1
        refine y_if 94 93 c122_90 rfl rfl (yz_ne (by omega)) (fun hb11270 => ?_) (fun hb11270 => ?_)
        · exfalso; omega
        · have es11271 : mq11265 376 1 = m 376 1 := ((hFq11265 376 1 rfl).trans (hFq11239 376 1 rfl))
          have tb11272 := hTq11265.atp 376 3 0 3 rfl
          have tb11273 := hTq11265.atp 376 6 0 320 rfl
          have tb11274 := hTq11265.atp 376 8 ((-1)) 320 rfl
          exact y_retU c122_93 ⟨rfl, hTq11265, hF11269, by omega, by omega⟩
      · refine y_iload 57 c122_56 rfl rfl ?_
        refine y_if 71 60 c122_57 rfl rfl (yz_ge (by omega)) (fun hb11275 => ?_) (fun hb11275 => ?_)
        · exfalso; omega
        · refine y_aload 61 c122_60 rfl rfl rfl ?_
          refine y_getR 64 c122_61 rfl kf376_22 ?_
          refine y_iload 65 c122_64 rfl rfl ?_
          refine y_iaX 66 (m 385 1) c122_65 rfl ka385 (by decide) (hFq11239 385 1 rfl) ?_
          refine y_iconst 68 c122_66 rfl ?_
          refine y_icmp 75 71 c122_68 rfl rfl (yc_ge (by omega) (by omega)) (fun hb11276 => ?_) (fun hb11276 => ?_)
          · refine y_iconst 76 c122_75 rfl ?_
            refine y_istore 78 c122_76 rfl rfl ?_
            refine y_aload 79 c122_78 rfl rfl rfl ?_
            refine y_getX 82 (mq11239 376 4) c122_79 rfl kf376_4 rfl ?_
            have tb11277 := hTq11239.atp 376 4 ((-2147483648)) 2147483647 rfl
            refine y_istore 84 c122_82 rfl rfl ?_
            refine y_aload 85 c122_84 rfl rfl rfl ?_
            refine y_iload 87 c122_85 rfl rfl ?_
            have es11279 : mq11239 376 1 = m 376 1 := (hFq11239 376 1 rfl)
            have tb11280 := hTq11239.atp 376 6 0 320 rfl
            have es11281 : mq11239 376 8 = m 376 8 := (hFq11239 376 8 rfl)
            refine y_callIB 90 [.ref 376, yI 0] [] c122_87 rfl rfl rfl rfl rfl (ycanO km105 ko376) (t105 (g := 0) hTq11239 (by omega) (by omega)) (fun rq11278 mq11278 nq11278 hq11278 => ?_)
            obtain ⟨rfl, hTq11278, hFq11278, hq11278⟩ := hq11278
            have x1q11278 : mq11278 376 1 = m 376 1 := ((hFq11278 376 1 rfl).trans (hFq11239 376 1 rfl))
            have hF11282 := hF11244.tr hFq11278 wNw_wFm1
            refine y_if 94 93 c122_90 rfl rfl (yz_ne (by omega)) (fun hb11283 => ?_) (fun hb11283 => ?_)
            · exfalso; omega
            · have es11284 : mq11278 376 1 = m 376 1 := ((hFq11278 376 1 rfl).trans (hFq11239 376 1 rfl))
              have tb11285 := hTq11278.atp 376 3 0 3 rfl
              have tb11286 := hTq11278.atp 376 6 0 320 rfl
              have tb11287 := hTq11278.atp 376 8 ((-1)) 320 rfl
              exact y_retU c122_93 ⟨rfl, hTq11278, hF11282, by omega, by omega⟩
          · refine y_iconst 72 c122_71 rfl ?_
            refine y_goto 76 c122_72 rfl ?_
            refine y_istore 78 c122_76 rfl rfl ?_
            refine y_aload 79 c122_78 rfl rfl rfl ?_
            refine y_getX 82 (mq11239 376 4) c122_79 rfl kf376_4 rfl ?_
            have tb11288 := hTq11239.atp 376 4 ((-2147483648)) 2147483647 rfl
            refine y_istore 84 c122_82 rfl rfl ?_
            refine y_aload 85 c122_84 rfl rfl rfl ?_
            refine y_iload 87 c122_85 rfl rfl ?_
            have es11290 : mq11239 376 1 = m 376 1 := (hFq11239 376 1 rfl)
            have tb11291 := hTq11239.atp 376 6 0 320 rfl
            have es11292 : mq11239 376 8 = m 376 8 := (hFq11239 376 8 rfl)
            refine y_callIB 90 [.ref 376, yI 1] [] c122_87 rfl rfl rfl rfl rfl (ycanO km105 ko376) (t105 (g := 1) hTq11239 (by omega) (by omega)) (fun rq11289 mq11289 nq11289 hq11289 => ?_)
            obtain ⟨rfl, hTq11289, hFq11289, hq11289⟩ := hq11289
            have x1q11289 : mq11289 376 1 = m 376 1 := ((hFq11289 376 1 rfl).trans (hFq11239 376 1 rfl))
            have hF11293 := hF11244.tr hFq11289 wNw_wFm1
            refine y_if 94 93 c122_90 rfl rfl (yz_ne (by omega)) (fun hb11294 => ?_) (fun hb11294 => ?_)
            · refine y_iload 95 c122_94 rfl rfl ?_
              refine y_if 128 98 c122_95 rfl rfl (yz_ge (by omega)) (fun hb11295 => ?_) (fun hb11295 => ?_)
              · exfalso; omega
              · refine y_aload 99 c122_98 rfl rfl rfl ?_
                refine y_getR 102 c122_99 rfl kf376_22 ?_
                refine y_iload 103 c122_102 rfl rfl ?_
                refine y_iaX 104 (m 385 1) c122_103 rfl ka385 (by decide) ((hFq11289 385 1 rfl).trans (hFq11239 385 1 rfl)) ?_
                refine y_istore 105 c122_104 rfl rfl ?_
                refine y_aload 106 c122_105 rfl rfl rfl ?_
                refine y_getR 109 c122_106 rfl kf376_31 ?_
                refine y_iconst 111 c122_109 rfl ?_
                refine y_iload 112 c122_111 rfl rfl ?_
                refine y_imul 113 c122_112 rfl ?_
                refine y_top 8 (by decide) ?_
                refine y_iload 114 c122_113 rfl rfl ?_
                refine y_iadd 115 c122_114 rfl ?_
                refine y_iload 117 c122_115 rfl rfl ?_
                refine y_iastore 118 c122_117 rfl ka394 (by omega) (y_nar0 _) ?_
                have hT11296 := hTq11289.up 394 ((8 + (m 385 1)).toNat) (mq11239 376 4) ((-2147483648)) 2147483647 rfl (by omega)
                have hF11297 := hF11293.up 394 ((8 + (m 385 1)).toNat) (mq11239 376 4) (wFm1_394 (by omega))
                refine y_aload 119 c122_118 rfl rfl rfl ?_
                refine y_getR 122 c122_119 rfl kf376_22 ?_
                refine y_iload 123 c122_122 rfl rfl ?_
                refine y_dup2 124 c122_123 rfl ⟨rfl, rfl⟩ ?_
                refine y_iaX 125 (m 385 1) c122_124 rfl ka385 (by decide) ((yup_na (by decide)).trans ((hFq11289 385 1 rfl).trans (hFq11239 385 1 rfl))) ?_
                refine y_iconst 126 c122_125 rfl ?_
                refine y_iadd 127 c122_126 rfl ?_
                refine y_iastore 128 c122_127 rfl ka385 (by omega) (y_nar0 _) ?_
                have hT11298 := hT11296.up 385 ((1 : Int).toNat) ((m 385 1) + 1) 0 8 rfl (by omega)
                have hF11299 := hF11297.up 385 ((1 : Int).toNat) ((m 385 1) + 1) rfl
                refine y_aload 129 c122_128 rfl rfl rfl ?_
                refine y_getR 132 c122_129 rfl kf376_30 ?_
                refine y_iconst 134 c122_132 rfl ?_
                refine y_iload 135 c122_134 rfl rfl ?_
                refine y_imul 136 c122_135 rfl ?_
                refine y_top 48 (by decide) ?_
                refine y_iconst 138 c122_136 rfl ?_
                refine y_iload 139 c122_138 rfl rfl ?_
                refine y_imul 140 c122_139 rfl ?_
                refine y_iadd 141 c122_140 rfl ?_
                refine y_iload 142 c122_141 rfl rfl ?_
                refine y_iadd 143 c122_142 rfl ?_
                refine y_iconst 144 c122_143 rfl ?_
                refine y_iastore 145 c122_144 rfl ka393 (by omega) (y_nar1 (by omega)) ?_
                have hT11300 := hT11298.up 393 (((48 + (8 * ((m 383 1) - 1))) + (m 385 1)).toNat) 1 0 1 rfl (by omega)
                have hF11301 := hF11299.up 393 (((48 + (8 * ((m 383 1) - 1))) + (m 385 1)).toNat) 1 (wFm1_393 (by omega))
                refine y_aload 146 c122_145 rfl rfl rfl ?_
                refine y_iconst 148 c122_146 rfl ?_
                have es11303 : (yup (yup (yup mq11289 394 ((8 + (m 385 1)).toNat) (mq11239 376 4)) 385 ((1 : Int).toNat) ((m 385 1) + 1)) 393 (((48 + (8 * ((m 383 1) - 1))) + (m 385 1)).toNat) 1) 376 1 = m 376 1 := ((yup_na (by decide)).trans ((yup_na (by decide)).trans ((yup_na (by decide)).trans ((hFq11289 376 1 rfl).trans (hFq11239 376 1 rfl)))))
                have es11304 : (yup (yup (yup mq11289 394 ((8 + (m 385 1)).toNat) (mq11239 376 4)) 385 ((1 : Int).toNat) ((m 385 1) + 1)) 393 (((48 + (8 * ((m 383 1) - 1))) + (m 385 1)).toNat) 1) 376 3 = mq11289 376 3 := rfl
                have tb11305 := hTq11289.atp 376 3 0 3 rfl
                have es11306 : (yup (yup (yup mq11289 394 ((8 + (m 385 1)).toNat) (mq11239 376 4)) 385 ((1 : Int).toNat) ((m 385 1) + 1)) 393 (((48 + (8 * ((m 383 1) - 1))) + (m 385 1)).toNat) 1) 376 6 = mq11289 376 6 := rfl
                have tb11307 := hTq11289.atp 376 6 0 320 rfl
                have es11308 : (yup (yup (yup mq11289 394 ((8 + (m 385 1)).toNat) (mq11239 376 4)) 385 ((1 : Int).toNat) ((m 385 1) + 1)) 393 (((48 + (8 * ((m 383 1) - 1))) + (m 385 1)).toNat) 1) 376 8 = mq11289 376 8 := rfl
                have tb11309 := hTq11289.atp 376 8 ((-1)) 320 rfl
                have em11310 : mu (yup (yup (yup mq11289 394 ((8 + (m 385 1)).toNat) (mq11239 376 4)) 385 ((1 : Int).toNat) ((m 385 1) + 1)) 393 (((48 + (8 * ((m 383 1) - 1))) + (m 385 1)).toNat) 1) = mu mq11289 := mu_fr ((yup_na (by decide)).trans ((yup_na (by decide)).trans (yup_na (by decide)))) ((yup_na (by decide)).trans ((yup_na (by decide)).trans (yup_na (by decide)))) ((yup_na (by decide)).trans ((yup_na (by decide)).trans (yup_na (by decide))))
                refine y_callIB 151 [.ref 376, yI 59] [] c122_148 rfl rfl rfl rfl rfl (ycanO km118 ko376) (t118 hT11300 (by omega) (by omega)) (fun rq11302 mq11302 nq11302 hq11302 => ?_)
                obtain ⟨rfl, hTq11302, hFq11302, hq11302⟩ := hq11302
                have x1q11302 : mq11302 376 1 = m 376 1 := ((hFq11302 376 1 rfl).trans ((yup_na (by decide)).trans ((yup_na (by decide)).trans ((yup_na (by decide)).trans ((hFq11289 376 1 rfl).trans (hFq11239 376 1 rfl))))))
                have hF11311 := hF11301.tr hFq11302 wNw_wFm1
                refine y_if 155 154 c122_151 rfl rfl (yz_ne (by omega)) (fun hb11312 => ?_) (fun hb11312 => ?_)
                · have es11313 : mq11302 376 1 = m 376 1 := ((hFq11302 376 1 rfl).trans ((yup_na (by decide)).trans ((yup_na (by decide)).trans ((yup_na (by decide)).trans ((hFq11289 376 1 rfl).trans (hFq11239 376 1 rfl))))))
                  have tb11314 := hTq11302.atp 376 3 0 3 rfl
                  have tb11315 := hTq11302.atp 376 6 0 320 rfl
                  have tb11316 := hTq11302.atp 376 8 ((-1)) 320 rfl
                  exact y_retU c122_155 ⟨rfl, hTq11302, hF11311, by omega, by omega⟩
                · have es11317 : mq11302 376 1 = m 376 1 := ((hFq11302 376 1 rfl).trans ((yup_na (by decide)).trans ((yup_na (by decide)).trans ((yup_na (by decide)).trans ((hFq11289 376 1 rfl).trans (hFq11239 376 1 rfl))))))
                  have tb11318 := hTq11302.atp 376 3 0 3 rfl
                  have tb11319 := hTq11302.atp 376 6 0 320 rfl
                  have tb11320 := hTq11302.atp 376 8 ((-1)) 320 rfl
                  exact y_retU c122_154 ⟨rfl, hTq11302, hF11311, by omega, by omega⟩
            · have es11321 : mq11289 376 1 = m 376 1 := ((hFq11289 376 1 rfl).trans (hFq11239 376 1 rfl))
              have tb11322 := hTq11289.atp 376 3 0 3 rfl
              have tb11323 := hTq11289.atp 376 6 0 320 rfl
              have tb11324 := hTq11289.atp 376 8 ((-1)) 320 rfl
              exact y_retU c122_93 ⟨rfl, hTq11289, hF11293, by omega, by omega⟩
  · refine y_aload 26 c122_25 rfl rfl rfl ?_
    refine y_iload 27 c122_26 rfl rfl ?_
    refine y_aload 28 c122_27 rfl rfl rfl ?_
    refine y_getX 31 (mq11239 376 4) c122_28 rfl kf376_4 rfl ?_
    have tb11325 := hTq11239.atp 376 4 ((-2147483648)) 2147483647 rfl
    have es11326 : mq11239 385 1 = m 385 1 := (hFq11239 385 1 rfl)
    refine y_callP 34 [.ref 376, yI 1, yI (mq11239 376 4)] [] c122_31 rfl rfl rfl rfl rfl (ycanO km120 ko376) (t120_1 hTq11239 (by omega)) (fun r11327 hr11327 => ?_)
    refine y_goto 38 c122_34 rfl ?_
    refine y_istore 39 c122_38 rfl rfl ?_
    refine y_aload 40 c122_39 rfl rfl rfl ?_
    refine y_callP 43 [.ref 376] [] c122_40 rfl rfl rfl rfl rfl (ycanO km115 ko376) (t115 hTq11239) (fun r11328 hr11328 => ?_)
    refine y_if 75 46 c122_43 rfl rfl (yz_eq (by omega)) (fun hb11329 => ?_) (fun hb11329 => ?_)
    · refine y_iconst 76 c122_75 rfl ?_
      refine y_istore 78 c122_76 rfl rfl ?_
      refine y_aload 79 c122_78 rfl rfl rfl ?_
      refine y_getX 82 (mq11239 376 4) c122_79 rfl kf376_4 rfl ?_
      refine y_istore 84 c122_82 rfl rfl ?_
      refine y_aload 85 c122_84 rfl rfl rfl ?_
      refine y_iload 87 c122_85 rfl rfl ?_
      have es11331 : mq11239 376 1 = m 376 1 := (hFq11239 376 1 rfl)
      have tb11332 := hTq11239.atp 376 6 0 320 rfl
      have es11333 : mq11239 376 8 = m 376 8 := (hFq11239 376 8 rfl)
      refine y_callIB 90 [.ref 376, yI 0] [] c122_87 rfl rfl rfl rfl rfl (ycanO km105 ko376) (t105 (g := 0) hTq11239 (by omega) (by omega)) (fun rq11330 mq11330 nq11330 hq11330 => ?_)
      obtain ⟨rfl, hTq11330, hFq11330, hq11330⟩ := hq11330
      have x1q11330 : mq11330 376 1 = m 376 1 := ((hFq11330 376 1 rfl).trans (hFq11239 376 1 rfl))
      have hF11334 := hF11244.tr hFq11330 wNw_wFm1
      refine y_if 94 93 c122_90 rfl rfl (yz_ne (by omega)) (fun hb11335 => ?_) (fun hb11335 => ?_)
      · exfalso; omega
      · have es11336 : mq11330 376 1 = m 376 1 := ((hFq11330 376 1 rfl).trans (hFq11239 376 1 rfl))
        have tb11337 := hTq11330.atp 376 3 0 3 rfl
        have tb11338 := hTq11330.atp 376 6 0 320 rfl
        have tb11339 := hTq11330.atp 376 8 ((-1)) 320 rfl
        exact y_retU c122_93 ⟨rfl, hTq11330, hF11334, by omega, by omega⟩
    · refine y_aload 47 c122_46 rfl rfl rfl ?_
      refine y_iload 48 c122_47 rfl rfl ?_
      refine y_iload 49 c122_48 rfl rfl ?_
      refine y_iload 50 c122_49 rfl rfl ?_
      have es11340 : mq11239 383 1 = m 383 1 := (hFq11239 383 1 rfl)
      refine y_callP 53 [.ref 376, yI 1, yI ((m 383 1) - 1), yI r11327] [] c122_50 rfl rfl rfl rfl rfl (ycanO km121 ko376) (t121_1 hTq11239 (by rw [show mq11239 383 1 = m 383 1 from (hFq11239 383 1 rfl)]; exact hU.fr (fun q => (hFq11239 392 q rfl))) (by omega) (by omega)) (fun r11341 hr11341 => ?_)
      refine y_if 75 56 c122_53 rfl rfl (yz_ne (by omega)) (fun hb11342 => ?_) (fun hb11342 => ?_)
      · refine y_iconst 76 c122_75 rfl ?_
        refine y_istore 78 c122_76 rfl rfl ?_
        refine y_aload 79 c122_78 rfl rfl rfl ?_
        refine y_getX 82 (mq11239 376 4) c122_79 rfl kf376_4 rfl ?_
        refine y_istore 84 c122_82 rfl rfl ?_
        refine y_aload 85 c122_84 rfl rfl rfl ?_
        refine y_iload 87 c122_85 rfl rfl ?_
        have es11344 : mq11239 376 1 = m 376 1 := (hFq11239 376 1 rfl)
        have tb11345 := hTq11239.atp 376 6 0 320 rfl
        have es11346 : mq11239 376 8 = m 376 8 := (hFq11239 376 8 rfl)
        refine y_callIB 90 [.ref 376, yI 0] [] c122_87 rfl rfl rfl rfl rfl (ycanO km105 ko376) (t105 (g := 0) hTq11239 (by omega) (by omega)) (fun rq11343 mq11343 nq11343 hq11343 => ?_)
        obtain ⟨rfl, hTq11343, hFq11343, hq11343⟩ := hq11343
        have x1q11343 : mq11343 376 1 = m 376 1 := ((hFq11343 376 1 rfl).trans (hFq11239 376 1 rfl))
        have hF11347 := hF11244.tr hFq11343 wNw_wFm1
        refine y_if 94 93 c122_90 rfl rfl (yz_ne (by omega)) (fun hb11348 => ?_) (fun hb11348 => ?_)
        · exfalso; omega
        · have es11349 : mq11343 376 1 = m 376 1 := ((hFq11343 376 1 rfl).trans (hFq11239 376 1 rfl))
          have tb11350 := hTq11343.atp 376 3 0 3 rfl
          have tb11351 := hTq11343.atp 376 6 0 320 rfl
          have tb11352 := hTq11343.atp 376 8 ((-1)) 320 rfl
          exact y_retU c122_93 ⟨rfl, hTq11343, hF11347, by omega, by omega⟩
      · refine y_iload 57 c122_56 rfl rfl ?_
        refine y_if 71 60 c122_57 rfl rfl (yz_ge (by omega)) (fun hb11353 => ?_) (fun hb11353 => ?_)
        · refine y_iconst 72 c122_71 rfl ?_
          refine y_goto 76 c122_72 rfl ?_
          refine y_istore 78 c122_76 rfl rfl ?_
          refine y_aload 79 c122_78 rfl rfl rfl ?_
          refine y_getX 82 (mq11239 376 4) c122_79 rfl kf376_4 rfl ?_
          refine y_istore 84 c122_82 rfl rfl ?_
          refine y_aload 85 c122_84 rfl rfl rfl ?_
          refine y_iload 87 c122_85 rfl rfl ?_
          have es11355 : mq11239 376 1 = m 376 1 := (hFq11239 376 1 rfl)
          have tb11356 := hTq11239.atp 376 6 0 320 rfl
          have es11357 : mq11239 376 8 = m 376 8 := (hFq11239 376 8 rfl)
          refine y_callIB 90 [.ref 376, yI 1] [] c122_87 rfl rfl rfl rfl rfl (ycanO km105 ko376) (t105 (g := 1) hTq11239 (by omega) (by omega)) (fun rq11354 mq11354 nq11354 hq11354 => ?_)
          obtain ⟨rfl, hTq11354, hFq11354, hq11354⟩ := hq11354
          have x1q11354 : mq11354 376 1 = m 376 1 := ((hFq11354 376 1 rfl).trans (hFq11239 376 1 rfl))
          have hF11358 := hF11244.tr hFq11354 wNw_wFm1
          refine y_if 94 93 c122_90 rfl rfl (yz_ne (by omega)) (fun hb11359 => ?_) (fun hb11359 => ?_)
          · refine y_iload 95 c122_94 rfl rfl ?_
            refine y_if 128 98 c122_95 rfl rfl (yz_ge (by omega)) (fun hb11360 => ?_) (fun hb11360 => ?_)
            · refine y_aload 129 c122_128 rfl rfl rfl ?_
              refine y_getR 132 c122_129 rfl kf376_30 ?_
              refine y_iconst 134 c122_132 rfl ?_
              refine y_iload 135 c122_134 rfl rfl ?_
              refine y_imul 136 c122_135 rfl ?_
              refine y_top 48 (by decide) ?_
              refine y_iconst 138 c122_136 rfl ?_
              refine y_iload 139 c122_138 rfl rfl ?_
              refine y_imul 140 c122_139 rfl ?_
              refine y_iadd 141 c122_140 rfl ?_
              refine y_iload 142 c122_141 rfl rfl ?_
              refine y_iadd 143 c122_142 rfl ?_
              refine y_iconst 144 c122_143 rfl ?_
              refine y_iastore 145 c122_144 rfl ka393 (by omega) (y_nar1 (by omega)) ?_
              have hT11361 := hTq11354.up 393 (((48 + (8 * ((m 383 1) - 1))) + r11327).toNat) 1 0 1 rfl (by omega)
              have hF11362 := hF11358.up 393 (((48 + (8 * ((m 383 1) - 1))) + r11327).toNat) 1 (wFm1_393 (by omega))
              refine y_aload 146 c122_145 rfl rfl rfl ?_
              refine y_iconst 148 c122_146 rfl ?_
              have es11364 : (yup mq11354 393 (((48 + (8 * ((m 383 1) - 1))) + r11327).toNat) 1) 376 1 = m 376 1 := ((yup_na (by decide)).trans ((hFq11354 376 1 rfl).trans (hFq11239 376 1 rfl)))
              have es11365 : (yup mq11354 393 (((48 + (8 * ((m 383 1) - 1))) + r11327).toNat) 1) 376 3 = mq11354 376 3 := rfl
              have tb11366 := hTq11354.atp 376 3 0 3 rfl
              have es11367 : (yup mq11354 393 (((48 + (8 * ((m 383 1) - 1))) + r11327).toNat) 1) 376 6 = mq11354 376 6 := rfl
              have tb11368 := hTq11354.atp 376 6 0 320 rfl
              have es11369 : (yup mq11354 393 (((48 + (8 * ((m 383 1) - 1))) + r11327).toNat) 1) 376 8 = mq11354 376 8 := rfl
              have tb11370 := hTq11354.atp 376 8 ((-1)) 320 rfl
              have em11371 : mu (yup mq11354 393 (((48 + (8 * ((m 383 1) - 1))) + r11327).toNat) 1) = mu mq11354 := mu_fr (yup_na (by decide)) (yup_na (by decide)) (yup_na (by decide))
              refine y_callIB 151 [.ref 376, yI 59] [] c122_148 rfl rfl rfl rfl rfl (ycanO km118 ko376) (t118 hT11361 (by omega) (by omega)) (fun rq11363 mq11363 nq11363 hq11363 => ?_)
              obtain ⟨rfl, hTq11363, hFq11363, hq11363⟩ := hq11363
              have x1q11363 : mq11363 376 1 = m 376 1 := ((hFq11363 376 1 rfl).trans ((yup_na (by decide)).trans ((hFq11354 376 1 rfl).trans (hFq11239 376 1 rfl))))
              have hF11372 := hF11362.tr hFq11363 wNw_wFm1
              refine y_if 155 154 c122_151 rfl rfl (yz_ne (by omega)) (fun hb11373 => ?_) (fun hb11373 => ?_)
              · have es11374 : mq11363 376 1 = m 376 1 := ((hFq11363 376 1 rfl).trans ((yup_na (by decide)).trans ((hFq11354 376 1 rfl).trans (hFq11239 376 1 rfl))))
                have tb11375 := hTq11363.atp 376 3 0 3 rfl
                have tb11376 := hTq11363.atp 376 6 0 320 rfl
                have tb11377 := hTq11363.atp 376 8 ((-1)) 320 rfl
                exact y_retU c122_155 ⟨rfl, hTq11363, hF11372, by omega, by omega⟩
              · have es11378 : mq11363 376 1 = m 376 1 := ((hFq11363 376 1 rfl).trans ((yup_na (by decide)).trans ((hFq11354 376 1 rfl).trans (hFq11239 376 1 rfl))))
                have tb11379 := hTq11363.atp 376 3 0 3 rfl
                have tb11380 := hTq11363.atp 376 6 0 320 rfl
                have tb11381 := hTq11363.atp 376 8 ((-1)) 320 rfl
                exact y_retU c122_154 ⟨rfl, hTq11363, hF11372, by omega, by omega⟩
            · exfalso; omega
          · have es11382 : mq11354 376 1 = m 376 1 := ((hFq11354 376 1 rfl).trans (hFq11239 376 1 rfl))
            have tb11383 := hTq11354.atp 376 3 0 3 rfl
            have tb11384 := hTq11354.atp 376 6 0 320 rfl
            have tb11385 := hTq11354.atp 376 8 ((-1)) 320 rfl
            exact y_retU c122_93 ⟨rfl, hTq11354, hF11358, by omega, by omega⟩
        · refine y_aload 61 c122_60 rfl rfl rfl ?_
          refine y_getR 64 c122_61 rfl kf376_22 ?_
          refine y_iload 65 c122_64 rfl rfl ?_
          refine y_iaX 66 (m 385 1) c122_65 rfl ka385 (by decide) (hFq11239 385 1 rfl) ?_
          refine y_iconst 68 c122_66 rfl ?_
          refine y_icmp 75 71 c122_68 rfl rfl (yc_ge (by omega) (by omega)) (fun hb11386 => ?_) (fun hb11386 => ?_)
          · refine y_iconst 76 c122_75 rfl ?_
            refine y_istore 78 c122_76 rfl rfl ?_
            refine y_aload 79 c122_78 rfl rfl rfl ?_
            refine y_getX 82 (mq11239 376 4) c122_79 rfl kf376_4 rfl ?_
            refine y_istore 84 c122_82 rfl rfl ?_
            refine y_aload 85 c122_84 rfl rfl rfl ?_
            refine y_iload 87 c122_85 rfl rfl ?_
            have es11388 : mq11239 376 1 = m 376 1 := (hFq11239 376 1 rfl)
            have tb11389 := hTq11239.atp 376 6 0 320 rfl
            have es11390 : mq11239 376 8 = m 376 8 := (hFq11239 376 8 rfl)
            refine y_callIB 90 [.ref 376, yI 0] [] c122_87 rfl rfl rfl rfl rfl (ycanO km105 ko376) (t105 (g := 0) hTq11239 (by omega) (by omega)) (fun rq11387 mq11387 nq11387 hq11387 => ?_)
            obtain ⟨rfl, hTq11387, hFq11387, hq11387⟩ := hq11387
            have x1q11387 : mq11387 376 1 = m 376 1 := ((hFq11387 376 1 rfl).trans (hFq11239 376 1 rfl))
            have hF11391 := hF11244.tr hFq11387 wNw_wFm1
            refine y_if 94 93 c122_90 rfl rfl (yz_ne (by omega)) (fun hb11392 => ?_) (fun hb11392 => ?_)
            · exfalso; omega
            · have es11393 : mq11387 376 1 = m 376 1 := ((hFq11387 376 1 rfl).trans (hFq11239 376 1 rfl))
              have tb11394 := hTq11387.atp 376 3 0 3 rfl
              have tb11395 := hTq11387.atp 376 6 0 320 rfl
              have tb11396 := hTq11387.atp 376 8 ((-1)) 320 rfl
              exact y_retU c122_93 ⟨rfl, hTq11387, hF11391, by omega, by omega⟩
          · refine y_iconst 72 c122_71 rfl ?_
            refine y_goto 76 c122_72 rfl ?_
            refine y_istore 78 c122_76 rfl rfl ?_
            refine y_aload 79 c122_78 rfl rfl rfl ?_
            refine y_getX 82 (mq11239 376 4) c122_79 rfl kf376_4 rfl ?_
            refine y_istore 84 c122_82 rfl rfl ?_
            refine y_aload 85 c122_84 rfl rfl rfl ?_
            refine y_iload 87 c122_85 rfl rfl ?_
            have es11398 : mq11239 376 1 = m 376 1 := (hFq11239 376 1 rfl)
            have tb11399 := hTq11239.atp 376 6 0 320 rfl
            have es11400 : mq11239 376 8 = m 376 8 := (hFq11239 376 8 rfl)
            refine y_callIB 90 [.ref 376, yI 1] [] c122_87 rfl rfl rfl rfl rfl (ycanO km105 ko376) (t105 (g := 1) hTq11239 (by omega) (by omega)) (fun rq11397 mq11397 nq11397 hq11397 => ?_)
            obtain ⟨rfl, hTq11397, hFq11397, hq11397⟩ := hq11397
            have x1q11397 : mq11397 376 1 = m 376 1 := ((hFq11397 376 1 rfl).trans (hFq11239 376 1 rfl))
            have hF11401 := hF11244.tr hFq11397 wNw_wFm1
            refine y_if 94 93 c122_90 rfl rfl (yz_ne (by omega)) (fun hb11402 => ?_) (fun hb11402 => ?_)
            · refine y_iload 95 c122_94 rfl rfl ?_
              refine y_if 128 98 c122_95 rfl rfl (yz_ge (by omega)) (fun hb11403 => ?_) (fun hb11403 => ?_)
              · exfalso; omega
              · refine y_aload 99 c122_98 rfl rfl rfl ?_
                refine y_getR 102 c122_99 rfl kf376_22 ?_
                refine y_iload 103 c122_102 rfl rfl ?_
                refine y_iaX 104 (m 385 1) c122_103 rfl ka385 (by decide) ((hFq11397 385 1 rfl).trans (hFq11239 385 1 rfl)) ?_
                refine y_istore 105 c122_104 rfl rfl ?_
                refine y_aload 106 c122_105 rfl rfl rfl ?_
                refine y_getR 109 c122_106 rfl kf376_31 ?_
                refine y_iconst 111 c122_109 rfl ?_
                refine y_iload 112 c122_111 rfl rfl ?_
                refine y_imul 113 c122_112 rfl ?_
                refine y_top 8 (by decide) ?_
                refine y_iload 114 c122_113 rfl rfl ?_
                refine y_iadd 115 c122_114 rfl ?_
                refine y_iload 117 c122_115 rfl rfl ?_
                refine y_iastore 118 c122_117 rfl ka394 (by omega) (y_nar0 _) ?_
                have hT11404 := hTq11397.up 394 ((8 + (m 385 1)).toNat) (mq11239 376 4) ((-2147483648)) 2147483647 rfl (by omega)
                have hF11405 := hF11401.up 394 ((8 + (m 385 1)).toNat) (mq11239 376 4) (wFm1_394 (by omega))
                refine y_aload 119 c122_118 rfl rfl rfl ?_
                refine y_getR 122 c122_119 rfl kf376_22 ?_
                refine y_iload 123 c122_122 rfl rfl ?_
                refine y_dup2 124 c122_123 rfl ⟨rfl, rfl⟩ ?_
                refine y_iaX 125 (m 385 1) c122_124 rfl ka385 (by decide) ((yup_na (by decide)).trans ((hFq11397 385 1 rfl).trans (hFq11239 385 1 rfl))) ?_
                refine y_iconst 126 c122_125 rfl ?_
                refine y_iadd 127 c122_126 rfl ?_
                refine y_iastore 128 c122_127 rfl ka385 (by omega) (y_nar0 _) ?_
                have hT11406 := hT11404.up 385 ((1 : Int).toNat) ((m 385 1) + 1) 0 8 rfl (by omega)
                have hF11407 := hF11405.up 385 ((1 : Int).toNat) ((m 385 1) + 1) rfl
                refine y_aload 129 c122_128 rfl rfl rfl ?_
                refine y_getR 132 c122_129 rfl kf376_30 ?_
                refine y_iconst 134 c122_132 rfl ?_
                refine y_iload 135 c122_134 rfl rfl ?_
                refine y_imul 136 c122_135 rfl ?_
                refine y_top 48 (by decide) ?_
                refine y_iconst 138 c122_136 rfl ?_
                refine y_iload 139 c122_138 rfl rfl ?_
                refine y_imul 140 c122_139 rfl ?_
                refine y_iadd 141 c122_140 rfl ?_
                refine y_iload 142 c122_141 rfl rfl ?_
                refine y_iadd 143 c122_142 rfl ?_
                refine y_iconst 144 c122_143 rfl ?_
                refine y_iastore 145 c122_144 rfl ka393 (by omega) (y_nar1 (by omega)) ?_
                have hT11408 := hT11406.up 393 (((48 + (8 * ((m 383 1) - 1))) + (m 385 1)).toNat) 1 0 1 rfl (by omega)
                have hF11409 := hF11407.up 393 (((48 + (8 * ((m 383 1) - 1))) + (m 385 1)).toNat) 1 (wFm1_393 (by omega))
                refine y_aload 146 c122_145 rfl rfl rfl ?_
                refine y_iconst 148 c122_146 rfl ?_
                have es11411 : (yup (yup (yup mq11397 394 ((8 + (m 385 1)).toNat) (mq11239 376 4)) 385 ((1 : Int).toNat) ((m 385 1) + 1)) 393 (((48 + (8 * ((m 383 1) - 1))) + (m 385 1)).toNat) 1) 376 1 = m 376 1 := ((yup_na (by decide)).trans ((yup_na (by decide)).trans ((yup_na (by decide)).trans ((hFq11397 376 1 rfl).trans (hFq11239 376 1 rfl)))))
                have es11412 : (yup (yup (yup mq11397 394 ((8 + (m 385 1)).toNat) (mq11239 376 4)) 385 ((1 : Int).toNat) ((m 385 1) + 1)) 393 (((48 + (8 * ((m 383 1) - 1))) + (m 385 1)).toNat) 1) 376 3 = mq11397 376 3 := rfl
                have tb11413 := hTq11397.atp 376 3 0 3 rfl
                have es11414 : (yup (yup (yup mq11397 394 ((8 + (m 385 1)).toNat) (mq11239 376 4)) 385 ((1 : Int).toNat) ((m 385 1) + 1)) 393 (((48 + (8 * ((m 383 1) - 1))) + (m 385 1)).toNat) 1) 376 6 = mq11397 376 6 := rfl
                have tb11415 := hTq11397.atp 376 6 0 320 rfl
                have es11416 : (yup (yup (yup mq11397 394 ((8 + (m 385 1)).toNat) (mq11239 376 4)) 385 ((1 : Int).toNat) ((m 385 1) + 1)) 393 (((48 + (8 * ((m 383 1) - 1))) + (m 385 1)).toNat) 1) 376 8 = mq11397 376 8 := rfl
                have tb11417 := hTq11397.atp 376 8 ((-1)) 320 rfl
                have em11418 : mu (yup (yup (yup mq11397 394 ((8 + (m 385 1)).toNat) (mq11239 376 4)) 385 ((1 : Int).toNat) ((m 385 1) + 1)) 393 (((48 + (8 * ((m 383 1) - 1))) + (m 385 1)).toNat) 1) = mu mq11397 := mu_fr ((yup_na (by decide)).trans ((yup_na (by decide)).trans (yup_na (by decide)))) ((yup_na (by decide)).trans ((yup_na (by decide)).trans (yup_na (by decide)))) ((yup_na (by decide)).trans ((yup_na (by decide)).trans (yup_na (by decide))))
                refine y_callIB 151 [.ref 376, yI 59] [] c122_148 rfl rfl rfl rfl rfl (ycanO km118 ko376) (t118 hT11408 (by omega) (by omega)) (fun rq11410 mq11410 nq11410 hq11410 => ?_)
                obtain ⟨rfl, hTq11410, hFq11410, hq11410⟩ := hq11410
                have x1q11410 : mq11410 376 1 = m 376 1 := ((hFq11410 376 1 rfl).trans ((yup_na (by decide)).trans ((yup_na (by decide)).trans ((yup_na (by decide)).trans ((hFq11397 376 1 rfl).trans (hFq11239 376 1 rfl))))))
                have hF11419 := hF11409.tr hFq11410 wNw_wFm1
                refine y_if 155 154 c122_151 rfl rfl (yz_ne (by omega)) (fun hb11420 => ?_) (fun hb11420 => ?_)
                · have es11421 : mq11410 376 1 = m 376 1 := ((hFq11410 376 1 rfl).trans ((yup_na (by decide)).trans ((yup_na (by decide)).trans ((yup_na (by decide)).trans ((hFq11397 376 1 rfl).trans (hFq11239 376 1 rfl))))))
                  have tb11422 := hTq11410.atp 376 3 0 3 rfl
                  have tb11423 := hTq11410.atp 376 6 0 320 rfl
                  have tb11424 := hTq11410.atp 376 8 ((-1)) 320 rfl
                  exact y_retU c122_155 ⟨rfl, hTq11410, hF11419, by omega, by omega⟩
                · have es11425 : mq11410 376 1 = m 376 1 := ((hFq11410 376 1 rfl).trans ((yup_na (by decide)).trans ((yup_na (by decide)).trans ((yup_na (by decide)).trans ((hFq11397 376 1 rfl).trans (hFq11239 376 1 rfl))))))
                  have tb11426 := hTq11410.atp 376 3 0 3 rfl
                  have tb11427 := hTq11410.atp 376 6 0 320 rfl
                  have tb11428 := hTq11410.atp 376 8 ((-1)) 320 rfl
                  exact y_retU c122_154 ⟨rfl, hTq11410, hF11419, by omega, by omega⟩
            · have es11429 : mq11397 376 1 = m 376 1 := ((hFq11397 376 1 rfl).trans (hFq11239 376 1 rfl))
              have tb11430 := hTq11397.atp 376 3 0 3 rfl
              have tb11431 := hTq11397.atp 376 6 0 320 rfl
              have tb11432 := hTq11397.atp 376 8 ((-1)) 320 rfl
              exact y_retU c122_93 ⟨rfl, hTq11397, hF11401, by omega, by omega⟩
