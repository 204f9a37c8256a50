/-! FUNCTIONS OF THE METHODS: printed by wip/fn/dc.py -/
def F18 (x0 : Int64) (x2 : Int) : Int := (iAnd (l2i (lUsh x0 (wr (8 * x2)))) 255)
set_option maxRecDepth 100000 in
theorem d18 {L : Nat} {xs : Nat → Int32} {k d n : Nat} {c : yS3} {x0 : Int64} {x2 : Int} {m : yM} (gx2 : rg x2) (hR : RM c m) : PC (gZ L xs) k d 18 [.long x0, yI x2] m n (qX m (F18 x0 x2)) := by
  have hX : F18 x0 x2 = F18 x0 x2 := rfl
  have Hr : ∀ r, F18 x0 x2 = r → rg r → ∀ n' : Nat, (qX m (F18 x0 x2)) (.inl (some (yI r))) m n' := fun r e h n' => by subst e; exact ⟨rfl, h, rfl⟩
  refine PC.mk [some (.long x0), none, some (yI x2)] kn18 rfl ?_
  refine p_lload 1 c18_0 rfl rfl ?_
  refine p_iconst 3 c18_1 rfl ?_
  refine p_iload 4 c18_3 rfl rfl ?_
  refine p_imul 5 c18_4 rfl ?_
  refine p_lushr 6 c18_5 rfl ?_
  refine p_l2i 7 c18_6 rfl ?_
  refine p_iconst 10 c18_7 rfl ?_
  refine p_iand 11 c18_10 rfl ?_
  exact p_ireturn c18_11 (Hr _ hX (rg_to _) _)
def B19_2 (f : Nat) (x0 : Int64) (x2 : Int) (x3 : Int) (m : yM) : Option (Int ⊕ (Int ⊕ Int)) := (if x3 < x2 then (if F18 x0 x3 < 32 then (some (.inr (.inr 0))) else (if 126 < F18 x0 x3 then (some (.inr (.inr 0))) else (some (.inl (wr (x3 + 1)))))) else (some (.inr (.inl x3))))
set_option maxRecDepth 100000 in
theorem tB19_2 {L : Nat} {xs : Nat → Int32} {Q : xO → yM → Nat → Prop} {k d n : Nat} {c : yS3} {f : Nat} {x0 : Int64} {x2 : Int} {x3 : Int} {m : yM} {j1 j4 : Option Value} (hk : k ≤ f) (gx2 : rg x2) (gx3 : rg x3) (hR : RM c m) (Hn : ∀ (y0 : Int) (z0 z1 : Option Value) (n' : Nat), B19_2 f x0 x2 x3 m = some (.inl y0) → rg y0 → ∀ k', k' < k → PW (gZ L xs) k' 19 d 2 [some (.long x0), z0, some (yI x2), some (yI y0), z1] [] m n' Q) (He : ∀ (y0 : Int) (z0 z1 : Option Value) (n' : Nat), B19_2 f x0 x2 x3 m = some (.inr (.inl y0)) → rg y0 → ∀ k', k' ≤ k → PW (gZ L xs) k' 19 d 36 [some (.long x0), z0, some (yI x2), some (yI y0), z1] [] m n' Q) (Hr : ∀ r, B19_2 f x0 x2 x3 m = some (.inr (.inr r)) → rg r → ∀ n', Q (.inl (some (yI r))) m n') : PW (gZ L xs) k 19 d 2 [some (.long x0), j1, some (yI x2), some (yI x3), j4] [] m n Q := by
  have hX : B19_2 f x0 x2 x3 m = B19_2 f x0 x2 x3 m := rfl
  refine p_iload 3 c19_2 rfl rfl ?_
  refine p_iload 4 c19_3 rfl rfl ?_
  refine p_icmp 36 7 c19_4 rfl rfl ((yc_ge gx3 gx2).trans Int.not_lt.symm) (fun hb28 k29 hk29 => ?_) (fun hb28 k30 hk30 => ?_)
  · have hX31 := hX.trans (if_neg hb28)
    exact He _ _ _ _ hX31 gx3 _ (by omega)
  · have hX32 := hX.trans (if_pos (Classical.not_not.mp hb28))
    refine p_lload 8 c19_7 rfl rfl ?_
    refine p_iload 9 c19_8 rfl rfl ?_
    refine p_cX 12 [.long x0, yI x3] [] c19_9 rfl rfl rfl (fun k' hk' d' => d18 gx3 hR) (fun hg35 n34 k33 hk33 => ?_)
    refine p_istore 14 c19_12 rfl rfl ?_
    refine p_iload 16 c19_14 rfl rfl ?_
    refine p_iconst 18 c19_16 rfl ?_
    refine p_icmp 28 21 c19_18 rfl rfl (yc_lt hg35 (rgD rfl)) (fun hb36 k37 hk37 => ?_) (fun hb36 k38 hk38 => ?_)
    · have hX39 := hX32.trans (if_pos hb36)
      refine p_iconst 29 c19_28 rfl ?_
      exact p_ireturn c19_29 (Hr _ hX39 (rgD rfl) _)
    · have hX40 := hX32.trans (if_neg hb36)
      refine p_iload 23 c19_21 rfl rfl ?_
      refine p_iconst 25 c19_23 rfl ?_
      refine p_icmp 30 28 c19_25 rfl rfl ((yc_le hg35 (rgD rfl)).trans Int.not_lt.symm) (fun hb41 k42 hk42 => ?_) (fun hb41 k43 hk43 => ?_)
      · have hX44 := hX40.trans (if_neg hb41)
        refine p_iinc 33 c19_30 rfl rfl rfl ?_
        refine p_gotoD 2 c19_33 rfl (fun k45 hk45 => ?_)
        exact Hn _ _ _ _ hX44 (rg_wr _) _ (by omega)
      · have hX46 := hX40.trans (if_pos (Classical.not_not.mp hb41))
        refine p_iconst 29 c19_28 rfl ?_
        exact p_ireturn c19_29 (Hr _ hX46 (rgD rfl) _)
def F19 (f : Nat) (x0 : Int64) (x2 : Int) (m : yM) : Option Int := (bQ (ploop (fun (l : Int) => B19_2 f x0 x2 l m) f 0) (fun l47 => (some 1)) (fun r => some r))
set_option maxRecDepth 100000 in
theorem d19 {L : Nat} {xs : Nat → Int32} {k d n : Nat} {c : yS3} {f : Nat} {x0 : Int64} {x2 : Int} {m : yM} (hk : k ≤ f) (gx2 : rg x2) (hR : RM c m) : PC (gZ L xs) k d 19 [.long x0, yI x2] m n (qO m (F19 f x0 x2 m)) := by
  have hX : F19 f x0 x2 m = F19 f x0 x2 m := rfl
  have Hr : ∀ r, F19 f x0 x2 m = some r → rg r → ∀ n' : Nat, (qO m (F19 f x0 x2 m)) (.inl (some (yI r))) m n' := fun r e h n' => ⟨r, rfl, h, rfl, e⟩
  refine PC.mk [some (.long x0), none, some (yI x2), none, none] kn19 rfl ?_
  refine p_iconst 1 c19_0 rfl ?_
  refine p_istore 2 c19_1 rfl rfl ?_
  refine PW.ploop (K := k) (pce := 36) (fun (l : Int) => B19_2 f x0 x2 l m) (fun (l : Int) j => [some (.long x0), j 1, some (yI x2), some (yI l), j 4]) (fun (l : Int) => rg l) (fun r' => rg r' → ∀ n' : Nat, (qO m (F19 f x0 x2 m)) (.inl (some (yI r'))) m n') (fun k' hk' l j n' hl Hn' He' Hr' => tB19_2 (f := f) (by omega) gx2 hl hR (fun y0 y1 y2 n2 e h0 => Hn' y0 (fun q => ([none, y1, none, none, y2] : List (Option Value)).getD q none) n2 e h0) (fun y0 y1 y2 n2 e h0 => He' y0 (fun q => ([none, y1, none, none, y2] : List (Option Value)).getD q none) n2 e h0) Hr') f k (by omega) (Nat.le_refl _) 0 (fun q => ([some (.long x0), none, some (yI x2), some (yI 0), none] : xL).getD q none) _ (rgD rfl) (fun l47 j50 n52 e49 hl48 k51 hk51 => ?_) (fun r' e' => ?_)
  · have hX53 := hX.trans (bQ_l e49)
    refine p_iconst 37 c19_36 rfl ?_
    exact p_ireturn c19_37 (Hr _ hX53 (rgD rfl) _)
  · exact Hr r' (hX.trans (bQ_r e'))
def J20_19 (f : Nat) (m : yM) : Option ((Int ⊕ Nat) × yM) := (some (.inr 9, m))
set_option maxRecDepth 100000 in
theorem tJ20_19 {L : Nat} {xs : Nat → Int32} {Q : xO → yM → Nat → Prop} {k d n : Nat} {c : yS3} {f : Nat} {m : yM} {j0 j1 j2 j3 j4 : Option Value} (hk : k ≤ f) (hR : RM c m) (Hr : ∀ r m', J20_19 f m = some (.inl r, m') → rg r → RM c m' → ∀ n', Q (.inl (some (yI r))) m' n') (Ht : ∀ e m', J20_19 f m = some (.inr e, m') → (fun e => e = 9 ∨ e = 10) e → RM c m' → ∀ x n', Q (.inr (e, x)) m' n') : PW (gZ L xs) k 20 d 19 [j0, j1, j2, j3, j4] [] m n Q := by
  have hX : J20_19 f m = J20_19 f m := rfl
  exact p_throw c20_19 (fun x n' => Ht _ _ hX (Or.inl rfl) hR x n')
def B20_50 (f : Nat) (x1 : Int64) (x3 : Int) (x4 : Int) (m : yM) : Option ((Int × yM) ⊕ ((Int × yM) ⊕ ((Int ⊕ Nat) × yM))) := (if x3 < x4 then (some (.inr (.inl (x4, m)))) else (some (.inl ((wr (x4 + 1)), yup (yup m 1 (m 0 6).toNat (nar 3 (i2c (F18 x1 (wr (x3 - x4)))))) 0 6 (wr ((m 0 6) + 1))))))
set_option maxRecDepth 100000 in
theorem tB20_50 {L : Nat} {xs : Nat → Int32} {Q : xO → yM → Nat → Prop} {k d n : Nat} {c : yS3} {f : Nat} {x1 : Int64} {x3 : Int} {x4 : Int} {m : yM} {j2 : Option Value} (hk : k ≤ f) (gx3 : rg x3) (gx4 : rg x4) (hR : RM c m) (Hn : ∀ (y0 : Int) (z0 : Option Value) (m' : yM) (n' : Nat), B20_50 f x1 x3 x4 m = some (.inl (y0, m')) → rg y0 → RM c m' → ∀ k', k' < k → PW (gZ L xs) k' 20 d 50 [some (.ref 0), some (.long x1), z0, some (yI x3), some (yI y0)] [] m' n' Q) (He : ∀ (y0 : Int) (z0 : Option Value) (m' : yM) (n' : Nat), B20_50 f x1 x3 x4 m = some (.inr (.inl (y0, m'))) → rg y0 → RM c m' → ∀ k', k' ≤ k → PW (gZ L xs) k' 20 d 90 [some (.ref 0), some (.long x1), z0, some (yI x3), some (yI y0)] [] m' n' Q) (Hr : ∀ r m', B20_50 f x1 x3 x4 m = some (.inr (.inr (.inl r, m'))) → rg r → RM c m' → ∀ n', Q (.inl (some (yI r))) m' n') (Ht : ∀ e m', B20_50 f x1 x3 x4 m = some (.inr (.inr (.inr e, m'))) → (fun e => e = 9 ∨ e = 10) e → RM c m' → ∀ x n', Q (.inr (e, x)) m' n') : PW (gZ L xs) k 20 d 50 [some (.ref 0), some (.long x1), j2, some (yI x3), some (yI x4)] [] m n Q := by
  have hX : B20_50 f x1 x3 x4 m = B20_50 f x1 x3 x4 m := rfl
  refine p_iload 52 c20_50 rfl rfl ?_
  refine p_iload 53 c20_52 rfl rfl ?_
  refine p_icmp 90 56 c20_53 rfl rfl (yc_gt gx4 gx3) (fun hb66 k67 hk67 => ?_) (fun hb66 k68 hk68 => ?_)
  · have hX69 := hX.trans (if_pos hb66)
    exact He _ _ _ _ hX69 gx4 hR _ (by omega)
  · have hX70 := hX.trans (if_neg hb66)
    refine p_aload 57 c20_56 rfl rfl ?_
    refine p_getR 60 c20_57 rfl kf0_0 ?_
    refine p_aload 61 c20_60 rfl rfl ?_
    refine p_getX 64 (m 0 6) c20_61 rfl kf0_6 rfl ?_
    refine p_lload 65 c20_64 rfl rfl ?_
    refine p_iload 66 c20_65 rfl rfl ?_
    refine p_iload 68 c20_66 rfl rfl ?_
    refine p_isub 69 c20_68 rfl ?_
    refine p_cX 72 [.long x1, yI (wr (x3 - x4))] [yI (m 0 6), .ref 1] c20_69 rfl rfl rfl (fun k' hk' d' => d18 (rg_wr _) hR) (fun hg73 n72 k71 hk71 => ?_)
    refine p_i2c 73 c20_72 rfl ?_
    refine p_iaS 74 c20_73 rfl ka1 (hR.rg _ _) (nar 3 (i2c (F18 x1 (wr (x3 - x4))))) rfl (fun hx74 => ?_)
    have hR75 := hR.up 1 (m 0 6).toNat (v := nar 3 (i2c (F18 x1 (wr (x3 - x4))))) (nselA (by decide)) (rg_to _)
    refine p_aload 75 c20_74 rfl rfl ?_
    refine p_dup 76 c20_75 rfl rfl ?_
    refine p_getX 79 (m 0 6) c20_76 rfl kf0_6 (yup_na (by decide)) ?_
    refine p_iconst 80 c20_79 rfl ?_
    refine p_iadd 81 c20_80 rfl ?_
    refine p_putI 84 c20_81 rfl kf0_6 ?_
    have hR76 := hR75.up 0 6 (v := wr ((m 0 6) + 1)) (nselD rfl) (rg_wr _)
    refine p_iinc 87 c20_84 rfl rfl rfl ?_
    refine p_gotoD 50 c20_87 rfl (fun k77 hk77 => ?_)
    exact Hn _ _ _ _ hX70 (rg_wr _) hR76 _ (by omega)
def F20 (f : Nat) (x1 : Int64) (x3 : Int) (m : yM) : Option ((Int ⊕ Nat) × yM) := (if x3 < 1 then (J20_19 f m) else (if 8 < x3 then (J20_19 f m) else (bP (F19 f x1 x3 m) (fun r56 => (if r56 = 0 then (J20_19 f m) else (if 320 < wr ((m 0 6) + x3) then (some (.inr 10, m)) else (bL (yloop (fun (l : Int) ml => B20_50 f x1 x3 l ml) f 1 m) (fun l78 m84 => (some (.inl (m84 0 6), m84))) (fun r mr => some (r, mr)))))))))
set_option maxRecDepth 100000 in
theorem d20 {L : Nat} {xs : Nat → Int32} {k d n : Nat} {c : yS3} {f : Nat} {x1 : Int64} {x3 : Int} {m : yM} (hk : k ≤ f) (gx3 : rg x3) (hR : RM c m) : PC (gZ L xs) k d 20 [.ref 0, .long x1, yI x3] m n (qEI (fun e => e = 9 ∨ e = 10) c (F20 f x1 x3 m)) := by
  have hX : F20 f x1 x3 m = F20 f x1 x3 m := rfl
  have Hr : ∀ r m', F20 f x1 x3 m = some (.inl r, m') → rg r → RM c m' → ∀ n' : Nat, (qEI (fun e => e = 9 ∨ e = 10) c (F20 f x1 x3 m)) (.inl (some (yI r))) m' n' := fun r m' e h1 h2 n' => Or.inl ⟨r, rfl, h1, h2, e⟩
  have Ht : ∀ e m', F20 f x1 x3 m = some (.inr e, m') → (fun e => e = 9 ∨ e = 10) e → RM c m' → ∀ x n' : Nat, (qEI (fun e => e = 9 ∨ e = 10) c (F20 f x1 x3 m)) (.inr (e, x)) m' n' := fun e m' e1 h1 h2 x n' => Or.inr ⟨e, x, rfl, h1, h2, e1⟩
  refine PC.mk [some (.ref 0), some (.long x1), none, some (yI x3), none] kn20 rfl ?_
  refine p_iload 1 c20_0 rfl rfl ?_
  refine p_iconst 2 c20_1 rfl ?_
  refine p_icmp 19 5 c20_2 rfl rfl (yc_lt gx3 (rgD rfl)) (fun hb16 k17 hk17 => ?_) (fun hb16 k18 hk18 => ?_)
  · have hX19 := hX.trans (if_pos hb16)
    exact tJ20_19 (f := f) (by omega) hR (fun r' m' e' => Hr r' m' (hX19.trans e')) (fun r' m' e' => Ht r' m' (hX19.trans e'))
  · have hX20 := hX.trans (if_neg hb16)
    refine p_iload 6 c20_5 rfl rfl ?_
    refine p_iconst 8 c20_6 rfl ?_
    refine p_icmp 19 11 c20_8 rfl rfl (yc_gt gx3 (rgD rfl)) (fun hb21 k22 hk22 => ?_) (fun hb21 k23 hk23 => ?_)
    · have hX24 := hX20.trans (if_pos hb21)
      exact tJ20_19 (f := f) (by omega) hR (fun r' m' e' => Hr r' m' (hX24.trans e')) (fun r' m' e' => Ht r' m' (hX24.trans e'))
    · have hX25 := hX20.trans (if_neg hb21)
      refine p_lload 12 c20_11 rfl rfl ?_
      refine p_iload 13 c20_12 rfl rfl ?_
      refine p_cO 16 [.long x1, yI x3] [] c20_13 rfl rfl rfl (fun k' hk' d' => d19 (f := f) (by omega) gx3 hR) (fun r56 hF54 hg55 n27 k26 hk26 => ?_)
      have hX57 := hX25.trans (bP_s hF54)
      refine p_if 27 19 c20_16 rfl rfl (yz_ne hg55) (fun hb58 k59 hk59 => ?_) (fun hb58 k60 hk60 => ?_)
      · have hX61 := hX57.trans (if_neg hb58)
        refine p_aload 28 c20_27 rfl rfl ?_
        refine p_getX 31 (m 0 6) c20_28 rfl kf0_6 rfl ?_
        refine p_iload 32 c20_31 rfl rfl ?_
        refine p_iadd 33 c20_32 rfl ?_
        refine p_iconst 36 c20_33 rfl ?_
        refine p_icmp 47 39 c20_36 rfl rfl ((yc_le (rg_wr _) (rgD rfl)).trans Int.not_lt.symm) (fun hb62 k63 hk63 => ?_) (fun hb62 k64 hk64 => ?_)
        · have hX65 := hX61.trans (if_neg hb62)
          refine p_iconst 48 c20_47 rfl ?_
          refine p_istore 50 c20_48 rfl rfl ?_
          refine PW.loop (K := k63) (pce := 90) (fun (l : Int) ml => B20_50 f x1 x3 l ml) (fun (l : Int) j => [some (.ref 0), some (.long x1), j 2, some (yI x3), some (yI l)]) (fun (l : Int) => rg l) (RM c) (fun (r' : (Int ⊕ Nat)) m' => (∀ v, r' = .inl v → rg v → RM c m' → ∀ n' : Nat, (qEI (fun e => e = 9 ∨ e = 10) c (F20 f x1 x3 m)) (.inl (some (yI v))) m' n') ∧ (∀ e, r' = .inr e → (fun e => e = 9 ∨ e = 10) e → RM c m' → ∀ x n' : Nat, (qEI (fun e => e = 9 ∨ e = 10) c (F20 f x1 x3 m)) (.inr (e, x)) m' n')) (fun k' hk' l j m' n' hl hI Hn' He' Hr' => tB20_50 (f := f) (by omega) gx3 hl hI (fun y0 y1 m2 n2 e h0 hR2 => Hn' y0 (fun q => ([none, none, y1, none, none] : List (Option Value)).getD q none) m2 n2 e h0 hR2) (fun y0 y1 m2 n2 e h0 hR2 => He' y0 (fun q => ([none, none, y1, none, none] : List (Option Value)).getD q none) m2 n2 e h0 hR2) (fun v m2 e => (Hr' (.inl v) m2 e).1 v rfl) (fun v m2 e => (Hr' (.inr v) m2 e).2 v rfl)) f k63 (by omega) (Nat.le_refl _) 1 (fun q => ([some (.ref 0), some (.long x1), none, some (yI x3), some (yI 1)] : xL).getD q none) _ _ (rgD rfl) hR (fun l78 j81 m84 n83 e80 hl79 hR85 k82 hk82 => ?_) (fun r' m' e' => ?_)
          · have hX86 := hX65.trans (bL_l e80)
            refine p_aload 91 c20_90 rfl rfl ?_
            refine p_getX 94 (m84 0 6) c20_91 rfl kf0_6 rfl ?_
            exact p_ireturn c20_94 (Hr _ _ hX86 (hR85.rg _ _) hR85 _)
          · exact ⟨fun v hv => Hr v m' ((hX65.trans (bL_r e')).trans (by rw [hv])), fun v hv => Ht v m' ((hX65.trans (bL_r e')).trans (by rw [hv]))⟩
        · have hX87 := hX61.trans (if_pos (Classical.not_not.mp hb62))
          exact p_throw c20_39 (fun x n' => Ht _ _ hX87 (Or.inr rfl) hR x n')
      · have hX88 := hX57.trans (if_pos (Classical.not_not.mp hb58))
        exact tJ20_19 (f := f) (by omega) hR (fun r' m' e' => Hr r' m' (hX88.trans e')) (fun r' m' e' => Ht r' m' (hX88.trans e'))
def F21 (f : Nat) (x1 : Int64) (x3 : Int) (m : yM) : Option (Int × yM) := (bT (F20 f x1 x3 m) (fun r91 m93 => (some (0, yup m93 413 0 ((i2l r91).toInt)))) (fun e' m93 => (if e' = 9 then (some (1, m93)) else (if e' = 10 then (some (2, m93)) else none))))
set_option maxRecDepth 100000 in
theorem d21 {L : Nat} {xs : Nat → Int32} {k d n : Nat} {c : yS3} {f : Nat} {x1 : Int64} {x3 : Int} {m : yM} (hk : k ≤ f) (gx3 : rg x3) (hR : RM c m) : PC (gZ L xs) k d 21 [.ref 0, .long x1, yI x3, .ref 413] m n (qS c (F21 f x1 x3 m)) := by
  have hX : F21 f x1 x3 m = F21 f x1 x3 m := rfl
  have Hr : ∀ r m', F21 f x1 x3 m = some (r, m') → rg r → RM c m' → ∀ n' : Nat, (qS c (F21 f x1 x3 m)) (.inl (some (yI r))) m' n' := fun r m' e h1 h2 n' => ⟨r, rfl, h1, h2, e⟩
  refine PC.mk [some (.ref 0), some (.long x1), none, some (yI x3), some (.ref 413), none] kn21 rfl ?_
  refine p_aload 2 c21_0 rfl rfl ?_
  refine p_iconst 3 c21_2 rfl ?_
  refine p_aload 4 c21_3 rfl rfl ?_
  refine p_lload 5 c21_4 rfl rfl ?_
  refine p_iload 6 c21_5 rfl rfl ?_
  refine p_cTI 9 [.ref 0, .long x1, yI x3] [yI 0, .ref 413] c21_6 rfl rfl rfl (fun k' hk' d' => d20 (f := f) (by omega) gx3 hR) (fun r91 m93 hF89 hg90 hR94 n15 k14 hk14 => ?_) (fun e' q98 m93 n' hF89 hE96 hR97 => ?_)
  · have hX92 := hX.trans (bT_l hF89)
    refine p_i2l 10 c21_9 rfl ?_
    refine p_laS 11 c21_10 rfl kl413 (rgD rfl) (fun hx99 => ?_)
    have hR100 := hR94.up 413 0 (v := (i2l r91).toInt) (nselD rfl) (rg_i2l _)
    refine p_goto 22 c21_11 rfl ?_
    refine p_iconst 23 c21_22 rfl ?_
    exact p_ireturn c21_23 (Hr _ _ hX92 (rgD rfl) hR100 _)
  · have hXe := hX.trans (bT_r hF89)
    rcases hE96 with rfl | rfl
    · have hX101 := hXe.trans (if_pos rfl)
      refine ⟨fun pq hpq k102 hk102 => ?_, fun hno => absurd (kh21_6_9.symm.trans hno) (by simp)⟩
      have hpp : pq = 14 := by have := kh21_6_9.symm.trans hpq; simpa using this.symm
      subst hpp
      refine p_astore 16 c21_14 rfl rfl ?_
      refine p_iconst 17 c21_16 rfl ?_
      exact p_ireturn c21_17 (Hr _ _ hX101 (rgD rfl) hR97 _)
    · have hX103 := (hXe.trans (if_neg (by decide))).trans (if_pos rfl)
      refine ⟨fun pq hpq k104 hk104 => ?_, fun hno => absurd (kh21_6_10.symm.trans hno) (by simp)⟩
      have hpp : pq = 18 := by have := kh21_6_10.symm.trans hpq; simpa using this.symm
      subst hpp
      refine p_astore 20 c21_18 rfl rfl ?_
      refine p_iconst 21 c21_20 rfl ?_
      exact p_ireturn c21_21 (Hr _ _ hX103 (rgD rfl) hR97 _)
def F22 (x0 : Int) (x1 : Int) (x2 : Int) : Int := (if x0 < x1 then 0 else (if x2 < x0 then 0 else 1))
set_option maxRecDepth 100000 in
theorem d22 {L : Nat} {xs : Nat → Int32} {k d n : Nat} {c : yS3} {x0 : Int} {x1 : Int} {x2 : Int} {m : yM} (gx0 : rg x0) (gx1 : rg x1) (gx2 : rg x2) (hR : RM c m) : PC (gZ L xs) k d 22 [yI x0, yI x1, yI x2] m n (qX m (F22 x0 x1 x2)) := by
  have hX : F22 x0 x1 x2 = F22 x0 x1 x2 := rfl
  have Hr : ∀ r, F22 x0 x1 x2 = r → rg r → ∀ n' : Nat, (qX m (F22 x0 x1 x2)) (.inl (some (yI r))) m n' := fun r e h n' => by subst e; exact ⟨rfl, h, rfl⟩
  refine PC.mk [some (yI x0), some (yI x1), some (yI x2)] kn22 rfl ?_
  refine p_iload 1 c22_0 rfl rfl ?_
  refine p_iload 2 c22_1 rfl rfl ?_
  refine p_icmp 14 5 c22_2 rfl rfl (yc_lt gx0 gx1) (fun hb118 k119 hk119 => ?_) (fun hb118 k120 hk120 => ?_)
  · have hX121 := hX.trans (if_pos hb118)
    refine p_iconst 15 c22_14 rfl ?_
    exact p_ireturn c22_15 (Hr _ hX121 (rgD rfl) _)
  · have hX122 := hX.trans (if_neg hb118)
    refine p_iload 6 c22_5 rfl rfl ?_
    refine p_iload 7 c22_6 rfl rfl ?_
    refine p_icmp 14 10 c22_7 rfl rfl (yc_gt gx0 gx2) (fun hb123 k124 hk124 => ?_) (fun hb123 k125 hk125 => ?_)
    · have hX126 := hX122.trans (if_pos hb123)
      refine p_iconst 15 c22_14 rfl ?_
      exact p_ireturn c22_15 (Hr _ hX126 (rgD rfl) _)
    · have hX127 := hX122.trans (if_neg hb123)
      refine p_iconst 11 c22_10 rfl ?_
      refine p_goto 15 c22_11 rfl ?_
      exact p_ireturn c22_15 (Hr _ hX127 (rgD rfl) _)
def J23_10 (f : Nat) (x1 : Int) (xs1 : Int) (m : yM) : Option (Int × yM) := (some (x1, yup m 376 57 xs1))
set_option maxRecDepth 100000 in
theorem tJ23_10 {L : Nat} {xs : Nat → Int32} {Q : xO → yM → Nat → Prop} {k d n : Nat} {c : yS3} {f : Nat} {x1 : Int} {xs1 : Int} {m : yM} {j0 j2 : Option Value} (hk : k ≤ f) (gx1 : rg x1) (gxs1 : rg xs1) (hR : RM c m) (Hr : ∀ r m', J23_10 f x1 xs1 m = some (r, m') → rg r → RM c m' → ∀ n', Q (.inl (some (yI r))) m' n') : PW (gZ L xs) k 23 d 10 [j0, some (yI x1), j2] [yI xs1, .ref 376] m n Q := by
  have hX : J23_10 f x1 xs1 m = J23_10 f x1 xs1 m := rfl
  refine p_putI 13 c23_10 rfl kf376_57 ?_
  have hR135 := hR.up 376 57 (v := xs1) (nselD rfl) gxs1
  refine p_iload 14 c23_13 rfl rfl ?_
  exact p_ireturn c23_14 (Hr _ _ hX gx1 hR135 _)
def F23 (f : Nat) (x1 : Int) (x2 : Int) (m : yM) : Option (Int × yM) := (if x1 = 0 then (J23_10 f x1 x2 m) else (J23_10 f x1 0 m))
set_option maxRecDepth 100000 in
theorem d23 {L : Nat} {xs : Nat → Int32} {k d n : Nat} {c : yS3} {f : Nat} {x1 : Int} {x2 : Int} {m : yM} (hk : k ≤ f) (gx1 : rg x1) (gx2 : rg x2) (hR : RM c m) : PC (gZ L xs) k d 23 [.ref 376, yI x1, yI x2] m n (qS c (F23 f x1 x2 m)) := by
  have hX : F23 f x1 x2 m = F23 f x1 x2 m := rfl
  have Hr : ∀ r m', F23 f x1 x2 m = some (r, m') → rg r → RM c m' → ∀ n' : Nat, (qS c (F23 f x1 x2 m)) (.inl (some (yI r))) m' n' := fun r m' e h1 h2 n' => ⟨r, rfl, h1, h2, e⟩
  refine PC.mk [some (.ref 376), some (yI x1), some (yI x2)] kn23 rfl ?_
  refine p_aload 1 c23_0 rfl rfl ?_
  refine p_iload 2 c23_1 rfl rfl ?_
  refine p_if 9 5 c23_2 rfl rfl (yz_eq gx1) (fun hb131 k132 hk132 => ?_) (fun hb131 k133 hk133 => ?_)
  · have hX134 := hX.trans (if_pos hb131)
    refine p_iload 10 c23_9 rfl rfl ?_
    exact tJ23_10 (f := f) (by omega) gx1 gx2 hR (fun r' m' e' => Hr r' m' (hX134.trans e'))
  · have hX136 := hX.trans (if_neg hb131)
    refine p_iconst 6 c23_5 rfl ?_
    refine p_goto 10 c23_6 rfl ?_
    exact tJ23_10 (f := f) (by omega) gx1 (rgD rfl) hR (fun r' m' e' => Hr r' m' (hX136.trans e'))
def F24 (f : Nat) (x1 : Int) (m : yM) : Option (Int × yM) := (some (0, yup m 376 57 x1))
set_option maxRecDepth 100000 in
theorem d24 {L : Nat} {xs : Nat → Int32} {k d n : Nat} {c : yS3} {f : Nat} {x1 : Int} {m : yM} (hk : k ≤ f) (gx1 : rg x1) (hR : RM c m) : PC (gZ L xs) k d 24 [.ref 376, yI x1] m n (qS c (F24 f x1 m)) := by
  have hX : F24 f x1 m = F24 f x1 m := rfl
  have Hr : ∀ r m', F24 f x1 m = some (r, m') → rg r → RM c m' → ∀ n' : Nat, (qS c (F24 f x1 m)) (.inl (some (yI r))) m' n' := fun r m' e h1 h2 n' => ⟨r, rfl, h1, h2, e⟩
  refine PC.mk [some (.ref 376), some (yI x1)] kn24 rfl ?_
  refine p_aload 1 c24_0 rfl rfl ?_
  refine p_iload 2 c24_1 rfl rfl ?_
  refine p_putI 5 c24_2 rfl kf376_57 ?_
  have hR163 := hR.up 376 57 (v := x1) (nselD rfl) gx1
  refine p_iconst 6 c24_5 rfl ?_
  exact p_ireturn c24_6 (Hr _ _ hX (rgD rfl) hR163 _)
def B25_20 (f : Nat) (x1 : Int64) (x3 : Int) (x4 : Int) (m : yM) : Option ((Int × yM) ⊕ ((Int × yM) ⊕ (Int × yM))) := (if x4 < x3 then (if F22 (iAnd (l2i (lShr x1 (wr (8 * x4)))) 255) 32 126 = 0 then (bI (F24 f 1 m) (fun r166 m168 => (some (.inr (.inr (r166, m168)))))) else (some (.inl ((wr (x4 + 1)), m)))) else (some (.inr (.inl (x4, m)))))
set_option maxRecDepth 100000 in
theorem tB25_20 {L : Nat} {xs : Nat → Int32} {Q : xO → yM → Nat → Prop} {k d n : Nat} {c : yS3} {f : Nat} {x1 : Int64} {x3 : Int} {x4 : Int} {m : yM} {j2 : Option Value} (hk : k ≤ f) (gx3 : rg x3) (gx4 : rg x4) (hR : RM c m) (Hn : ∀ (y0 : Int) (z0 : Option Value) (m' : yM) (n' : Nat), B25_20 f x1 x3 x4 m = some (.inl (y0, m')) → rg y0 → RM c m' → ∀ k', k' < k → PW (gZ L xs) k' 25 d 20 [some (.ref 376), some (.long x1), z0, some (yI x3), some (yI y0)] [] m' n' Q) (He : ∀ (y0 : Int) (z0 : Option Value) (m' : yM) (n' : Nat), B25_20 f x1 x3 x4 m = some (.inr (.inl (y0, m'))) → rg y0 → RM c m' → ∀ k', k' ≤ k → PW (gZ L xs) k' 25 d 60 [some (.ref 376), some (.long x1), z0, some (yI x3), some (yI y0)] [] m' n' Q) (Hr : ∀ r m', B25_20 f x1 x3 x4 m = some (.inr (.inr (r, m'))) → rg r → RM c m' → ∀ n', Q (.inl (some (yI r))) m' n') : PW (gZ L xs) k 25 d 20 [some (.ref 376), some (.long x1), j2, some (yI x3), some (yI x4)] [] m n Q := by
  have hX : B25_20 f x1 x3 x4 m = B25_20 f x1 x3 x4 m := rfl
  refine p_iload 22 c25_20 rfl rfl ?_
  refine p_iload 23 c25_22 rfl rfl ?_
  refine p_icmp 60 26 c25_23 rfl rfl ((yc_ge gx4 gx3).trans Int.not_lt.symm) (fun hb147 k148 hk148 => ?_) (fun hb147 k149 hk149 => ?_)
  · have hX150 := hX.trans (if_neg hb147)
    exact He _ _ _ _ hX150 gx4 hR _ (by omega)
  · have hX151 := hX.trans (if_pos (Classical.not_not.mp hb147))
    refine p_lload 27 c25_26 rfl rfl ?_
    refine p_iconst 29 c25_27 rfl ?_
    refine p_iload 31 c25_29 rfl rfl ?_
    refine p_imul 32 c25_31 rfl ?_
    refine p_lshr 33 c25_32 rfl ?_
    refine p_l2i 34 c25_33 rfl ?_
    refine p_iconst 37 c25_34 rfl ?_
    refine p_iand 38 c25_37 rfl ?_
    refine p_iconst 40 c25_38 rfl ?_
    refine p_iconst 42 c25_40 rfl ?_
    refine p_cX 45 [yI (iAnd (l2i (lShr x1 (wr (8 * x4)))) 255), yI 32, yI 126] [] c25_42 rfl rfl rfl (fun k' hk' d' => d22 (rg_to _) (rgD rfl) (rgD rfl) hR) (fun hg154 n153 k152 hk152 => ?_)
    refine p_if 54 48 c25_45 rfl rfl (yz_ne hg154) (fun hb155 k156 hk156 => ?_) (fun hb155 k157 hk157 => ?_)
    · have hX158 := hX151.trans (if_neg hb155)
      refine p_iinc 57 c25_54 rfl rfl rfl ?_
      refine p_gotoD 20 c25_57 rfl (fun k159 hk159 => ?_)
      exact Hn _ _ _ _ hX158 (rg_wr _) hR _ (by omega)
    · have hX160 := hX151.trans (if_pos (Classical.not_not.mp hb155))
      refine p_aload 49 c25_48 rfl rfl ?_
      refine p_iconst 50 c25_49 rfl ?_
      refine p_cS 53 [.ref 376, yI 1] [] c25_50 rfl rfl rfl (fun k' hk' d' => d24 (f := f) (by omega) (rgD rfl) hR) (fun r166 m168 hF164 hg165 hR169 n162 k161 hk161 => ?_)
      have hX167 := hX160.trans (bI_s hF164)
      exact p_ireturn c25_53 (Hr _ _ hX167 hg165 hR169 _)
def B25_92 (f : Nat) (x1 : Int64) (x4 : Int) (m : yM) : Option ((Int × yM) ⊕ ((Int × yM) ⊕ (Int × yM))) := (if x4 < 0 then (some (.inr (.inl (x4, m)))) else (some (.inl ((wr (x4 + (-1))), yup (yup m 377 (m 376 1).toNat (iAnd (l2i (lShr x1 (wr (8 * x4)))) 255)) 376 1 (wr ((m 376 1) + 1))))))
set_option maxRecDepth 100000 in
theorem tB25_92 {L : Nat} {xs : Nat → Int32} {Q : xO → yM → Nat → Prop} {k d n : Nat} {c : yS3} {f : Nat} {x1 : Int64} {x4 : Int} {m : yM} {j2 j3 : Option Value} (hk : k ≤ f) (gx4 : rg x4) (hR : RM c m) (Hn : ∀ (y0 : Int) (z0 z1 : Option Value) (m' : yM) (n' : Nat), B25_92 f x1 x4 m = some (.inl (y0, m')) → rg y0 → RM c m' → ∀ k', k' < k → PW (gZ L xs) k' 25 d 92 [some (.ref 376), some (.long x1), z0, z1, some (yI y0)] [] m' n' Q) (He : ∀ (y0 : Int) (z0 z1 : Option Value) (m' : yM) (n' : Nat), B25_92 f x1 x4 m = some (.inr (.inl (y0, m'))) → rg y0 → RM c m' → ∀ k', k' ≤ k → PW (gZ L xs) k' 25 d 134 [some (.ref 376), some (.long x1), z0, z1, some (yI y0)] [] m' n' Q) (Hr : ∀ r m', B25_92 f x1 x4 m = some (.inr (.inr (r, m'))) → rg r → RM c m' → ∀ n', Q (.inl (some (yI r))) m' n') : PW (gZ L xs) k 25 d 92 [some (.ref 376), some (.long x1), j2, j3, some (yI x4)] [] m n Q := by
  have hX : B25_92 f x1 x4 m = B25_92 f x1 x4 m := rfl
  refine p_iload 94 c25_92 rfl rfl ?_
  refine p_if 134 97 c25_94 rfl rfl (yz_lt gx4) (fun hb195 k196 hk196 => ?_) (fun hb195 k197 hk197 => ?_)
  · have hX198 := hX.trans (if_pos hb195)
    exact He _ _ _ _ _ hX198 gx4 hR _ (by omega)
  · have hX199 := hX.trans (if_neg hb195)
    refine p_aload 98 c25_97 rfl rfl ?_
    refine p_getR 101 c25_98 rfl kf376_0 ?_
    refine p_aload 102 c25_101 rfl rfl ?_
    refine p_getX 105 (m 376 1) c25_102 rfl kf376_1 rfl ?_
    refine p_lload 106 c25_105 rfl rfl ?_
    refine p_iconst 108 c25_106 rfl ?_
    refine p_iload 110 c25_108 rfl rfl ?_
    refine p_imul 111 c25_110 rfl ?_
    refine p_lshr 112 c25_111 rfl ?_
    refine p_l2i 113 c25_112 rfl ?_
    refine p_iconst 116 c25_113 rfl ?_
    refine p_iand 117 c25_116 rfl ?_
    refine p_iaS 118 c25_117 rfl ka377 (hR.rg _ _) (iAnd (l2i (lShr x1 (wr (8 * x4)))) 255) (nar0 (rg_to _)) (fun hx200 => ?_)
    have hR201 := hR.up 377 (m 376 1).toNat (v := iAnd (l2i (lShr x1 (wr (8 * x4)))) 255) (nselA (by decide)) (rg_to _)
    refine p_aload 119 c25_118 rfl rfl ?_
    refine p_dup 120 c25_119 rfl rfl ?_
    refine p_getX 123 (m 376 1) c25_120 rfl kf376_1 (yup_na (by decide)) ?_
    refine p_iconst 124 c25_123 rfl ?_
    refine p_iadd 125 c25_124 rfl ?_
    refine p_putI 128 c25_125 rfl kf376_1 ?_
    have hR202 := hR201.up 376 1 (v := wr ((m 376 1) + 1)) (nselD rfl) (rg_wr _)
    refine p_iinc 131 c25_128 rfl rfl rfl ?_
    refine p_gotoD 92 c25_131 rfl (fun k203 hk203 => ?_)
    exact Hn _ _ _ _ _ hX199 (rg_wr _) hR202 _ (by omega)
def J25_78 (f : Nat) (x1 : Int64) (x3 : Int) (xs1 : Int) (m : yM) : Option (Int × yM) := (bI (F23 f xs1 2 m) (fun r187 m189 => (if r187 = 0 then (some (0, m189)) else (bL (yloop (fun (l : Int) ml => B25_92 f x1 l ml) f (wr (x3 - 1)) m189) (fun l204 m210 => (some (m210 376 1, m210))) (fun r mr => some (r, mr))))))
set_option maxRecDepth 100000 in
theorem tJ25_78 {L : Nat} {xs : Nat → Int32} {Q : xO → yM → Nat → Prop} {k d n : Nat} {c : yS3} {f : Nat} {x1 : Int64} {x3 : Int} {xs1 : Int} {m : yM} {j2 j4 : Option Value} (hk : k ≤ f) (gx3 : rg x3) (gxs1 : rg xs1) (hR : RM c m) (Hr : ∀ r m', J25_78 f x1 x3 xs1 m = some (r, m') → rg r → RM c m' → ∀ n', Q (.inl (some (yI r))) m' n') : PW (gZ L xs) k 25 d 78 [some (.ref 376), some (.long x1), j2, some (yI x3), j4] [yI xs1, .ref 376] m n Q := by
  have hX : J25_78 f x1 x3 xs1 m = J25_78 f x1 x3 xs1 m := rfl
  refine p_iconst 79 c25_78 rfl ?_
  refine p_cS 82 [.ref 376, yI xs1, yI 2] [] c25_79 rfl rfl rfl (fun k' hk' d' => d23 (f := f) (by omega) gxs1 (rgD rfl) hR) (fun r187 m189 hF185 hg186 hR190 n184 k183 hk183 => ?_)
  have hX188 := hX.trans (bI_s hF185)
  refine p_if 87 85 c25_82 rfl rfl (yz_ne hg186) (fun hb191 k192 hk192 => ?_) (fun hb191 k193 hk193 => ?_)
  · have hX194 := hX188.trans (if_neg hb191)
    refine p_iload 88 c25_87 rfl rfl ?_
    refine p_iconst 89 c25_88 rfl ?_
    refine p_isub 90 c25_89 rfl ?_
    refine p_istore 92 c25_90 rfl rfl ?_
    refine PW.loop (K := k192) (pce := 134) (fun (l : Int) ml => B25_92 f x1 l ml) (fun (l : Int) j => [some (.ref 376), some (.long x1), j 2, j 3, some (yI l)]) (fun (l : Int) => rg l) (RM c) (fun r' m' => rg r' → RM c m' → ∀ n' : Nat, Q (.inl (some (yI r'))) m' n') (fun k' hk' l j m' n' hl hI Hn' He' Hr' => tB25_92 (f := f) (by omega) hl hI (fun y0 y1 y2 m2 n2 e h0 hR2 => Hn' y0 (fun q => ([none, none, y1, y2, none] : List (Option Value)).getD q none) m2 n2 e h0 hR2) (fun y0 y1 y2 m2 n2 e h0 hR2 => He' y0 (fun q => ([none, none, y1, y2, none] : List (Option Value)).getD q none) m2 n2 e h0 hR2) Hr') f k192 (by omega) (Nat.le_refl _) (wr (x3 - 1)) (fun q => ([some (.ref 376), some (.long x1), j2, some (yI x3), some (yI (wr (x3 - 1)))] : xL).getD q none) _ _ (rg_wr _) hR190 (fun l204 j207 m210 n209 e206 hl205 hR211 k208 hk208 => ?_) (fun r' m' e' => ?_)
    · have hX212 := hX194.trans (bL_l e206)
      refine p_aload 135 c25_134 rfl rfl ?_
      refine p_getX 138 (m210 376 1) c25_135 rfl kf376_1 rfl ?_
      exact p_ireturn c25_138 (Hr _ _ hX212 (hR211.rg _ _) hR211 _)
    · exact Hr r' m' (hX194.trans (bL_r e'))
  · have hX213 := hX188.trans (if_pos (Classical.not_not.mp hb191))
    refine p_iconst 86 c25_85 rfl ?_
    exact p_ireturn c25_86 (Hr _ _ hX213 (rgD rfl) hR190 _)
def F25 (f : Nat) (x1 : Int64) (x3 : Int) (m : yM) : Option (Int × yM) := (bI (F23 f (F22 x3 1 8) 1 m) (fun r139 m141 => (if r139 = 0 then (some (0, m141)) else (bL (yloop (fun (l : Int) ml => B25_20 f x1 x3 l ml) f 0 m141) (fun l170 m176 => (if 320 < wr ((m176 376 1) + x3) then (J25_78 f x1 x3 0 m176) else (J25_78 f x1 x3 1 m176))) (fun r mr => some (r, mr))))))
set_option maxRecDepth 100000 in
theorem d25 {L : Nat} {xs : Nat → Int32} {k d n : Nat} {c : yS3} {f : Nat} {x1 : Int64} {x3 : Int} {m : yM} (hk : k ≤ f) (gx3 : rg x3) (hR : RM c m) : PC (gZ L xs) k d 25 [.ref 376, .long x1, yI x3] m n (qS c (F25 f x1 x3 m)) := by
  have hX : F25 f x1 x3 m = F25 f x1 x3 m := rfl
  have Hr : ∀ r m', F25 f x1 x3 m = some (r, m') → rg r → RM c m' → ∀ n' : Nat, (qS c (F25 f x1 x3 m)) (.inl (some (yI r))) m' n' := fun r m' e h1 h2 n' => ⟨r, rfl, h1, h2, e⟩
  refine PC.mk [some (.ref 376), some (.long x1), none, some (yI x3), none] kn25 rfl ?_
  refine p_aload 1 c25_0 rfl rfl ?_
  refine p_iload 2 c25_1 rfl rfl ?_
  refine p_iconst 3 c25_2 rfl ?_
  refine p_iconst 5 c25_3 rfl ?_
  refine p_cX 8 [yI x3, yI 1, yI 8] [.ref 376] c25_5 rfl rfl rfl (fun k' hk' d' => d22 gx3 (rgD rfl) (rgD rfl) hR) (fun hg128 n117 k116 hk116 => ?_)
  refine p_iconst 9 c25_8 rfl ?_
  refine p_cS 12 [.ref 376, yI (F22 x3 1 8), yI 1] [] c25_9 rfl rfl rfl (fun k' hk' d' => d23 (f := f) (by omega) hg128 (rgD rfl) hR) (fun r139 m141 hF137 hg138 hR142 n130 k129 hk129 => ?_)
  have hX140 := hX.trans (bI_s hF137)
  refine p_if 17 15 c25_12 rfl rfl (yz_ne hg138) (fun hb143 k144 hk144 => ?_) (fun hb143 k145 hk145 => ?_)
  · have hX146 := hX140.trans (if_neg hb143)
    refine p_iconst 18 c25_17 rfl ?_
    refine p_istore 20 c25_18 rfl rfl ?_
    refine PW.loop (K := k144) (pce := 60) (fun (l : Int) ml => B25_20 f x1 x3 l ml) (fun (l : Int) j => [some (.ref 376), some (.long x1), j 2, some (yI x3), some (yI l)]) (fun (l : Int) => rg l) (RM c) (fun r' m' => rg r' → RM c m' → ∀ n' : Nat, (qS c (F25 f x1 x3 m)) (.inl (some (yI r'))) m' n') (fun k' hk' l j m' n' hl hI Hn' He' Hr' => tB25_20 (f := f) (by omega) gx3 hl hI (fun y0 y1 m2 n2 e h0 hR2 => Hn' y0 (fun q => ([none, none, y1, none, none] : List (Option Value)).getD q none) m2 n2 e h0 hR2) (fun y0 y1 m2 n2 e h0 hR2 => He' y0 (fun q => ([none, none, y1, none, none] : List (Option Value)).getD q none) m2 n2 e h0 hR2) Hr') f k144 (by omega) (Nat.le_refl _) 0 (fun q => ([some (.ref 376), some (.long x1), none, some (yI x3), some (yI 0)] : xL).getD q none) _ _ (rgD rfl) hR142 (fun l170 j173 m176 n175 e172 hl171 hR177 k174 hk174 => ?_) (fun r' m' e' => ?_)
    · have hX178 := hX146.trans (bL_l e172)
      refine p_aload 61 c25_60 rfl rfl ?_
      refine p_aload 62 c25_61 rfl rfl ?_
      refine p_getX 65 (m176 376 1) c25_62 rfl kf376_1 rfl ?_
      refine p_iload 66 c25_65 rfl rfl ?_
      refine p_iadd 67 c25_66 rfl ?_
      refine p_iconst 70 c25_67 rfl ?_
      refine p_icmp 77 73 c25_70 rfl rfl (yc_gt (rg_wr _) (rgD rfl)) (fun hb179 k180 hk180 => ?_) (fun hb179 k181 hk181 => ?_)
      · have hX182 := hX178.trans (if_pos hb179)
        refine p_iconst 78 c25_77 rfl ?_
        exact tJ25_78 (f := f) (by omega) gx3 (rgD rfl) hR177 (fun r' m' e' => Hr r' m' (hX182.trans e'))
      · have hX214 := hX178.trans (if_neg hb179)
        refine p_iconst 74 c25_73 rfl ?_
        refine p_goto 78 c25_74 rfl ?_
        exact tJ25_78 (f := f) (by omega) gx3 (rgD rfl) hR177 (fun r' m' e' => Hr r' m' (hX214.trans e'))
    · exact Hr r' m' (hX146.trans (bL_r e'))
  · have hX215 := hX140.trans (if_pos (Classical.not_not.mp hb143))
    refine p_iconst 16 c25_15 rfl ?_
    exact p_ireturn c25_16 (Hr _ _ hX215 (rgD rfl) hR142 _)
def J27_12 (f : Nat) (m : yM) : Option ((Int ⊕ Nat) × yM) := (some (.inr 9, m))
set_option maxRecDepth 100000 in
theorem tJ27_12 {L : Nat} {xs : Nat → Int32} {Q : xO → yM → Nat → Prop} {k d n : Nat} {c : yS3} {f : Nat} {m : yM} {j0 j1 : Option Value} (hk : k ≤ f) (hR : RM c m) (Hr : ∀ r m', J27_12 f m = some (.inl r, m') → rg r → RM c m' → ∀ n', Q (.inl (some (yI r))) m' n') (Ht : ∀ e m', J27_12 f m = some (.inr e, m') → (fun e => e = 9) e → RM c m' → ∀ x n', Q (.inr (e, x)) m' n') : PW (gZ L xs) k 27 d 12 [j0, j1] [] m n Q := by
  have hX : J27_12 f m = J27_12 f m := rfl
  exact p_throw c27_12 (fun x n' => Ht _ _ hX rfl hR x n')
def F27 (f : Nat) (x1 : Int) (m : yM) : Option ((Int ⊕ Nat) × yM) := (if x1 < 0 then (J27_12 f m) else (if m 0 6 < x1 then (J27_12 f m) else (some (.inl (wr ((m 0 6) - x1)), yup m 0 6 (wr ((m 0 6) - x1))))))
set_option maxRecDepth 100000 in
theorem d27 {L : Nat} {xs : Nat → Int32} {k d n : Nat} {c : yS3} {f : Nat} {x1 : Int} {m : yM} (hk : k ≤ f) (gx1 : rg x1) (hR : RM c m) : PC (gZ L xs) k d 27 [.ref 0, yI x1] m n (qEI (fun e => e = 9) c (F27 f x1 m)) := by
  have hX : F27 f x1 m = F27 f x1 m := rfl
  have Hr : ∀ r m', F27 f x1 m = some (.inl r, m') → rg r → RM c m' → ∀ n' : Nat, (qEI (fun e => e = 9) c (F27 f x1 m)) (.inl (some (yI r))) m' n' := fun r m' e h1 h2 n' => Or.inl ⟨r, rfl, h1, h2, e⟩
  have Ht : ∀ e m', F27 f x1 m = some (.inr e, m') → (fun e => e = 9) e → RM c m' → ∀ x n' : Nat, (qEI (fun e => e = 9) c (F27 f x1 m)) (.inr (e, x)) m' n' := fun e m' e1 h1 h2 x n' => Or.inr ⟨e, x, rfl, h1, h2, e1⟩
  refine PC.mk [some (.ref 0), some (yI x1)] kn27 rfl ?_
  refine p_iload 1 c27_0 rfl rfl ?_
  refine p_if 12 4 c27_1 rfl rfl (yz_lt gx1) (fun hb231 k232 hk232 => ?_) (fun hb231 k233 hk233 => ?_)
  · have hX234 := hX.trans (if_pos hb231)
    exact tJ27_12 (f := f) (by omega) hR (fun r' m' e' => Hr r' m' (hX234.trans e')) (fun r' m' e' => Ht r' m' (hX234.trans e'))
  · have hX235 := hX.trans (if_neg hb231)
    refine p_iload 5 c27_4 rfl rfl ?_
    refine p_aload 6 c27_5 rfl rfl ?_
    refine p_getX 9 (m 0 6) c27_6 rfl kf0_6 rfl ?_
    refine p_icmp 20 12 c27_9 rfl rfl ((yc_le gx1 (hR.rg _ _)).trans Int.not_lt.symm) (fun hb236 k237 hk237 => ?_) (fun hb236 k238 hk238 => ?_)
    · have hX239 := hX235.trans (if_neg hb236)
      refine p_aload 21 c27_20 rfl rfl ?_
      refine p_dup 22 c27_21 rfl rfl ?_
      refine p_getX 25 (m 0 6) c27_22 rfl kf0_6 rfl ?_
      refine p_iload 26 c27_25 rfl rfl ?_
      refine p_isub 27 c27_26 rfl ?_
      refine p_putI 30 c27_27 rfl kf0_6 ?_
      have hR240 := hR.up 0 6 (v := wr ((m 0 6) - x1)) (nselD rfl) (rg_wr _)
      refine p_aload 31 c27_30 rfl rfl ?_
      refine p_getX 34 (wr ((m 0 6) - x1)) c27_31 rfl kf0_6 (yup_eq _ _ _ _) ?_
      exact p_ireturn c27_34 (Hr _ _ hX239 (rg_wr _) hR240 _)
    · have hX241 := hX235.trans (if_pos (Classical.not_not.mp hb236))
      exact tJ27_12 (f := f) (by omega) hR (fun r' m' e' => Hr r' m' (hX241.trans e')) (fun r' m' e' => Ht r' m' (hX241.trans e'))
def F28 (f : Nat) (x1 : Int) (m : yM) : Option (Int × yM) := (bT (F27 f x1 m) (fun r244 m246 => (some (0, yup m246 413 0 ((i2l r244).toInt)))) (fun e' m246 => (if e' = 9 then (some (1, m246)) else none)))
set_option maxRecDepth 100000 in
theorem d28 {L : Nat} {xs : Nat → Int32} {k d n : Nat} {c : yS3} {f : Nat} {x1 : Int} {m : yM} (hk : k ≤ f) (gx1 : rg x1) (hR : RM c m) : PC (gZ L xs) k d 28 [.ref 0, yI x1, .ref 413] m n (qS c (F28 f x1 m)) := by
  have hX : F28 f x1 m = F28 f x1 m := rfl
  have Hr : ∀ r m', F28 f x1 m = some (r, m') → rg r → RM c m' → ∀ n' : Nat, (qS c (F28 f x1 m)) (.inl (some (yI r))) m' n' := fun r m' e h1 h2 n' => ⟨r, rfl, h1, h2, e⟩
  refine PC.mk [some (.ref 0), some (yI x1), some (.ref 413), none] kn28 rfl ?_
  refine p_aload 1 c28_0 rfl rfl ?_
  refine p_iconst 2 c28_1 rfl ?_
  refine p_aload 3 c28_2 rfl rfl ?_
  refine p_iload 4 c28_3 rfl rfl ?_
  refine p_cTI 7 [.ref 0, yI x1] [yI 0, .ref 413] c28_4 rfl rfl rfl (fun k' hk' d' => d27 (f := f) (by omega) gx1 hR) (fun r244 m246 hF242 hg243 hR247 n230 k229 hk229 => ?_) (fun e' q251 m246 n' hF242 hE249 hR250 => ?_)
  · have hX245 := hX.trans (bT_l hF242)
    refine p_i2l 8 c28_7 rfl ?_
    refine p_laS 9 c28_8 rfl kl413 (rgD rfl) (fun hx252 => ?_)
    have hR253 := hR247.up 413 0 (v := (i2l r244).toInt) (nselD rfl) (rg_i2l _)
    refine p_goto 15 c28_9 rfl ?_
    refine p_iconst 16 c28_15 rfl ?_
    exact p_ireturn c28_16 (Hr _ _ hX245 (rgD rfl) hR253 _)
  · have hXe := hX.trans (bT_r hF242)
    cases (show e' = 9 from hE249)
    have hX254 := hXe.trans (if_pos rfl)
    refine ⟨fun pq hpq k255 hk255 => ?_, fun hno => absurd (r_kh28_4_9.symm.trans hno) (by simp)⟩
    have hpp : pq = 12 := by have := r_kh28_4_9.symm.trans hpq; simpa using this.symm
    subst hpp
    refine p_astore 13 c28_12 rfl rfl ?_
    refine p_iconst 14 c28_13 rfl ?_
    exact p_ireturn c28_14 (Hr _ _ hX254 (rgD rfl) hR250 _)
def F29 (f : Nat) (x1 : Int) (m : yM) : Option (Int × yM) := (bI (F23 f (F22 x1 0 (m 376 1)) 1 m) (fun r272 m274 => (if r272 = 0 then (some (0, m274)) else (some (wr ((m274 376 1) - x1), yup m274 376 1 (wr ((m274 376 1) - x1)))))))
set_option maxRecDepth 100000 in
theorem d29 {L : Nat} {xs : Nat → Int32} {k d n : Nat} {c : yS3} {f : Nat} {x1 : Int} {m : yM} (hk : k ≤ f) (gx1 : rg x1) (hR : RM c m) : PC (gZ L xs) k d 29 [.ref 376, yI x1] m n (qS c (F29 f x1 m)) := by
  have hX : F29 f x1 m = F29 f x1 m := rfl
  have Hr : ∀ r m', F29 f x1 m = some (r, m') → rg r → RM c m' → ∀ n' : Nat, (qS c (F29 f x1 m)) (.inl (some (yI r))) m' n' := fun r m' e h1 h2 n' => ⟨r, rfl, h1, h2, e⟩
  refine PC.mk [some (.ref 376), some (yI x1)] kn29 rfl ?_
  refine p_aload 1 c29_0 rfl rfl ?_
  refine p_iload 2 c29_1 rfl rfl ?_
  refine p_iconst 3 c29_2 rfl ?_
  refine p_aload 4 c29_3 rfl rfl ?_
  refine p_getX 7 (m 376 1) c29_4 rfl kf376_1 rfl ?_
  refine p_cX 10 [yI x1, yI 0, yI (m 376 1)] [.ref 376] c29_7 rfl rfl rfl (fun k' hk' d' => d22 gx1 (rgD rfl) (hR.rg _ _) hR) (fun hg267 n266 k265 hk265 => ?_)
  refine p_iconst 11 c29_10 rfl ?_
  refine p_cS 14 [.ref 376, yI (F22 x1 0 (m 376 1)), yI 1] [] c29_11 rfl rfl rfl (fun k' hk' d' => d23 (f := f) (by omega) hg267 (rgD rfl) hR) (fun r272 m274 hF270 hg271 hR275 n269 k268 hk268 => ?_)
  have hX273 := hX.trans (bI_s hF270)
  refine p_if 19 17 c29_14 rfl rfl (yz_ne hg271) (fun hb276 k277 hk277 => ?_) (fun hb276 k278 hk278 => ?_)
  · have hX279 := hX273.trans (if_neg hb276)
    refine p_aload 20 c29_19 rfl rfl ?_
    refine p_dup 21 c29_20 rfl rfl ?_
    refine p_getX 24 (m274 376 1) c29_21 rfl kf376_1 rfl ?_
    refine p_iload 25 c29_24 rfl rfl ?_
    refine p_isub 26 c29_25 rfl ?_
    refine p_putI 29 c29_26 rfl kf376_1 ?_
    have hR280 := hR275.up 376 1 (v := wr ((m274 376 1) - x1)) (nselD rfl) (rg_wr _)
    refine p_aload 30 c29_29 rfl rfl ?_
    refine p_getX 33 (wr ((m274 376 1) - x1)) c29_30 rfl kf376_1 (yup_eq _ _ _ _) ?_
    exact p_ireturn c29_33 (Hr _ _ hX279 (rg_wr _) hR280 _)
  · have hX281 := hX273.trans (if_pos (Classical.not_not.mp hb276))
    refine p_iconst 18 c29_17 rfl ?_
    exact p_ireturn c29_18 (Hr _ _ hX281 (rgD rfl) hR275 _)
def F30 (f : Nat) (A : Nat) (m : yM) : Option yM := (some (yup (yup (yup (yup (yup (yup (yup (yup m A 9 0) A 10 0) A 11 0) A 12 0) A 13 0) A 14 1) A 15 0) A 16 0))
set_option maxRecDepth 100000 in
theorem d30 {L : Nat} {xs : Nat → Int32} {k d n : Nat} {c : yS3} {f : Nat} {A : Nat} {m : yM} (hk : k ≤ f) (hA : (A = 256 ∨ A = 316)) (hR : RM c m) : PC (gZ L xs) k d 30 [.ref A] m n (qV c (F30 f A m)) := by
  have hX : F30 f A m = F30 f A m := rfl
  have Hr : ∀ m', F30 f A m = some m' → RM c m' → ∀ n' : Nat, (qV c (F30 f A m)) (.inl none) m' n' := fun m' e h n' => ⟨rfl, h, e⟩
  refine PC.mk [some (.ref A)] kn30 rfl ?_
  refine p_aload 1 c30_0 rfl rfl ?_
  refine p_iconst 2 c30_1 rfl ?_
  refine p_putI 5 c30_2 rfl (kP_9 hA) ?_
  have hR300 := hR.up A 9 (v := 0) (nselA (by omega)) (rgD rfl)
  refine p_aload 6 c30_5 rfl rfl ?_
  refine p_iconst 7 c30_6 rfl ?_
  refine p_putI 10 c30_7 rfl (kP_10 hA) ?_
  have hR301 := hR300.up A 10 (v := 0) (nselA (by omega)) (rgD rfl)
  refine p_aload 11 c30_10 rfl rfl ?_
  refine p_iconst 12 c30_11 rfl ?_
  refine p_putI 15 c30_12 rfl (kP_11 hA) ?_
  have hR302 := hR301.up A 11 (v := 0) (nselA (by omega)) (rgD rfl)
  refine p_aload 16 c30_15 rfl rfl ?_
  refine p_iconst 17 c30_16 rfl ?_
  refine p_putI 20 c30_17 rfl (kP_12 hA) ?_
  have hR303 := hR302.up A 12 (v := 0) (nselA (by omega)) (rgD rfl)
  refine p_aload 21 c30_20 rfl rfl ?_
  refine p_iconst 22 c30_21 rfl ?_
  refine p_putI 25 c30_22 rfl (kP_13 hA) ?_
  have hR304 := hR303.up A 13 (v := 0) (nselA (by omega)) (rgD rfl)
  refine p_aload 26 c30_25 rfl rfl ?_
  refine p_iconst 27 c30_26 rfl ?_
  refine p_putI 30 c30_27 rfl (kP_14 hA) ?_
  have hR305 := hR304.up A 14 (v := 1) (nselA (by omega)) (rgD rfl)
  refine p_aload 31 c30_30 rfl rfl ?_
  refine p_iconst 32 c30_31 rfl ?_
  refine p_putI 35 c30_32 rfl (kP_15 hA) ?_
  have hR306 := hR305.up A 15 (v := 0) (nselA (by omega)) (rgD rfl)
  refine p_aload 36 c30_35 rfl rfl ?_
  refine p_iconst 37 c30_36 rfl ?_
  refine p_putI 40 c30_37 rfl (kP_16 hA) ?_
  have hR307 := hR306.up A 16 (v := 0) (nselA (by omega)) (rgD rfl)
  exact p_return c30_40 (Hr _ hX hR307 _)
def F31 (x0 : Int) : Int := (if x0 < 97 then 0 else (if 122 < x0 then 0 else 1))
set_option maxRecDepth 100000 in
theorem d31 {L : Nat} {xs : Nat → Int32} {k d n : Nat} {c : yS3} {x0 : Int} {m : yM} (gx0 : rg x0) (hR : RM c m) : PC (gZ L xs) k d 31 [yI x0] m n (qX m (F31 x0)) := by
  have hX : F31 x0 = F31 x0 := rfl
  have Hr : ∀ r, F31 x0 = r → rg r → ∀ n' : Nat, (qX m (F31 x0)) (.inl (some (yI r))) m n' := fun r e h n' => by subst e; exact ⟨rfl, h, rfl⟩
  refine PC.mk [some (yI x0)] kn31 rfl ?_
  refine p_iload 1 c31_0 rfl rfl ?_
  refine p_iconst 3 c31_1 rfl ?_
  refine p_icmp 16 6 c31_3 rfl rfl (yc_lt gx0 (rgD rfl)) (fun hb325 k326 hk326 => ?_) (fun hb325 k327 hk327 => ?_)
  · have hX328 := hX.trans (if_pos hb325)
    refine p_iconst 17 c31_16 rfl ?_
    exact p_ireturn c31_17 (Hr _ hX328 (rgD rfl) _)
  · have hX329 := hX.trans (if_neg hb325)
    refine p_iload 7 c31_6 rfl rfl ?_
    refine p_iconst 9 c31_7 rfl ?_
    refine p_icmp 16 12 c31_9 rfl rfl (yc_gt gx0 (rgD rfl)) (fun hb330 k331 hk331 => ?_) (fun hb330 k332 hk332 => ?_)
    · have hX333 := hX329.trans (if_pos hb330)
      refine p_iconst 17 c31_16 rfl ?_
      exact p_ireturn c31_17 (Hr _ hX333 (rgD rfl) _)
    · have hX334 := hX329.trans (if_neg hb330)
      refine p_iconst 13 c31_12 rfl ?_
      refine p_goto 17 c31_13 rfl ?_
      exact p_ireturn c31_17 (Hr _ hX334 (rgD rfl) _)
def F34 (x0 : Int) : Int := (if x0 = 123 then 1 else (if x0 = 125 then 1 else (if x0 = 40 then 1 else (if x0 = 41 then 1 else (if x0 = 61 then 1 else (if x0 = 46 then 1 else (if x0 = 44 then 1 else (if x0 = 59 then 1 else (if x0 = 58 then 1 else 0)))))))))
set_option maxRecDepth 100000 in
theorem d34 {L : Nat} {xs : Nat → Int32} {k d n : Nat} {c : yS3} {x0 : Int} {m : yM} (gx0 : rg x0) (hR : RM c m) : PC (gZ L xs) k d 34 [yI x0] m n (qX m (F34 x0)) := by
  have hX : F34 x0 = F34 x0 := rfl
  have Hr : ∀ r, F34 x0 = r → rg r → ∀ n' : Nat, (qX m (F34 x0)) (.inl (some (yI r))) m n' := fun r e h n' => by subst e; exact ⟨rfl, h, rfl⟩
  refine PC.mk [some (yI x0)] kn34 rfl ?_
  refine p_iload 1 c34_0 rfl rfl ?_
  refine p_iconst 3 c34_1 rfl ?_
  refine p_icmp 54 6 c34_3 rfl rfl (yc_eq gx0 (rgD rfl)) (fun hb353 k354 hk354 => ?_) (fun hb353 k355 hk355 => ?_)
  · have hX356 := hX.trans (if_pos hb353)
    refine p_iconst 55 c34_54 rfl ?_
    refine p_goto 59 c34_55 rfl ?_
    exact p_ireturn c34_59 (Hr _ hX356 (rgD rfl) _)
  · have hX357 := hX.trans (if_neg hb353)
    refine p_iload 7 c34_6 rfl rfl ?_
    refine p_iconst 9 c34_7 rfl ?_
    refine p_icmp 54 12 c34_9 rfl rfl (yc_eq gx0 (rgD rfl)) (fun hb358 k359 hk359 => ?_) (fun hb358 k360 hk360 => ?_)
    · have hX361 := hX357.trans (if_pos hb358)
      refine p_iconst 55 c34_54 rfl ?_
      refine p_goto 59 c34_55 rfl ?_
      exact p_ireturn c34_59 (Hr _ hX361 (rgD rfl) _)
    · have hX362 := hX357.trans (if_neg hb358)
      refine p_iload 13 c34_12 rfl rfl ?_
      refine p_iconst 15 c34_13 rfl ?_
      refine p_icmp 54 18 c34_15 rfl rfl (yc_eq gx0 (rgD rfl)) (fun hb363 k364 hk364 => ?_) (fun hb363 k365 hk365 => ?_)
      · have hX366 := hX362.trans (if_pos hb363)
        refine p_iconst 55 c34_54 rfl ?_
        refine p_goto 59 c34_55 rfl ?_
        exact p_ireturn c34_59 (Hr _ hX366 (rgD rfl) _)
      · have hX367 := hX362.trans (if_neg hb363)
        refine p_iload 19 c34_18 rfl rfl ?_
        refine p_iconst 21 c34_19 rfl ?_
        refine p_icmp 54 24 c34_21 rfl rfl (yc_eq gx0 (rgD rfl)) (fun hb368 k369 hk369 => ?_) (fun hb368 k370 hk370 => ?_)
        · have hX371 := hX367.trans (if_pos hb368)
          refine p_iconst 55 c34_54 rfl ?_
          refine p_goto 59 c34_55 rfl ?_
          exact p_ireturn c34_59 (Hr _ hX371 (rgD rfl) _)
        · have hX372 := hX367.trans (if_neg hb368)
          refine p_iload 25 c34_24 rfl rfl ?_
          refine p_iconst 27 c34_25 rfl ?_
          refine p_icmp 54 30 c34_27 rfl rfl (yc_eq gx0 (rgD rfl)) (fun hb373 k374 hk374 => ?_) (fun hb373 k375 hk375 => ?_)
          · have hX376 := hX372.trans (if_pos hb373)
            refine p_iconst 55 c34_54 rfl ?_
            refine p_goto 59 c34_55 rfl ?_
            exact p_ireturn c34_59 (Hr _ hX376 (rgD rfl) _)
          · have hX377 := hX372.trans (if_neg hb373)
            refine p_iload 31 c34_30 rfl rfl ?_
            refine p_iconst 33 c34_31 rfl ?_
            refine p_icmp 54 36 c34_33 rfl rfl (yc_eq gx0 (rgD rfl)) (fun hb378 k379 hk379 => ?_) (fun hb378 k380 hk380 => ?_)
            · have hX381 := hX377.trans (if_pos hb378)
              refine p_iconst 55 c34_54 rfl ?_
              refine p_goto 59 c34_55 rfl ?_
              exact p_ireturn c34_59 (Hr _ hX381 (rgD rfl) _)
            · have hX382 := hX377.trans (if_neg hb378)
              refine p_iload 37 c34_36 rfl rfl ?_
              refine p_iconst 39 c34_37 rfl ?_
              refine p_icmp 54 42 c34_39 rfl rfl (yc_eq gx0 (rgD rfl)) (fun hb383 k384 hk384 => ?_) (fun hb383 k385 hk385 => ?_)
              · have hX386 := hX382.trans (if_pos hb383)
                refine p_iconst 55 c34_54 rfl ?_
                refine p_goto 59 c34_55 rfl ?_
                exact p_ireturn c34_59 (Hr _ hX386 (rgD rfl) _)
              · have hX387 := hX382.trans (if_neg hb383)
                refine p_iload 43 c34_42 rfl rfl ?_
                refine p_iconst 45 c34_43 rfl ?_
                refine p_icmp 54 48 c34_45 rfl rfl (yc_eq gx0 (rgD rfl)) (fun hb388 k389 hk389 => ?_) (fun hb388 k390 hk390 => ?_)
                · have hX391 := hX387.trans (if_pos hb388)
                  refine p_iconst 55 c34_54 rfl ?_
                  refine p_goto 59 c34_55 rfl ?_
                  exact p_ireturn c34_59 (Hr _ hX391 (rgD rfl) _)
                · have hX392 := hX387.trans (if_neg hb388)
                  refine p_iload 49 c34_48 rfl rfl ?_
                  refine p_iconst 51 c34_49 rfl ?_
                  refine p_icmp 58 54 c34_51 rfl rfl (yc_ne gx0 (rgD rfl)) (fun hb393 k394 hk394 => ?_) (fun hb393 k395 hk395 => ?_)
                  · have hX396 := hX392.trans (if_neg hb393)
                    refine p_iconst 59 c34_58 rfl ?_
                    exact p_ireturn c34_59 (Hr _ hX396 (rgD rfl) _)
                  · have hX397 := hX392.trans (if_pos (Classical.not_not.mp hb393))
                    refine p_iconst 55 c34_54 rfl ?_
                    refine p_goto 59 c34_55 rfl ?_
                    exact p_ireturn c34_59 (Hr _ hX397 (rgD rfl) _)
def F32 (f : Nat) (x1 : Int) (x2 : Int) (m : yM) : Option yM := (some (yup (yup (yup (yup m 5 (m 3 4).toNat x1) 6 (m 3 4).toNat x2) 7 (m 3 4).toNat 0) 3 4 (wr ((m 3 4) + 1))))
set_option maxRecDepth 100000 in
theorem d32 {L : Nat} {xs : Nat → Int32} {k d n : Nat} {c : yS3} {f : Nat} {x1 : Int} {x2 : Int} {m : yM} (hk : k ≤ f) (gx1 : rg x1) (gx2 : rg x2) (hR : RM c m) : PC (gZ L xs) k d 32 [.ref 3, yI x1, yI x2] m n (qV c (F32 f x1 x2 m)) := by
  have hX : F32 f x1 x2 m = F32 f x1 x2 m := rfl
  have Hr : ∀ m', F32 f x1 x2 m = some m' → RM c m' → ∀ n' : Nat, (qV c (F32 f x1 x2 m)) (.inl none) m' n' := fun m' e h n' => ⟨rfl, h, e⟩
  refine PC.mk [some (.ref 3), some (yI x1), some (yI x2)] kn32 rfl ?_
  refine p_aload 1 c32_0 rfl rfl ?_
  refine p_getR 4 c32_1 rfl kf3_1 ?_
  refine p_aload 5 c32_4 rfl rfl ?_
  refine p_getX 8 (m 3 4) c32_5 rfl kf3_4 rfl ?_
  refine p_iload 9 c32_8 rfl rfl ?_
  refine p_iaS 10 c32_9 rfl ka5 (hR.rg _ _) x1 (nar0 gx1) (fun hx405 => ?_)
  have hR406 := hR.up 5 (m 3 4).toNat (v := x1) (nselA (by decide)) gx1
  refine p_aload 11 c32_10 rfl rfl ?_
  refine p_getR 14 c32_11 rfl kf3_2 ?_
  refine p_aload 15 c32_14 rfl rfl ?_
  refine p_getX 18 (m 3 4) c32_15 rfl kf3_4 (yup_na (by decide)) ?_
  refine p_iload 19 c32_18 rfl rfl ?_
  refine p_iaS 20 c32_19 rfl ka6 (hR.rg _ _) x2 (nar0 gx2) (fun hx407 => ?_)
  have hR408 := hR406.up 6 (m 3 4).toNat (v := x2) (nselA (by decide)) gx2
  refine p_aload 21 c32_20 rfl rfl ?_
  refine p_getR 24 c32_21 rfl kf3_3 ?_
  refine p_aload 25 c32_24 rfl rfl ?_
  refine p_getX 28 (m 3 4) c32_25 rfl kf3_4 ((yup_na (by decide)).trans (yup_na (by decide))) ?_
  refine p_iconst 29 c32_28 rfl ?_
  refine p_iaS 30 c32_29 rfl ka7 (hR.rg _ _) 0 (nar0 (rgD rfl)) (fun hx409 => ?_)
  have hR410 := hR408.up 7 (m 3 4).toNat (v := 0) (nselA (by decide)) (rgD rfl)
  refine p_aload 31 c32_30 rfl rfl ?_
  refine p_dup 32 c32_31 rfl rfl ?_
  refine p_getX 35 (m 3 4) c32_32 rfl kf3_4 ((yup_na (by decide)).trans ((yup_na (by decide)).trans (yup_na (by decide)))) ?_
  refine p_iconst 36 c32_35 rfl ?_
  refine p_iadd 37 c32_36 rfl ?_
  refine p_putI 40 c32_37 rfl kf3_4 ?_
  have hR411 := hR410.up 3 4 (v := wr ((m 3 4) + 1)) (nselD rfl) (rg_wr _)
  exact p_return c32_40 (Hr _ hX hR411 _)
def F7 (x0 : Int) (x1 : Int) : Int := (wr ((wr (x0 * 32)) + (wr ((wr (x1 - 97)) + 1))))
set_option maxRecDepth 100000 in
theorem d7 {L : Nat} {xs : Nat → Int32} {k d n : Nat} {c : yS3} {x0 : Int} {x1 : Int} {m : yM} (gx0 : rg x0) (gx1 : rg x1) (hR : RM c m) : PC (gZ L xs) k d 7 [yI x0, yI x1] m n (qX m (F7 x0 x1)) := by
  have hX : F7 x0 x1 = F7 x0 x1 := rfl
  have Hr : ∀ r, F7 x0 x1 = r → rg r → ∀ n' : Nat, (qX m (F7 x0 x1)) (.inl (some (yI r))) m n' := fun r e h n' => by subst e; exact ⟨rfl, h, rfl⟩
  refine PC.mk [some (yI x0), some (yI x1)] kn7 rfl ?_
  refine p_iload 1 c7_0 rfl rfl ?_
  refine p_iconst 3 c7_1 rfl ?_
  refine p_imul 4 c7_3 rfl ?_
  refine p_iload 5 c7_4 rfl rfl ?_
  refine p_iconst 7 c7_5 rfl ?_
  refine p_isub 8 c7_7 rfl ?_
  refine p_iconst 9 c7_8 rfl ?_
  refine p_iadd 10 c7_9 rfl ?_
  refine p_iadd 11 c7_10 rfl ?_
  exact p_ireturn c7_11 (Hr _ hX (rg_wr _) _)
def J33_12 (f : Nat) (x1 : Int) (x3 : Int) (m : yM) : Option yM := (if 6 < x3 then (some (yup (yup m 7 (wr ((m 3 4) - 1)).toNat (F7 (m 7 (wr ((m 3 4) - 1)).toNat) x1)) 5 (wr ((m 3 4) - 1)).toNat 12)) else (some (yup m 7 (wr ((m 3 4) - 1)).toNat (F7 (m 7 (wr ((m 3 4) - 1)).toNat) x1))))
set_option maxRecDepth 100000 in
theorem tJ33_12 {L : Nat} {xs : Nat → Int32} {Q : xO → yM → Nat → Prop} {k d n : Nat} {c : yS3} {f : Nat} {x1 : Int} {x3 : Int} {m : yM} {j2 j4 : Option Value} (hk : k ≤ f) (gx1 : rg x1) (gx3 : rg x3) (hR : RM c m) (Hr : ∀ m', J33_12 f x1 x3 m = some m' → RM c m' → ∀ n', Q (.inl none) m' n') : PW (gZ L xs) k 33 d 12 [some (.ref 3), some (yI x1), j2, some (yI x3), j4] [] m n Q := by
  have hX : J33_12 f x1 x3 m = J33_12 f x1 x3 m := rfl
  refine p_aload 13 c33_12 rfl rfl ?_
  refine p_getX 16 (m 3 4) c33_13 rfl kf3_4 rfl ?_
  refine p_iconst 17 c33_16 rfl ?_
  refine p_isub 18 c33_17 rfl ?_
  refine p_istore 20 c33_18 rfl rfl ?_
  refine p_aload 21 c33_20 rfl rfl ?_
  refine p_getR 24 c33_21 rfl kf3_3 ?_
  refine p_iload 26 c33_24 rfl rfl ?_
  refine p_aload 27 c33_26 rfl rfl ?_
  refine p_getR 30 c33_27 rfl kf3_3 ?_
  refine p_iload 32 c33_30 rfl rfl ?_
  refine p_iaX 33 (m 7 (wr ((m 3 4) - 1)).toNat) c33_32 rfl ka7 (rg_wr _) rfl (fun hx426 => ?_)
  refine p_iload 34 c33_33 rfl rfl ?_
  refine p_cX 37 [yI (m 7 (wr ((m 3 4) - 1)).toNat), yI x1] [yI (wr ((m 3 4) - 1)), .ref 7] c33_34 rfl rfl rfl (fun k' hk' d' => d7 (hR.rg _ _) gx1 hR) (fun hg429 n428 k427 hk427 => ?_)
  refine p_iaS 38 c33_37 rfl ka7 (rg_wr _) (F7 (m 7 (wr ((m 3 4) - 1)).toNat) x1) (nar0 hg429) (fun hx430 => ?_)
  have hR431 := hR.up 7 (wr ((m 3 4) - 1)).toNat (v := F7 (m 7 (wr ((m 3 4) - 1)).toNat) x1) (nselA (by decide)) hg429
  refine p_iload 39 c33_38 rfl rfl ?_
  refine p_iconst 41 c33_39 rfl ?_
  refine p_icmp 53 44 c33_41 rfl rfl ((yc_le gx3 (rgD rfl)).trans Int.not_lt.symm) (fun hb432 k433 hk433 => ?_) (fun hb432 k434 hk434 => ?_)
  · have hX435 := hX.trans (if_neg hb432)
    exact p_return c33_53 (Hr _ hX435 hR431 _)
  · have hX436 := hX.trans (if_pos (Classical.not_not.mp hb432))
    refine p_aload 45 c33_44 rfl rfl ?_
    refine p_getR 48 c33_45 rfl kf3_1 ?_
    refine p_iload 50 c33_48 rfl rfl ?_
    refine p_iconst 52 c33_50 rfl ?_
    refine p_iaS 53 c33_52 rfl ka5 (rg_wr _) 12 (nar0 (rgD rfl)) (fun hx437 => ?_)
    have hR438 := hR431.up 5 (wr ((m 3 4) - 1)).toNat (v := 12) (nselA (by decide)) (rgD rfl)
    exact p_return c33_53 (Hr _ hX436 hR438 _)
def F33 (f : Nat) (x1 : Int) (x2 : Int) (x3 : Int) (m : yM) : Option yM := (if x3 = 1 then (bU (F32 f 11 x2 m) (fun m446 => (J33_12 f x1 x3 m446))) else (J33_12 f x1 x3 m))
set_option maxRecDepth 100000 in
theorem d33 {L : Nat} {xs : Nat → Int32} {k d n : Nat} {c : yS3} {f : Nat} {x1 : Int} {x2 : Int} {x3 : Int} {m : yM} (hk : k ≤ f) (gx1 : rg x1) (gx2 : rg x2) (gx3 : rg x3) (hR : RM c m) : PC (gZ L xs) k d 33 [.ref 3, yI x1, yI x2, yI x3] m n (qV c (F33 f x1 x2 x3 m)) := by
  have hX : F33 f x1 x2 x3 m = F33 f x1 x2 x3 m := rfl
  have Hr : ∀ m', F33 f x1 x2 x3 m = some m' → RM c m' → ∀ n' : Nat, (qV c (F33 f x1 x2 x3 m)) (.inl none) m' n' := fun m' e h n' => ⟨rfl, h, e⟩
  refine PC.mk [some (.ref 3), some (yI x1), some (yI x2), some (yI x3), none] kn33 rfl ?_
  refine p_iload 1 c33_0 rfl rfl ?_
  refine p_iconst 2 c33_1 rfl ?_
  refine p_icmp 12 5 c33_2 rfl rfl (yc_ne gx3 (rgD rfl)) (fun hb422 k423 hk423 => ?_) (fun hb422 k424 hk424 => ?_)
  · have hX425 := hX.trans (if_neg hb422)
    exact tJ33_12 (f := f) (by omega) gx1 gx3 hR (fun m' e' => Hr m' (hX425.trans e'))
  · have hX439 := hX.trans (if_pos (Classical.not_not.mp hb422))
    refine p_aload 6 c33_5 rfl rfl ?_
    refine p_iconst 8 c33_6 rfl ?_
    refine p_iload 9 c33_8 rfl rfl ?_
    refine p_cV 12 [.ref 3, yI 11, yI x2] [] c33_9 rfl rfl rfl (fun k' hk' d' => d32 (f := f) (by omega) (rgD rfl) gx2 hR) (fun m446 hF442 hR447 n441 k440 hk440 => ?_)
    have hX445 := hX439.trans (bU_s hF442)
    exact tJ33_12 (f := f) (by omega) gx1 gx3 hR447 (fun m' e' => Hr m' (hX445.trans e'))
def J35_54 (f : Nat) (x1 : Int) (x2 : Int) (m : yM) : Option ((Int × yM) ⊕ ((Int × yM) ⊕ (Unit × yM))) := (some (.inl ((wr (x2 + 1)), m)))
set_option maxRecDepth 100000 in
theorem tJ35_54 {L : Nat} {xs : Nat → Int32} {Q : xO → yM → Nat → Prop} {k d n : Nat} {c : yS3} {f : Nat} {x1 : Int} {x2 : Int} {m : yM} (hk : k ≤ f) (gx1 : rg x1) (gx2 : rg x2) (hR : RM c m) (Hn : ∀ (y0 : Int) (m' : yM) (n' : Nat), J35_54 f x1 x2 m = some (.inl (y0, m')) → rg y0 → RM c m' → ∀ k', k' < k → PW (gZ L xs) k' 35 d 12 [some (.ref 3), some (yI x1), some (yI y0)] [] m' n' Q) (He : ∀ (y0 : Int) (m' : yM) (n' : Nat), J35_54 f x1 x2 m = some (.inr (.inl (y0, m'))) → rg y0 → RM c m' → ∀ k', k' ≤ k → PW (gZ L xs) k' 35 d 60 [some (.ref 3), some (yI x1), some (yI y0)] [] m' n' Q) (Hr : ∀ m', J35_54 f x1 x2 m = some (.inr (.inr ((), m'))) → RM c m' → ∀ n', Q (.inl none) m' n') : PW (gZ L xs) k 35 d 54 [some (.ref 3), some (yI x1), some (yI x2)] [] m n Q := by
  have hX : J35_54 f x1 x2 m = J35_54 f x1 x2 m := rfl
  refine p_iinc 57 c35_54 rfl rfl rfl ?_
  refine p_gotoD 12 c35_57 rfl (fun k495 hk495 => ?_)
  exact Hn _ _ _ hX (rg_wr _) hR _ (by omega)
def B35_12 (f : Nat) (x1 : Int) (x2 : Int) (m : yM) : Option ((Int × yM) ⊕ ((Int × yM) ⊕ (Unit × yM))) := (if x2 < 11 then (if m 5 x1.toNat = 11 then (if m 4 x2.toNat = m 7 x1.toNat then (J35_54 f x1 x2 (yup m 5 x1.toNat x2)) else (J35_54 f x1 x2 m)) else (some (.inr (.inl (x2, m))))) else (some (.inr (.inl (x2, m)))))
set_option maxRecDepth 100000 in
theorem tB35_12 {L : Nat} {xs : Nat → Int32} {Q : xO → yM → Nat → Prop} {k d n : Nat} {c : yS3} {f : Nat} {x1 : Int} {x2 : Int} {m : yM} (hk : k ≤ f) (gx1 : rg x1) (gx2 : rg x2) (hR : RM c m) (Hn : ∀ (y0 : Int) (m' : yM) (n' : Nat), B35_12 f x1 x2 m = some (.inl (y0, m')) → rg y0 → RM c m' → ∀ k', k' < k → PW (gZ L xs) k' 35 d 12 [some (.ref 3), some (yI x1), some (yI y0)] [] m' n' Q) (He : ∀ (y0 : Int) (m' : yM) (n' : Nat), B35_12 f x1 x2 m = some (.inr (.inl (y0, m'))) → rg y0 → RM c m' → ∀ k', k' ≤ k → PW (gZ L xs) k' 35 d 60 [some (.ref 3), some (yI x1), some (yI y0)] [] m' n' Q) (Hr : ∀ m', B35_12 f x1 x2 m = some (.inr (.inr ((), m'))) → RM c m' → ∀ n', Q (.inl none) m' n') : PW (gZ L xs) k 35 d 12 [some (.ref 3), some (yI x1), some (yI x2)] [] m n Q := by
  have hX : B35_12 f x1 x2 m = B35_12 f x1 x2 m := rfl
  refine p_iload 13 c35_12 rfl rfl ?_
  refine p_aload 14 c35_13 rfl rfl ?_
  refine p_getR 17 c35_14 rfl kf3_0 ?_
  refine p_alen 18 c35_17 rfl ka4 ?_
  refine p_icmp 60 21 c35_18 rfl rfl ((yc_ge gx2 (rgD rfl)).trans Int.not_lt.symm) (fun hb478 k479 hk479 => ?_) (fun hb478 k480 hk480 => ?_)
  · have hX481 := hX.trans (if_neg hb478)
    exact He _ _ _ hX481 gx2 hR _ (by omega)
  · have hX482 := hX.trans (if_pos (Classical.not_not.mp hb478))
    refine p_aload 22 c35_21 rfl rfl ?_
    refine p_getR 25 c35_22 rfl kf3_1 ?_
    refine p_iload 26 c35_25 rfl rfl ?_
    refine p_iaX 27 (m 5 x1.toNat) c35_26 rfl ka5 gx1 rfl (fun hx483 => ?_)
    refine p_iconst 29 c35_27 rfl ?_
    refine p_icmp 60 32 c35_29 rfl rfl (yc_ne (hR.rg _ _) (rgD rfl)) (fun hb484 k485 hk485 => ?_) (fun hb484 k486 hk486 => ?_)
    · have hX487 := hX482.trans (if_neg hb484)
      exact He _ _ _ hX487 gx2 hR _ (by omega)
    · have hX488 := hX482.trans (if_pos (Classical.not_not.mp hb484))
      refine p_aload 33 c35_32 rfl rfl ?_
      refine p_getR 36 c35_33 rfl kf3_0 ?_
      refine p_iload 37 c35_36 rfl rfl ?_
      refine p_iaX 38 (m 4 x2.toNat) c35_37 rfl ka4 gx2 rfl (fun hx489 => ?_)
      refine p_aload 39 c35_38 rfl rfl ?_
      refine p_getR 42 c35_39 rfl kf3_3 ?_
      refine p_iload 43 c35_42 rfl rfl ?_
      refine p_iaX 44 (m 7 x1.toNat) c35_43 rfl ka7 gx1 rfl (fun hx490 => ?_)
      refine p_icmp 54 47 c35_44 rfl rfl (yc_ne (hR.rg _ _) (hR.rg _ _)) (fun hb491 k492 hk492 => ?_) (fun hb491 k493 hk493 => ?_)
      · have hX494 := hX488.trans (if_neg hb491)
        exact tJ35_54 (f := f) (by omega) gx1 gx2 hR (fun y0 m' n' e' h0 hR' k' hk' => Hn y0 m' n' (hX494.trans e') h0 hR' k' (by omega)) (fun y0 m' n' e' h0 hR' k' hk' => He y0 m' n' (hX494.trans e') h0 hR' k' (by omega)) (fun m' e' => Hr m' (hX494.trans e'))
      · have hX496 := hX488.trans (if_pos (Classical.not_not.mp hb491))
        refine p_aload 48 c35_47 rfl rfl ?_
        refine p_getR 51 c35_48 rfl kf3_1 ?_
        refine p_iload 52 c35_51 rfl rfl ?_
        refine p_iload 53 c35_52 rfl rfl ?_
        refine p_iaS 54 c35_53 rfl ka5 gx1 x2 (nar0 gx2) (fun hx497 => ?_)
        have hR498 := hR.up 5 x1.toNat (v := x2) (nselA (by decide)) gx2
        exact tJ35_54 (f := f) (by omega) gx1 gx2 hR498 (fun y0 m' n' e' h0 hR' k' hk' => Hn y0 m' n' (hX496.trans e') h0 hR' k' (by omega)) (fun y0 m' n' e' h0 hR' k' hk' => He y0 m' n' (hX496.trans e') h0 hR' k' (by omega)) (fun m' e' => Hr m' (hX496.trans e'))
def J35_60 (f : Nat) (x1 : Int) (m : yM) : Option ((Int × yM) ⊕ ((Int × yM) ⊕ (Unit × yM))) := (some (.inl ((wr (x1 + 1)), m)))
set_option maxRecDepth 100000 in
theorem tJ35_60 {L : Nat} {xs : Nat → Int32} {Q : xO → yM → Nat → Prop} {k d n : Nat} {c : yS3} {f : Nat} {x1 : Int} {m : yM} {j2 : Option Value} (hk : k ≤ f) (gx1 : rg x1) (hR : RM c m) (Hn : ∀ (y0 : Int) (z0 : Option Value) (m' : yM) (n' : Nat), J35_60 f x1 m = some (.inl (y0, m')) → rg y0 → RM c m' → ∀ k', k' < k → PW (gZ L xs) k' 35 d 2 [some (.ref 3), some (yI y0), z0] [] m' n' Q) (He : ∀ (y0 : Int) (z0 : Option Value) (m' : yM) (n' : Nat), J35_60 f x1 m = some (.inr (.inl (y0, m'))) → rg y0 → RM c m' → ∀ k', k' ≤ k → PW (gZ L xs) k' 35 d 66 [some (.ref 3), some (yI y0), z0] [] m' n' Q) (Hr : ∀ m', J35_60 f x1 m = some (.inr (.inr ((), m'))) → RM c m' → ∀ n', Q (.inl none) m' n') : PW (gZ L xs) k 35 d 60 [some (.ref 3), some (yI x1), j2] [] m n Q := by
  have hX : J35_60 f x1 m = J35_60 f x1 m := rfl
  refine p_iinc 63 c35_60 rfl rfl rfl ?_
  refine p_gotoD 2 c35_63 rfl (fun k508 hk508 => ?_)
  exact Hn _ _ _ _ hX (rg_wr _) hR _ (by omega)
def B35_2 (f : Nat) (x1 : Int) (m : yM) : Option ((Int × yM) ⊕ ((Int × yM) ⊕ (Unit × yM))) := (if x1 < m 3 4 then (bL (yloop (fun (l : Int) ml => B35_12 f x1 l ml) f 1 m) (fun l499 m505 => (J35_60 f x1 m505)) (fun _ mr => some (.inr (.inr ((), mr))))) else (some (.inr (.inl (x1, m)))))
set_option maxRecDepth 100000 in
theorem tB35_2 {L : Nat} {xs : Nat → Int32} {Q : xO → yM → Nat → Prop} {k d n : Nat} {c : yS3} {f : Nat} {x1 : Int} {m : yM} {j2 : Option Value} (hk : k ≤ f) (gx1 : rg x1) (hR : RM c m) (Hn : ∀ (y0 : Int) (z0 : Option Value) (m' : yM) (n' : Nat), B35_2 f x1 m = some (.inl (y0, m')) → rg y0 → RM c m' → ∀ k', k' < k → PW (gZ L xs) k' 35 d 2 [some (.ref 3), some (yI y0), z0] [] m' n' Q) (He : ∀ (y0 : Int) (z0 : Option Value) (m' : yM) (n' : Nat), B35_2 f x1 m = some (.inr (.inl (y0, m'))) → rg y0 → RM c m' → ∀ k', k' ≤ k → PW (gZ L xs) k' 35 d 66 [some (.ref 3), some (yI y0), z0] [] m' n' Q) (Hr : ∀ m', B35_2 f x1 m = some (.inr (.inr ((), m'))) → RM c m' → ∀ n', Q (.inl none) m' n') : PW (gZ L xs) k 35 d 2 [some (.ref 3), some (yI x1), j2] [] m n Q := by
  have hX : B35_2 f x1 m = B35_2 f x1 m := rfl
  refine p_iload 3 c35_2 rfl rfl ?_
  refine p_aload 4 c35_3 rfl rfl ?_
  refine p_getX 7 (m 3 4) c35_4 rfl kf3_4 rfl ?_
  refine p_icmp 66 10 c35_7 rfl rfl ((yc_ge gx1 (hR.rg _ _)).trans Int.not_lt.symm) (fun hb473 k474 hk474 => ?_) (fun hb473 k475 hk475 => ?_)
  · have hX476 := hX.trans (if_neg hb473)
    exact He _ _ _ _ hX476 gx1 hR _ (by omega)
  · have hX477 := hX.trans (if_pos (Classical.not_not.mp hb473))
    refine p_iconst 11 c35_10 rfl ?_
    refine p_istore 12 c35_11 rfl rfl ?_
    refine PW.loop (K := k475) (pce := 60) (fun (l : Int) ml => B35_12 f x1 l ml) (fun (l : Int) j => [some (.ref 3), some (yI x1), some (yI l)]) (fun (l : Int) => rg l) (RM c) (fun (r' : Unit) m' => RM c m' → ∀ n' : Nat, Q (.inl none) m' n') (fun k' hk' l j m' n' hl hI Hn' He' Hr' => tB35_12 (f := f) (by omega) gx1 hl hI (fun y0 m2 n2 e h0 hR2 => Hn' y0 (fun q => ([none, none, none] : List (Option Value)).getD q none) m2 n2 e h0 hR2) (fun y0 m2 n2 e h0 hR2 => He' y0 (fun q => ([none, none, none] : List (Option Value)).getD q none) m2 n2 e h0 hR2) (fun m2 e => Hr' () m2 e)) f k475 (by omega) (Nat.le_refl _) 1 (fun q => ([some (.ref 3), some (yI x1), some (yI 1)] : xL).getD q none) _ _ (rgD rfl) hR (fun l499 j502 m505 n504 e501 hl500 hR506 k503 hk503 => ?_) (fun r' m' e' => ?_)
    · have hX507 := hX477.trans (bL_l e501)
      exact tJ35_60 (f := f) (by omega) gx1 hR506 (fun y0 y1 m' n' e' h0 hR' k' hk' => Hn y0 y1 m' n' (hX507.trans e') h0 hR' k' (by omega)) (fun y0 y1 m' n' e' h0 hR' k' hk' => He y0 y1 m' n' (hX507.trans e') h0 hR' k' (by omega)) (fun m' e' => Hr m' (hX507.trans e'))
    · exact Hr m' (hX477.trans (bL_r e'))
def F35 (f : Nat) (m : yM) : Option yM := (bL (yloop (fun (l : Int) ml => B35_2 f l ml) f 0 m) (fun l509 m515 => (some m515)) (fun _ mr => some mr))
set_option maxRecDepth 100000 in
theorem d35 {L : Nat} {xs : Nat → Int32} {k d n : Nat} {c : yS3} {f : Nat} {m : yM} (hk : k ≤ f) (hR : RM c m) : PC (gZ L xs) k d 35 [.ref 3] m n (qV c (F35 f m)) := by
  have hX : F35 f m = F35 f m := rfl
  have Hr : ∀ m', F35 f m = some m' → RM c m' → ∀ n' : Nat, (qV c (F35 f m)) (.inl none) m' n' := fun m' e h n' => ⟨rfl, h, e⟩
  refine PC.mk [some (.ref 3), none, none] kn35 rfl ?_
  refine p_iconst 1 c35_0 rfl ?_
  refine p_istore 2 c35_1 rfl rfl ?_
  refine PW.loop (K := k) (pce := 66) (fun (l : Int) ml => B35_2 f l ml) (fun (l : Int) j => [some (.ref 3), some (yI l), j 2]) (fun (l : Int) => rg l) (RM c) (fun (r' : Unit) m' => RM c m' → ∀ n' : Nat, (qV c (F35 f m)) (.inl none) m' n') (fun k' hk' l j m' n' hl hI Hn' He' Hr' => tB35_2 (f := f) (by omega) hl hI (fun y0 y1 m2 n2 e h0 hR2 => Hn' y0 (fun q => ([none, none, y1] : List (Option Value)).getD q none) m2 n2 e h0 hR2) (fun y0 y1 m2 n2 e h0 hR2 => He' y0 (fun q => ([none, none, y1] : List (Option Value)).getD q none) m2 n2 e h0 hR2) (fun m2 e => Hr' () m2 e)) f k (by omega) (Nat.le_refl _) 0 (fun q => ([some (.ref 3), some (yI 0), none] : xL).getD q none) _ _ (rgD rfl) hR (fun l509 j512 m515 n514 e511 hl510 hR516 k513 hk513 => ?_) (fun r' m' e' => ?_)
  · have hX517 := hX.trans (bL_l e511)
    exact p_return c35_66 (Hr _ hX517 hR516 _)
  · exact Hr m' (hX.trans (bL_r e'))
def J36_95 (f : Nat) (x2 : Int) (x4 : Int) (x5 : Int) (xs0 : Int) (m : yM) : Option (((Int × Int × Int) × yM) ⊕ (((Int × Int × Int) × yM) ⊕ (Unit × yM))) := (some (.inl ((xs0, x4, wr (x5 + 1)), m)))
set_option maxRecDepth 100000 in
theorem tJ36_95 {L : Nat} {xs : Nat → Int32} {Q : xO → yM → Nat → Prop} {k d n : Nat} {c : yS3} {f : Nat} {x2 : Int} {x4 : Int} {x5 : Int} {xs0 : Int} {m : yM} {j3 j6 : Option Value} (hk : k ≤ f) (gx2 : rg x2) (gx4 : rg x4) (gx5 : rg x5) (gxs0 : rg xs0) (hR : RM c m) (Hn : ∀ (y0 y1 y2 : Int) (z0 : Option Value) (m' : yM) (n' : Nat), J36_95 f x2 x4 x5 xs0 m = some (.inl ((y0, y1, y2), m')) → rg y0 → rg y1 → rg y2 → RM c m' → ∀ k', k' < k → PW (gZ L xs) k' 36 d 13 [some (.ref 3), some (.ref 1), some (yI x2), some (yI y0), some (yI y1), some (yI y2), z0] [] m' n' Q) (He : ∀ (y0 y1 y2 : Int) (z0 : Option Value) (m' : yM) (n' : Nat), J36_95 f x2 x4 x5 xs0 m = some (.inr (.inl ((y0, y1, y2), m'))) → rg y0 → rg y1 → rg y2 → RM c m' → ∀ k', k' ≤ k → PW (gZ L xs) k' 36 d 102 [some (.ref 3), some (.ref 1), some (yI x2), some (yI y0), some (yI y1), some (yI y2), z0] [] m' n' Q) (Hr : ∀ m', J36_95 f x2 x4 x5 xs0 m = some (.inr (.inr ((), m'))) → RM c m' → ∀ n', Q (.inl none) m' n') : PW (gZ L xs) k 36 d 95 [some (.ref 3), some (.ref 1), some (yI x2), j3, some (yI x4), some (yI x5), j6] [yI xs0] m n Q := by
  have hX : J36_95 f x2 x4 x5 xs0 m = J36_95 f x2 x4 x5 xs0 m := rfl
  refine p_istore 96 c36_95 rfl rfl ?_
  refine p_iinc 99 c36_96 rfl rfl rfl ?_
  refine p_gotoD 13 c36_99 rfl (fun k348 hk348 => ?_)
  exact Hn _ _ _ _ _ _ hX gxs0 gx4 (rg_wr _) hR _ (by omega)
def J36_80 (f : Nat) (x2 : Int) (x3 : Int) (x4 : Int) (x5 : Int) (x6 : Int) (m : yM) : Option (((Int × Int × Int) × yM) ⊕ (((Int × Int × Int) × yM) ⊕ (Unit × yM))) := (if x6 = 32 then (J36_95 f x2 x4 x5 x3 m) else (J36_95 f x2 x4 x5 (wr (x5 + 1)) m))
set_option maxRecDepth 100000 in
theorem tJ36_80 {L : Nat} {xs : Nat → Int32} {Q : xO → yM → Nat → Prop} {k d n : Nat} {c : yS3} {f : Nat} {x2 : Int} {x3 : Int} {x4 : Int} {x5 : Int} {x6 : Int} {m : yM} (hk : k ≤ f) (gx2 : rg x2) (gx3 : rg x3) (gx4 : rg x4) (gx5 : rg x5) (gx6 : rg x6) (hR : RM c m) (Hn : ∀ (y0 y1 y2 : Int) (z0 : Option Value) (m' : yM) (n' : Nat), J36_80 f x2 x3 x4 x5 x6 m = some (.inl ((y0, y1, y2), m')) → rg y0 → rg y1 → rg y2 → RM c m' → ∀ k', k' < k → PW (gZ L xs) k' 36 d 13 [some (.ref 3), some (.ref 1), some (yI x2), some (yI y0), some (yI y1), some (yI y2), z0] [] m' n' Q) (He : ∀ (y0 y1 y2 : Int) (z0 : Option Value) (m' : yM) (n' : Nat), J36_80 f x2 x3 x4 x5 x6 m = some (.inr (.inl ((y0, y1, y2), m'))) → rg y0 → rg y1 → rg y2 → RM c m' → ∀ k', k' ≤ k → PW (gZ L xs) k' 36 d 102 [some (.ref 3), some (.ref 1), some (yI x2), some (yI y0), some (yI y1), some (yI y2), z0] [] m' n' Q) (Hr : ∀ m', J36_80 f x2 x3 x4 x5 x6 m = some (.inr (.inr ((), m'))) → RM c m' → ∀ n', Q (.inl none) m' n') : PW (gZ L xs) k 36 d 80 [some (.ref 3), some (.ref 1), some (yI x2), some (yI x3), some (yI x4), some (yI x5), some (yI x6)] [] m n Q := by
  have hX : J36_80 f x2 x3 x4 x5 x6 m = J36_80 f x2 x3 x4 x5 x6 m := rfl
  refine p_iload 82 c36_80 rfl rfl ?_
  refine p_iconst 84 c36_82 rfl ?_
  refine p_icmp 91 87 c36_84 rfl rfl (yc_ne gx6 (rgD rfl)) (fun hb344 k345 hk345 => ?_) (fun hb344 k346 hk346 => ?_)
  · have hX347 := hX.trans (if_neg hb344)
    refine p_iload 93 c36_91 rfl rfl ?_
    refine p_iconst 94 c36_93 rfl ?_
    refine p_iadd 95 c36_94 rfl ?_
    exact tJ36_95 (f := f) (by omega) gx2 gx4 gx5 (rg_wr _) hR (fun y0 y1 y2 y3 m' n' e' h0 h1 h2 hR' k' hk' => Hn y0 y1 y2 y3 m' n' (hX347.trans e') h0 h1 h2 hR' k' (by omega)) (fun y0 y1 y2 y3 m' n' e' h0 h1 h2 hR' k' hk' => He y0 y1 y2 y3 m' n' (hX347.trans e') h0 h1 h2 hR' k' (by omega)) (fun m' e' => Hr m' (hX347.trans e'))
  · have hX349 := hX.trans (if_pos (Classical.not_not.mp hb344))
    refine p_iload 88 c36_87 rfl rfl ?_
    refine p_goto 95 c36_88 rfl ?_
    exact tJ36_95 (f := f) (by omega) gx2 gx4 gx5 gx3 hR (fun y0 y1 y2 y3 m' n' e' h0 h1 h2 hR' k' hk' => Hn y0 y1 y2 y3 m' n' (hX349.trans e') h0 h1 h2 hR' k' (by omega)) (fun y0 y1 y2 y3 m' n' e' h0 h1 h2 hR' k' hk' => He y0 y1 y2 y3 m' n' (hX349.trans e') h0 h1 h2 hR' k' (by omega)) (fun m' e' => Hr m' (hX349.trans e'))
def J36_75 (f : Nat) (x2 : Int) (x3 : Int) (x4 : Int) (x5 : Int) (x6 : Int) (xs1 : Int) (m : yM) : Option (((Int × Int × Int) × yM) ⊕ (((Int × Int × Int) × yM) ⊕ (Unit × yM))) := (bU (F32 f xs1 x5 m) (fun m416 => (J36_80 f x2 x3 x4 x5 x6 m416)))
set_option maxRecDepth 100000 in
theorem tJ36_75 {L : Nat} {xs : Nat → Int32} {Q : xO → yM → Nat → Prop} {k d n : Nat} {c : yS3} {f : Nat} {x2 : Int} {x3 : Int} {x4 : Int} {x5 : Int} {x6 : Int} {xs1 : Int} {m : yM} (hk : k ≤ f) (gx2 : rg x2) (gx3 : rg x3) (gx4 : rg x4) (gx5 : rg x5) (gx6 : rg x6) (gxs1 : rg xs1) (hR : RM c m) (Hn : ∀ (y0 y1 y2 : Int) (z0 : Option Value) (m' : yM) (n' : Nat), J36_75 f x2 x3 x4 x5 x6 xs1 m = some (.inl ((y0, y1, y2), m')) → rg y0 → rg y1 → rg y2 → RM c m' → ∀ k', k' < k → PW (gZ L xs) k' 36 d 13 [some (.ref 3), some (.ref 1), some (yI x2), some (yI y0), some (yI y1), some (yI y2), z0] [] m' n' Q) (He : ∀ (y0 y1 y2 : Int) (z0 : Option Value) (m' : yM) (n' : Nat), J36_75 f x2 x3 x4 x5 x6 xs1 m = some (.inr (.inl ((y0, y1, y2), m'))) → rg y0 → rg y1 → rg y2 → RM c m' → ∀ k', k' ≤ k → PW (gZ L xs) k' 36 d 102 [some (.ref 3), some (.ref 1), some (yI x2), some (yI y0), some (yI y1), some (yI y2), z0] [] m' n' Q) (Hr : ∀ m', J36_75 f x2 x3 x4 x5 x6 xs1 m = some (.inr (.inr ((), m'))) → RM c m' → ∀ n', Q (.inl none) m' n') : PW (gZ L xs) k 36 d 75 [some (.ref 3), some (.ref 1), some (yI x2), some (yI x3), some (yI x4), some (yI x5), some (yI x6)] [yI xs1, .ref 3] m n Q := by
  have hX : J36_75 f x2 x3 x4 x5 x6 xs1 m = J36_75 f x2 x3 x4 x5 x6 xs1 m := rfl
  refine p_iload 77 c36_75 rfl rfl ?_
  refine p_cV 80 [.ref 3, yI xs1, yI x5] [] c36_77 rfl rfl rfl (fun k' hk' d' => d32 (f := f) (by omega) gxs1 gx5 hR) (fun m416 hF412 hR417 n404 k403 hk403 => ?_)
  have hX415 := hX.trans (bU_s hF412)
  exact tJ36_80 (f := f) (by omega) gx2 gx3 gx4 gx5 gx6 hR417 (fun y0 y1 y2 y3 m' n' e' h0 h1 h2 hR' k' hk' => Hn y0 y1 y2 y3 m' n' (hX415.trans e') h0 h1 h2 hR' k' (by omega)) (fun y0 y1 y2 y3 m' n' e' h0 h1 h2 hR' k' hk' => He y0 y1 y2 y3 m' n' (hX415.trans e') h0 h1 h2 hR' k' (by omega)) (fun m' e' => Hr m' (hX415.trans e'))
def B36_13 (f : Nat) (x2 : Int) (x3 : Int) (x4 : Int) (x5 : Int) (m : yM) : Option (((Int × Int × Int) × yM) ⊕ (((Int × Int × Int) × yM) ⊕ (Unit × yM))) := (if x5 < x2 then (if F31 (m 1 x5.toNat) = 0 then (if m 1 x5.toNat = 32 then (J36_80 f x2 x3 0 x5 (m 1 x5.toNat) m) else (if F34 (m 1 x5.toNat) = 0 then (J36_75 f x2 x3 0 x5 (m 1 x5.toNat) 12 m) else (J36_75 f x2 x3 0 x5 (m 1 x5.toNat) (m 1 x5.toNat) m))) else (bU (F33 f (m 1 x5.toNat) x5 (wr (x4 + 1)) m) (fun m452 => (J36_80 f x2 x3 (wr (x4 + 1)) x5 (m 1 x5.toNat) m452)))) else (some (.inr (.inl ((x3, x4, x5), m)))))
set_option maxRecDepth 100000 in
theorem tB36_13 {L : Nat} {xs : Nat → Int32} {Q : xO → yM → Nat → Prop} {k d n : Nat} {c : yS3} {f : Nat} {x2 : Int} {x3 : Int} {x4 : Int} {x5 : Int} {m : yM} {j6 : Option Value} (hk : k ≤ f) (gx2 : rg x2) (gx3 : rg x3) (gx4 : rg x4) (gx5 : rg x5) (hR : RM c m) (Hn : ∀ (y0 y1 y2 : Int) (z0 : Option Value) (m' : yM) (n' : Nat), B36_13 f x2 x3 x4 x5 m = some (.inl ((y0, y1, y2), m')) → rg y0 → rg y1 → rg y2 → RM c m' → ∀ k', k' < k → PW (gZ L xs) k' 36 d 13 [some (.ref 3), some (.ref 1), some (yI x2), some (yI y0), some (yI y1), some (yI y2), z0] [] m' n' Q) (He : ∀ (y0 y1 y2 : Int) (z0 : Option Value) (m' : yM) (n' : Nat), B36_13 f x2 x3 x4 x5 m = some (.inr (.inl ((y0, y1, y2), m'))) → rg y0 → rg y1 → rg y2 → RM c m' → ∀ k', k' ≤ k → PW (gZ L xs) k' 36 d 102 [some (.ref 3), some (.ref 1), some (yI x2), some (yI y0), some (yI y1), some (yI y2), z0] [] m' n' Q) (Hr : ∀ m', B36_13 f x2 x3 x4 x5 m = some (.inr (.inr ((), m'))) → RM c m' → ∀ n', Q (.inl none) m' n') : PW (gZ L xs) k 36 d 13 [some (.ref 3), some (.ref 1), some (yI x2), some (yI x3), some (yI x4), some (yI x5), j6] [] m n Q := by
  have hX : B36_13 f x2 x3 x4 x5 m = B36_13 f x2 x3 x4 x5 m := rfl
  refine p_iload 15 c36_13 rfl rfl ?_
  refine p_iload 16 c36_15 rfl rfl ?_
  refine p_icmp 102 19 c36_16 rfl rfl ((yc_ge gx5 gx2).trans Int.not_lt.symm) (fun hb317 k318 hk318 => ?_) (fun hb317 k319 hk319 => ?_)
  · have hX320 := hX.trans (if_neg hb317)
    exact He _ _ _ _ _ _ hX320 gx3 gx4 gx5 hR _ (by omega)
  · have hX321 := hX.trans (if_pos (Classical.not_not.mp hb317))
    refine p_aload 20 c36_19 rfl rfl ?_
    refine p_iload 22 c36_20 rfl rfl ?_
    refine p_iaX 23 (m 1 x5.toNat) c36_22 rfl ka1 gx5 rfl (fun hx322 => ?_)
    refine p_istore 25 c36_23 rfl rfl ?_
    refine p_iload 27 c36_25 rfl rfl ?_
    refine p_cX 30 [yI (m 1 x5.toNat)] [] c36_27 rfl rfl rfl (fun k' hk' d' => d31 (hR.rg _ _) hR) (fun hg335 n324 k323 hk323 => ?_)
    refine p_if 49 33 c36_30 rfl rfl (yz_eq hg335) (fun hb336 k337 hk337 => ?_) (fun hb336 k338 hk338 => ?_)
    · have hX339 := hX321.trans (if_pos hb336)
      refine p_iconst 50 c36_49 rfl ?_
      refine p_istore 52 c36_50 rfl rfl ?_
      refine p_iload 54 c36_52 rfl rfl ?_
      refine p_iconst 56 c36_54 rfl ?_
      refine p_icmp 80 59 c36_56 rfl rfl (yc_eq (hR.rg _ _) (rgD rfl)) (fun hb340 k341 hk341 => ?_) (fun hb340 k342 hk342 => ?_)
      · have hX343 := hX339.trans (if_pos hb340)
        exact tJ36_80 (f := f) (by omega) gx2 gx3 (rgD rfl) gx5 (hR.rg _ _) hR (fun y0 y1 y2 y3 m' n' e' h0 h1 h2 hR' k' hk' => Hn y0 y1 y2 y3 m' n' (hX343.trans e') h0 h1 h2 hR' k' (by omega)) (fun y0 y1 y2 y3 m' n' e' h0 h1 h2 hR' k' hk' => He y0 y1 y2 y3 m' n' (hX343.trans e') h0 h1 h2 hR' k' (by omega)) (fun m' e' => Hr m' (hX343.trans e'))
      · have hX350 := hX339.trans (if_neg hb340)
        refine p_aload 60 c36_59 rfl rfl ?_
        refine p_iload 62 c36_60 rfl rfl ?_
        refine p_cX 65 [yI (m 1 x5.toNat)] [.ref 3] c36_62 rfl rfl rfl (fun k' hk' d' => d34 (hR.rg _ _) hR) (fun hg398 n352 k351 hk351 => ?_)
        refine p_if 73 68 c36_65 rfl rfl (yz_eq hg398) (fun hb399 k400 hk400 => ?_) (fun hb399 k401 hk401 => ?_)
        · have hX402 := hX350.trans (if_pos hb399)
          refine p_iconst 75 c36_73 rfl ?_
          exact tJ36_75 (f := f) (by omega) gx2 gx3 (rgD rfl) gx5 (hR.rg _ _) (rgD rfl) hR (fun y0 y1 y2 y3 m' n' e' h0 h1 h2 hR' k' hk' => Hn y0 y1 y2 y3 m' n' (hX402.trans e') h0 h1 h2 hR' k' (by omega)) (fun y0 y1 y2 y3 m' n' e' h0 h1 h2 hR' k' hk' => He y0 y1 y2 y3 m' n' (hX402.trans e') h0 h1 h2 hR' k' (by omega)) (fun m' e' => Hr m' (hX402.trans e'))
        · have hX418 := hX350.trans (if_neg hb399)
          refine p_iload 70 c36_68 rfl rfl ?_
          refine p_goto 75 c36_70 rfl ?_
          exact tJ36_75 (f := f) (by omega) gx2 gx3 (rgD rfl) gx5 (hR.rg _ _) (hR.rg _ _) hR (fun y0 y1 y2 y3 m' n' e' h0 h1 h2 hR' k' hk' => Hn y0 y1 y2 y3 m' n' (hX418.trans e') h0 h1 h2 hR' k' (by omega)) (fun y0 y1 y2 y3 m' n' e' h0 h1 h2 hR' k' hk' => He y0 y1 y2 y3 m' n' (hX418.trans e') h0 h1 h2 hR' k' (by omega)) (fun m' e' => Hr m' (hX418.trans e'))
    · have hX419 := hX321.trans (if_neg hb336)
      refine p_iinc 36 c36_33 rfl rfl rfl ?_
      refine p_aload 37 c36_36 rfl rfl ?_
      refine p_iload 39 c36_37 rfl rfl ?_
      refine p_iload 41 c36_39 rfl rfl ?_
      refine p_iload 43 c36_41 rfl rfl ?_
      refine p_cV 46 [.ref 3, yI (m 1 x5.toNat), yI x5, yI (wr (x4 + 1))] [] c36_43 rfl rfl rfl (fun k' hk' d' => d33 (f := f) (by omega) (hR.rg _ _) gx5 (rg_wr _) hR) (fun m452 hF448 hR453 n421 k420 hk420 => ?_)
      have hX451 := hX419.trans (bU_s hF448)
      refine p_goto 80 c36_46 rfl ?_
      exact tJ36_80 (f := f) (by omega) gx2 gx3 (rg_wr _) gx5 (hR.rg _ _) hR453 (fun y0 y1 y2 y3 m' n' e' h0 h1 h2 hR' k' hk' => Hn y0 y1 y2 y3 m' n' (hX451.trans e') h0 h1 h2 hR' k' (by omega)) (fun y0 y1 y2 y3 m' n' e' h0 h1 h2 hR' k' hk' => He y0 y1 y2 y3 m' n' (hX451.trans e') h0 h1 h2 hR' k' (by omega)) (fun m' e' => Hr m' (hX451.trans e'))
def F36 (f : Nat) (x2 : Int) (m : yM) : Option yM := (bL (yloop (fun (l : Int × Int × Int) ml => B36_13 f x2 l.1 l.2.1 l.2.2 ml) f (0, 0, 0) (yup m 3 4 0)) (fun l454 m460 => (bU (F32 f 0 l454.1 m460) (fun m469 => (bU (F35 f m469) (fun m522 => (some m522)))))) (fun _ mr => some mr))
set_option maxRecDepth 100000 in
theorem d36 {L : Nat} {xs : Nat → Int32} {k d n : Nat} {c : yS3} {f : Nat} {x2 : Int} {m : yM} (hk : k ≤ f) (gx2 : rg x2) (hR : RM c m) : PC (gZ L xs) k d 36 [.ref 3, .ref 1, yI x2] m n (qV c (F36 f x2 m)) := by
  have hX : F36 f x2 m = F36 f x2 m := rfl
  have Hr : ∀ m', F36 f x2 m = some m' → RM c m' → ∀ n' : Nat, (qV c (F36 f x2 m)) (.inl none) m' n' := fun m' e h n' => ⟨rfl, h, e⟩
  refine PC.mk [some (.ref 3), some (.ref 1), some (yI x2), none, none, none, none] kn36 rfl ?_
  refine p_aload 1 c36_0 rfl rfl ?_
  refine p_iconst 2 c36_1 rfl ?_
  refine p_putI 5 c36_2 rfl kf3_4 ?_
  have hR316 := hR.up 3 4 (v := 0) (nselD rfl) (rgD rfl)
  refine p_iconst 6 c36_5 rfl ?_
  refine p_istore 7 c36_6 rfl rfl ?_
  refine p_iconst 8 c36_7 rfl ?_
  refine p_istore 10 c36_8 rfl rfl ?_
  refine p_iconst 11 c36_10 rfl ?_
  refine p_istore 13 c36_11 rfl rfl ?_
  refine PW.loop (K := k) (pce := 102) (fun (l : Int × Int × Int) ml => B36_13 f x2 l.1 l.2.1 l.2.2 ml) (fun (l : Int × Int × Int) j => [some (.ref 3), some (.ref 1), some (yI x2), some (yI l.1), some (yI l.2.1), some (yI l.2.2), j 6]) (fun (l : Int × Int × Int) => rg l.1 ∧ rg l.2.1 ∧ rg l.2.2) (RM c) (fun (r' : Unit) m' => RM c m' → ∀ n' : Nat, (qV c (F36 f x2 m)) (.inl none) m' n') (fun k' hk' l j m' n' hl hI Hn' He' Hr' => tB36_13 (f := f) (by omega) gx2 hl.1 hl.2.1 hl.2.2 hI (fun y0 y1 y2 y3 m2 n2 e h0 h1 h2 hR2 => Hn' (y0, y1, y2) (fun q => ([none, none, none, none, none, none, y3] : List (Option Value)).getD q none) m2 n2 e ⟨h0, h1, h2⟩ hR2) (fun y0 y1 y2 y3 m2 n2 e h0 h1 h2 hR2 => He' (y0, y1, y2) (fun q => ([none, none, none, none, none, none, y3] : List (Option Value)).getD q none) m2 n2 e ⟨h0, h1, h2⟩ hR2) (fun m2 e => Hr' () m2 e)) f k (by omega) (Nat.le_refl _) (0, 0, 0) (fun q => ([some (.ref 3), some (.ref 1), some (yI x2), some (yI 0), some (yI 0), some (yI 0), none] : xL).getD q none) _ _ ⟨(rgD rfl), (rgD rfl), (rgD rfl)⟩ hR316 (fun l454 j457 m460 n459 e456 hl455 hR461 k458 hk458 => ?_) (fun r' m' e' => ?_)
  · have hX462 := hX.trans (bL_l e456)
    refine p_aload 103 c36_102 rfl rfl ?_
    refine p_iconst 104 c36_103 rfl ?_
    refine p_iload 105 c36_104 rfl rfl ?_
    refine p_cV 108 [.ref 3, yI 0, yI l454.1] [] c36_105 rfl rfl rfl (fun k' hk' d' => d32 (f := f) (by omega) (rgD rfl) hl455.1 hR461) (fun m469 hF465 hR470 n464 k463 hk463 => ?_)
    have hX468 := hX462.trans (bU_s hF465)
    refine p_aload 109 c36_108 rfl rfl ?_
    refine p_cV 112 [.ref 3] [] c36_109 rfl rfl rfl (fun k' hk' d' => d35 (f := f) (by omega) hR470) (fun m522 hF518 hR523 n472 k471 hk471 => ?_)
    have hX521 := hX468.trans (bU_s hF518)
    exact p_return c36_112 (Hr _ hX521 hR523 _)
  · exact Hr m' (hX.trans (bL_r e'))
def F37 (f : Nat) (x1 : Int) (m : yM) : Option (Int × yM) := (if m 5 (m 2 2).toNat = x1 then (some (1, yup m 2 2 (wr ((m 2 2) + 1)))) else (some (0, yup m 2 4 (m 6 (m 2 2).toNat))))
set_option maxRecDepth 100000 in
theorem d37 {L : Nat} {xs : Nat → Int32} {k d n : Nat} {c : yS3} {f : Nat} {x1 : Int} {m : yM} (hk : k ≤ f) (gx1 : rg x1) (hR : RM c m) : PC (gZ L xs) k d 37 [.ref 2, yI x1] m n (qS c (F37 f x1 m)) := by
  have hX : F37 f x1 m = F37 f x1 m := rfl
  have Hr : ∀ r m', F37 f x1 m = some (r, m') → rg r → RM c m' → ∀ n' : Nat, (qS c (F37 f x1 m)) (.inl (some (yI r))) m' n' := fun r m' e h1 h2 n' => ⟨r, rfl, h1, h2, e⟩
  refine PC.mk [some (.ref 2), some (yI x1)] kn37 rfl ?_
  refine p_aload 1 c37_0 rfl rfl ?_
  refine p_getR 4 c37_1 rfl kf2_0 ?_
  refine p_getR 7 c37_4 rfl kf3_1 ?_
  refine p_aload 8 c37_7 rfl rfl ?_
  refine p_getX 11 (m 2 2) c37_8 rfl kf2_2 rfl ?_
  refine p_iaX 12 (m 5 (m 2 2).toNat) c37_11 rfl ka5 (hR.rg _ _) rfl (fun hx536 => ?_)
  refine p_iload 13 c37_12 rfl rfl ?_
  refine p_icmp 34 16 c37_13 rfl rfl (yc_eq (hR.rg _ _) gx1) (fun hb537 k538 hk538 => ?_) (fun hb537 k539 hk539 => ?_)
  · have hX540 := hX.trans (if_pos hb537)
    refine p_aload 35 c37_34 rfl rfl ?_
    refine p_dup 36 c37_35 rfl rfl ?_
    refine p_getX 39 (m 2 2) c37_36 rfl kf2_2 rfl ?_
    refine p_iconst 40 c37_39 rfl ?_
    refine p_iadd 41 c37_40 rfl ?_
    refine p_putI 44 c37_41 rfl kf2_2 ?_
    have hR541 := hR.up 2 2 (v := wr ((m 2 2) + 1)) (nselD rfl) (rg_wr _)
    refine p_iconst 45 c37_44 rfl ?_
    exact p_ireturn c37_45 (Hr _ _ hX540 (rgD rfl) hR541 _)
  · have hX542 := hX.trans (if_neg hb537)
    refine p_aload 17 c37_16 rfl rfl ?_
    refine p_aload 18 c37_17 rfl rfl ?_
    refine p_getR 21 c37_18 rfl kf2_0 ?_
    refine p_getR 24 c37_21 rfl kf3_2 ?_
    refine p_aload 25 c37_24 rfl rfl ?_
    refine p_getX 28 (m 2 2) c37_25 rfl kf2_2 rfl ?_
    refine p_iaX 29 (m 6 (m 2 2).toNat) c37_28 rfl ka6 (hR.rg _ _) rfl (fun hx543 => ?_)
    refine p_putI 32 c37_29 rfl kf2_4 ?_
    have hR544 := hR.up 2 4 (v := m 6 (m 2 2).toNat) (nselD rfl) (hR.rg _ _)
    refine p_iconst 33 c37_32 rfl ?_
    exact p_ireturn c37_33 (Hr _ _ hX542 (rgD rfl) hR544 _)
def F38 (m : yM) : Int := (m 5 (m 2 2).toNat)
set_option maxRecDepth 100000 in
theorem d38 {L : Nat} {xs : Nat → Int32} {k d n : Nat} {c : yS3} {m : yM} (hR : RM c m) : PC (gZ L xs) k d 38 [.ref 2] m n (qX m (F38 m)) := by
  have hX : F38 m = F38 m := rfl
  have Hr : ∀ r, F38 m = r → rg r → ∀ n' : Nat, (qX m (F38 m)) (.inl (some (yI r))) m n' := fun r e h n' => by subst e; exact ⟨rfl, h, rfl⟩
  refine PC.mk [some (.ref 2)] kn38 rfl ?_
  refine p_aload 1 c38_0 rfl rfl ?_
  refine p_getR 4 c38_1 rfl kf2_0 ?_
  refine p_getR 7 c38_4 rfl kf3_1 ?_
  refine p_aload 8 c38_7 rfl rfl ?_
  refine p_getX 11 (m 2 2) c38_8 rfl kf2_2 rfl ?_
  refine p_iaX 12 (m 5 (m 2 2).toNat) c38_11 rfl ka5 (hR.rg _ _) rfl (fun hx557 => ?_)
  exact p_ireturn c38_12 (Hr _ hX (hR.rg _ _) _)
def F43 (f : Nat) (m : yM) : Option (Int × yM) := (some (0, yup m 2 4 (m 6 (m 2 2).toNat)))
set_option maxRecDepth 100000 in
theorem d43 {L : Nat} {xs : Nat → Int32} {k d n : Nat} {c : yS3} {f : Nat} {m : yM} (hk : k ≤ f) (hR : RM c m) : PC (gZ L xs) k d 43 [.ref 2] m n (qS c (F43 f m)) := by
  have hX : F43 f m = F43 f m := rfl
  have Hr : ∀ r m', F43 f m = some (r, m') → rg r → RM c m' → ∀ n' : Nat, (qS c (F43 f m)) (.inl (some (yI r))) m' n' := fun r m' e h1 h2 n' => ⟨r, rfl, h1, h2, e⟩
  refine PC.mk [some (.ref 2)] kn43 rfl ?_
  refine p_aload 1 c43_0 rfl rfl ?_
  refine p_aload 2 c43_1 rfl rfl ?_
  refine p_getR 5 c43_2 rfl kf2_0 ?_
  refine p_getR 8 c43_5 rfl kf3_2 ?_
  refine p_aload 9 c43_8 rfl rfl ?_
  refine p_getX 12 (m 2 2) c43_9 rfl kf2_2 rfl ?_
  refine p_iaX 13 (m 6 (m 2 2).toNat) c43_12 rfl ka6 (hR.rg _ _) rfl (fun hx565 => ?_)
  refine p_putI 16 c43_13 rfl kf2_4 ?_
  have hR566 := hR.up 2 4 (v := m 6 (m 2 2).toNat) (nselD rfl) (hR.rg _ _)
  refine p_iconst 17 c43_16 rfl ?_
  exact p_ireturn c43_17 (Hr _ _ hX (rgD rfl) hR566 _)
def F39 (m : yM) : Int := (m 7 (m 2 2).toNat)
set_option maxRecDepth 100000 in
theorem d39 {L : Nat} {xs : Nat → Int32} {k d n : Nat} {c : yS3} {m : yM} (hR : RM c m) : PC (gZ L xs) k d 39 [.ref 2] m n (qX m (F39 m)) := by
  have hX : F39 m = F39 m := rfl
  have Hr : ∀ r, F39 m = r → rg r → ∀ n' : Nat, (qX m (F39 m)) (.inl (some (yI r))) m n' := fun r e h n' => by subst e; exact ⟨rfl, h, rfl⟩
  refine PC.mk [some (.ref 2)] kn39 rfl ?_
  refine p_aload 1 c39_0 rfl rfl ?_
  refine p_getR 4 c39_1 rfl kf2_0 ?_
  refine p_getR 7 c39_4 rfl kf3_3 ?_
  refine p_aload 8 c39_7 rfl rfl ?_
  refine p_getX 11 (m 2 2) c39_8 rfl kf2_2 rfl ?_
  refine p_iaX 12 (m 7 (m 2 2).toNat) c39_11 rfl ka7 (hR.rg _ _) rfl (fun hx576 => ?_)
  exact p_ireturn c39_12 (Hr _ hX (hR.rg _ _) _)
def B40_6_2 (f : Nat) (a0 : Nat) (x1 : Int) (x2 : Int) (x3 : Int) (m : yM) : Option (Int ⊕ (Int ⊕ Int)) := (if x3 < x1 then (if m a0 x3.toNat = x2 then (some (.inr (.inr x3))) else (some (.inl (wr (x3 + 1))))) else (some (.inr (.inl x3))))
set_option maxRecDepth 100000 in
theorem tB40_6_2 {L : Nat} {xs : Nat → Int32} {Q : xO → yM → Nat → Prop} {k d n : Nat} {c : yS3} {f : Nat} {a0 : Nat} {x1 : Int} {x2 : Int} {x3 : Int} {m : yM} (hk : k ≤ f) (hr0 : yarr gSh 414 a0 = some (0, 6)) (hq0 : (257 ≤ a0 ∧ a0 < 261) ∨ (317 ≤ a0 ∧ a0 < 321)) (gx1 : rg x1) (gx2 : rg x2) (gx3 : rg x3) (hR : RM c m) (Hn : ∀ (y0 : Int) (n' : Nat), B40_6_2 f a0 x1 x2 x3 m = some (.inl y0) → rg y0 → ∀ k', k' < k → PW (gZ L xs) k' 40 d 2 [some (.ref a0), some (yI x1), some (yI x2), some (yI y0)] [] m n' Q) (He : ∀ (y0 : Int) (n' : Nat), B40_6_2 f a0 x1 x2 x3 m = some (.inr (.inl y0)) → rg y0 → ∀ k', k' ≤ k → PW (gZ L xs) k' 40 d 22 [some (.ref a0), some (yI x1), some (yI x2), some (yI y0)] [] m n' Q) (Hr : ∀ r, B40_6_2 f a0 x1 x2 x3 m = some (.inr (.inr r)) → rg r → ∀ n', Q (.inl (some (yI r))) m n') : PW (gZ L xs) k 40 d 2 [some (.ref a0), some (yI x1), some (yI x2), some (yI x3)] [] m n Q := by
  have hX : B40_6_2 f a0 x1 x2 x3 m = B40_6_2 f a0 x1 x2 x3 m := rfl
  refine p_iload 3 c40_2 rfl rfl ?_
  refine p_iload 4 c40_3 rfl rfl ?_
  refine p_icmp 22 7 c40_4 rfl rfl ((yc_ge gx3 gx1).trans Int.not_lt.symm) (fun hb589 k590 hk590 => ?_) (fun hb589 k591 hk591 => ?_)
  · have hX592 := hX.trans (if_neg hb589)
    exact He _ _ hX592 gx3 _ (by omega)
  · have hX593 := hX.trans (if_pos (Classical.not_not.mp hb589))
    refine p_aload 8 c40_7 rfl rfl ?_
    refine p_iload 9 c40_8 rfl rfl ?_
    refine p_iaX 10 (m a0 x3.toNat) c40_9 rfl hr0 gx3 rfl (fun hx594 => ?_)
    refine p_iload 11 c40_10 rfl rfl ?_
    refine p_icmp 16 14 c40_11 rfl rfl (yc_ne (hR.rg _ _) gx2) (fun hb595 k596 hk596 => ?_) (fun hb595 k597 hk597 => ?_)
    · have hX598 := hX593.trans (if_neg hb595)
      refine p_iinc 19 c40_16 rfl rfl rfl ?_
      refine p_gotoD 2 c40_19 rfl (fun k599 hk599 => ?_)
      exact Hn _ _ hX598 (rg_wr _) _ (by omega)
    · have hX600 := hX593.trans (if_pos (Classical.not_not.mp hb595))
      refine p_iload 15 c40_14 rfl rfl ?_
      exact p_ireturn c40_15 (Hr _ hX600 gx3 _)
def F40_6 (f : Nat) (a0 : Nat) (x1 : Int) (x2 : Int) (m : yM) : Option Int := (bQ (ploop (fun (l : Int) => B40_6_2 f a0 x1 x2 l m) f 0) (fun l601 => (some ((-1)))) (fun r => some r))
set_option maxRecDepth 100000 in
theorem d40_6 {L : Nat} {xs : Nat → Int32} {k d n : Nat} {c : yS3} {f : Nat} {a0 : Nat} {x1 : Int} {x2 : Int} {m : yM} (hk : k ≤ f) (hr0 : yarr gSh 414 a0 = some (0, 6)) (hq0 : (257 ≤ a0 ∧ a0 < 261) ∨ (317 ≤ a0 ∧ a0 < 321)) (gx1 : rg x1) (gx2 : rg x2) (hR : RM c m) : PC (gZ L xs) k d 40 [.ref a0, yI x1, yI x2] m n (qO m (F40_6 f a0 x1 x2 m)) := by
  have hX : F40_6 f a0 x1 x2 m = F40_6 f a0 x1 x2 m := rfl
  have Hr : ∀ r, F40_6 f a0 x1 x2 m = some r → rg r → ∀ n' : Nat, (qO m (F40_6 f a0 x1 x2 m)) (.inl (some (yI r))) m n' := fun r e h n' => ⟨r, rfl, h, rfl, e⟩
  refine PC.mk [some (.ref a0), some (yI x1), some (yI x2), none] kn40 rfl ?_
  refine p_iconst 1 c40_0 rfl ?_
  refine p_istore 2 c40_1 rfl rfl ?_
  refine PW.ploop (K := k) (pce := 22) (fun (l : Int) => B40_6_2 f a0 x1 x2 l m) (fun (l : Int) j => [some (.ref a0), some (yI x1), some (yI x2), some (yI l)]) (fun (l : Int) => rg l) (fun r' => rg r' → ∀ n' : Nat, (qO m (F40_6 f a0 x1 x2 m)) (.inl (some (yI r'))) m n') (fun k' hk' l j n' hl Hn' He' Hr' => tB40_6_2 (f := f) (by omega) hr0 (by omega) gx1 gx2 hl hR (fun y0 n2 e h0 => Hn' y0 (fun q => ([none, none, none, none] : List (Option Value)).getD q none) n2 e h0) (fun y0 n2 e h0 => He' y0 (fun q => ([none, none, none, none] : List (Option Value)).getD q none) n2 e h0) Hr') f k (by omega) (Nat.le_refl _) 0 (fun q => ([some (.ref a0), some (yI x1), some (yI x2), some (yI 0)] : xL).getD q none) _ (rgD rfl) (fun l601 j604 n606 e603 hl602 k605 hk605 => ?_) (fun r' e' => ?_)
  · have hX607 := hX.trans (bQ_l e603)
    refine p_iconst 23 c40_22 rfl ?_
    exact p_ireturn c40_23 (Hr _ hX607 (rgD rfl) _)
  · exact Hr r' (hX.trans (bQ_r e'))
def F41 (f : Nat) (A : Nat) (x1 : Int) (m : yM) : Option Int := (bP (F40_6 f (A + 1) (m A 9) x1 m) (fun r610 => (some r610)))
set_option maxRecDepth 100000 in
theorem d41 {L : Nat} {xs : Nat → Int32} {k d n : Nat} {c : yS3} {f : Nat} {A : Nat} {x1 : Int} {m : yM} (hk : k ≤ f) (hA : (A = 256 ∨ A = 316)) (gx1 : rg x1) (hR : RM c m) : PC (gZ L xs) k d 41 [.ref A, yI x1] m n (qO m (F41 f A x1 m)) := by
  have hX : F41 f A x1 m = F41 f A x1 m := rfl
  have Hr : ∀ r, F41 f A x1 m = some r → rg r → ∀ n' : Nat, (qO m (F41 f A x1 m)) (.inl (some (yI r))) m n' := fun r e h n' => ⟨r, rfl, h, rfl, e⟩
  refine PC.mk [some (.ref A), some (yI x1)] kn41 rfl ?_
  refine p_aload 1 c41_0 rfl rfl ?_
  refine p_getR 4 c41_1 rfl (kP_0 hA) ?_
  refine p_aload 5 c41_4 rfl rfl ?_
  refine p_getX 8 (m A 9) c41_5 rfl (kP_9 hA) rfl ?_
  refine p_iload 9 c41_8 rfl rfl ?_
  refine p_cO 12 [.ref (A + 1), yI (m A 9), yI x1] [] c41_9 rfl rfl rfl (fun k' hk' d' => d40_6 (f := f) (by omega) (kPa_1 hA) (by omega) (hR.rg _ _) gx1 hR) (fun r610 hF608 hg609 n588 k587 hk587 => ?_)
  have hX611 := hX.trans (bP_s hF608)
  exact p_ireturn c41_12 (Hr _ hX611 hg609 _)
