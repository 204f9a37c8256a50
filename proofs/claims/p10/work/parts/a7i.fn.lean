/-! FUNCTIONS OF THE METHODS: printed by wip/fn/dc.py -/
def J150_101 (f : Nat) (x1 : Int) (m : yM) : Option yM := (bU (F147 f x1 m) (fun m5394 => (some m5394)))
set_option maxRecDepth 100000 in
theorem tJ150_101 {L : Nat} {xs : Nat → Int32} {Q : xO → yM → Nat → Prop} {k d n : Nat} {c : yS3} {f : Nat} {x1 : Int} {m : yM} {j2 j3 j4 j5 : Option Value} (hk : k ≤ f) (gx1 : rg x1) (hR : RM c m) (Hr : ∀ m', J150_101 f x1 m = some m' → RM c m' → ∀ n', Q (.inl none) m' n') : PW (gZ L xs) k 150 d 101 [some (.ref 376), some (yI x1), j2, j3, j4, j5] [] m n Q := by
  have hX : J150_101 f x1 m = J150_101 f x1 m := rfl
  refine p_aload 102 c150_101 rfl rfl ?_
  refine p_iload 103 c150_102 rfl rfl ?_
  refine p_cV 106 [.ref 376, yI x1] [] c150_103 rfl rfl rfl (fun k' hk' d' => d147 (f := f) (by omega) gx1 hR) (fun m5394 hF5390 hR5395 n5261 k5260 hk5260 => ?_)
  have hX5393 := hX.trans (bU_s hF5390)
  refine p_goto 225 c150_106 rfl ?_
  exact p_return c150_225 (Hr _ hX5393 hR5395 _)
def J150_219 (f : Nat) (x1 : Int) (x3 : Int) (x4 : Int) (x5 : Int) (m : yM) : Option ((Int × yM) ⊕ ((Int × yM) ⊕ (Unit × yM))) := (some (.inl ((wr (x5 + 1)), m)))
set_option maxRecDepth 100000 in
theorem tJ150_219 {L : Nat} {xs : Nat → Int32} {Q : xO → yM → Nat → Prop} {k d n : Nat} {c : yS3} {f : Nat} {x1 : Int} {x3 : Int} {x4 : Int} {x5 : Int} {m : yM} {j2 : Option Value} (hk : k ≤ f) (gx1 : rg x1) (gx3 : rg x3) (gx4 : rg x4) (gx5 : rg x5) (hR : RM c m) (Hn : ∀ (y0 : Int) (z0 : Option Value) (m' : yM) (n' : Nat), J150_219 f x1 x3 x4 x5 m = some (.inl (y0, m')) → rg y0 → RM c m' → ∀ k', k' < k → PW (gZ L xs) k' 150 d 131 [some (.ref 376), some (yI x1), z0, some (yI x3), some (yI x4), some (yI y0)] [] m' n' Q) (He : ∀ (y0 : Int) (z0 : Option Value) (m' : yM) (n' : Nat), J150_219 f x1 x3 x4 x5 m = some (.inr (.inl (y0, m'))) → rg y0 → RM c m' → ∀ k', k' ≤ k → PW (gZ L xs) k' 150 d 225 [some (.ref 376), some (yI x1), z0, some (yI x3), some (yI x4), some (yI y0)] [] m' n' Q) (Hr : ∀ m', J150_219 f x1 x3 x4 x5 m = some (.inr (.inr ((), m'))) → RM c m' → ∀ n', Q (.inl none) m' n') : PW (gZ L xs) k 150 d 219 [some (.ref 376), some (yI x1), j2, some (yI x3), some (yI x4), some (yI x5)] [] m n Q := by
  have hX : J150_219 f x1 x3 x4 x5 m = J150_219 f x1 x3 x4 x5 m := rfl
  refine p_iinc 222 c150_219 rfl rfl rfl ?_
  refine p_gotoD 131 c150_222 rfl (fun k5424 hk5424 => ?_)
  exact Hn _ _ _ _ hX (rg_wr _) hR _ (by omega)
def B150_131 (f : Nat) (x1 : Int) (x3 : Int) (x4 : Int) (x5 : Int) (m : yM) : Option ((Int × yM) ⊕ ((Int × yM) ⊕ (Unit × yM))) := (if x5 < m 388 (m 376 18).toNat then (if F144 (m 404 (wr ((wr (12 * x4)) + x5)).toNat) m = 0 then (J150_219 f x1 x3 x4 x5 m) else (bP (F149 f (m 376 18) (m 400 (wr ((wr (12 * (m 376 18))) + x5)).toNat) (m 402 (wr ((wr (8 * (m 376 18))) + (m 403 (wr (x1 + 4)).toNat))).toNat) m) (fun r5457 => (if r5457 = 0 then (J150_219 f x1 x3 x4 x5 m) else (bU (F145 f x3 x5 m) (fun m5470 => (J150_219 f x1 x3 x4 x5 m5470))))))) else (some (.inr (.inl (x5, m)))))
set_option maxRecDepth 100000 in
theorem tB150_131 {L : Nat} {xs : Nat → Int32} {Q : xO → yM → Nat → Prop} {k d n : Nat} {c : yS3} {f : Nat} {x1 : Int} {x3 : Int} {x4 : Int} {x5 : Int} {m : yM} {j2 : Option Value} (hk : k ≤ f) (gx1 : rg x1) (gx3 : rg x3) (gx4 : rg x4) (gx5 : rg x5) (hR : RM c m) (Hn : ∀ (y0 : Int) (z0 : Option Value) (m' : yM) (n' : Nat), B150_131 f x1 x3 x4 x5 m = some (.inl (y0, m')) → rg y0 → RM c m' → ∀ k', k' < k → PW (gZ L xs) k' 150 d 131 [some (.ref 376), some (yI x1), z0, some (yI x3), some (yI x4), some (yI y0)] [] m' n' Q) (He : ∀ (y0 : Int) (z0 : Option Value) (m' : yM) (n' : Nat), B150_131 f x1 x3 x4 x5 m = some (.inr (.inl (y0, m'))) → rg y0 → RM c m' → ∀ k', k' ≤ k → PW (gZ L xs) k' 150 d 225 [some (.ref 376), some (yI x1), z0, some (yI x3), some (yI x4), some (yI y0)] [] m' n' Q) (Hr : ∀ m', B150_131 f x1 x3 x4 x5 m = some (.inr (.inr ((), m'))) → RM c m' → ∀ n', Q (.inl none) m' n') : PW (gZ L xs) k 150 d 131 [some (.ref 376), some (yI x1), j2, some (yI x3), some (yI x4), some (yI x5)] [] m n Q := by
  have hX : B150_131 f x1 x3 x4 x5 m = B150_131 f x1 x3 x4 x5 m := rfl
  refine p_iload 133 c150_131 rfl rfl ?_
  refine p_aload 134 c150_133 rfl rfl ?_
  refine p_getR 137 c150_134 rfl kf376_25 ?_
  refine p_aload 138 c150_137 rfl rfl ?_
  refine p_getX 141 (m 376 18) c150_138 rfl kf376_18 rfl ?_
  refine p_iaX 142 (m 388 (m 376 18).toNat) c150_141 rfl ka388 (hR.rg _ _) rfl (fun hx5410 => ?_)
  refine p_icmp 225 145 c150_142 rfl rfl ((yc_ge gx5 (hR.rg _ _)).trans Int.not_lt.symm) (fun hb5411 k5412 hk5412 => ?_) (fun hb5411 k5413 hk5413 => ?_)
  · have hX5414 := hX.trans (if_neg hb5411)
    exact He _ _ _ _ hX5414 gx5 hR _ (by omega)
  · have hX5415 := hX.trans (if_pos (Classical.not_not.mp hb5411))
    refine p_aload 146 c150_145 rfl rfl ?_
    refine p_aload 147 c150_146 rfl rfl ?_
    refine p_getR 150 c150_147 rfl kf376_41 ?_
    refine p_iconst 152 c150_150 rfl ?_
    refine p_iload 154 c150_152 rfl rfl ?_
    refine p_imul 155 c150_154 rfl ?_
    refine p_iload 157 c150_155 rfl rfl ?_
    refine p_iadd 158 c150_157 rfl ?_
    refine p_iaX 159 (m 404 (wr ((wr (12 * x4)) + x5)).toNat) c150_158 rfl ka404 (rg_wr _) rfl (fun hx5416 => ?_)
    refine p_cX 162 [.ref 376, yI (m 404 (wr ((wr (12 * x4)) + x5)).toNat)] [] c150_159 rfl rfl rfl (fun k' hk' d' => d144 (hR.rg _ _) hR) (fun hg5419 n5418 k5417 hk5417 => ?_)
    refine p_if 219 165 c150_162 rfl rfl (yz_eq hg5419) (fun hb5420 k5421 hk5421 => ?_) (fun hb5420 k5422 hk5422 => ?_)
    · have hX5423 := hX5415.trans (if_pos hb5420)
      exact tJ150_219 (f := f) (by omega) gx1 gx3 gx4 gx5 hR (fun y0 y1 m' n' e' h0 hR' k' hk' => Hn y0 y1 m' n' (hX5423.trans e') h0 hR' k' (by omega)) (fun y0 y1 m' n' e' h0 hR' k' hk' => He y0 y1 m' n' (hX5423.trans e') h0 hR' k' (by omega)) (fun m' e' => Hr m' (hX5423.trans e'))
    · have hX5425 := hX5415.trans (if_neg hb5420)
      refine p_aload 166 c150_165 rfl rfl ?_
      refine p_aload 167 c150_166 rfl rfl ?_
      refine p_getX 170 (m 376 18) c150_167 rfl kf376_18 rfl ?_
      refine p_aload 171 c150_170 rfl rfl ?_
      refine p_getR 174 c150_171 rfl kf376_37 ?_
      refine p_iconst 176 c150_174 rfl ?_
      refine p_aload 177 c150_176 rfl rfl ?_
      refine p_getX 180 (m 376 18) c150_177 rfl kf376_18 rfl ?_
      refine p_imul 181 c150_180 rfl ?_
      refine p_iload 183 c150_181 rfl rfl ?_
      refine p_iadd 184 c150_183 rfl ?_
      refine p_iaX 185 (m 400 (wr ((wr (12 * (m 376 18))) + x5)).toNat) c150_184 rfl ka400 (rg_wr _) rfl (fun hx5426 => ?_)
      refine p_aload 186 c150_185 rfl rfl ?_
      refine p_getR 189 c150_186 rfl kf376_39 ?_
      refine p_iconst 191 c150_189 rfl ?_
      refine p_aload 192 c150_191 rfl rfl ?_
      refine p_getX 195 (m 376 18) c150_192 rfl kf376_18 rfl ?_
      refine p_imul 196 c150_195 rfl ?_
      refine p_aload 197 c150_196 rfl rfl ?_
      refine p_getR 200 c150_197 rfl kf376_40 ?_
      refine p_iload 201 c150_200 rfl rfl ?_
      refine p_iconst 202 c150_201 rfl ?_
      refine p_iadd 203 c150_202 rfl ?_
      refine p_iaX 204 (m 403 (wr (x1 + 4)).toNat) c150_203 rfl ka403 (rg_wr _) rfl (fun hx5427 => ?_)
      refine p_iadd 205 c150_204 rfl ?_
      refine p_iaX 206 (m 402 (wr ((wr (8 * (m 376 18))) + (m 403 (wr (x1 + 4)).toNat))).toNat) c150_205 rfl ka402 (rg_wr _) rfl (fun hx5428 => ?_)
      refine p_cO 209 [.ref 376, yI (m 376 18), yI (m 400 (wr ((wr (12 * (m 376 18))) + x5)).toNat), yI (m 402 (wr ((wr (8 * (m 376 18))) + (m 403 (wr (x1 + 4)).toNat))).toNat)] [] c150_206 rfl rfl rfl (fun k' hk' d' => d149 (f := f) (by omega) (hR.rg _ _) (hR.rg _ _) (hR.rg _ _) hR) (fun r5457 hF5455 hg5456 n5430 k5429 hk5429 => ?_)
      have hX5458 := hX5425.trans (bP_s hF5455)
      refine p_if 219 212 c150_209 rfl rfl (yz_eq hg5456) (fun hb5459 k5460 hk5460 => ?_) (fun hb5459 k5461 hk5461 => ?_)
      · have hX5462 := hX5458.trans (if_pos hb5459)
        exact tJ150_219 (f := f) (by omega) gx1 gx3 gx4 gx5 hR (fun y0 y1 m' n' e' h0 hR' k' hk' => Hn y0 y1 m' n' (hX5462.trans e') h0 hR' k' (by omega)) (fun y0 y1 m' n' e' h0 hR' k' hk' => He y0 y1 m' n' (hX5462.trans e') h0 hR' k' (by omega)) (fun m' e' => Hr m' (hX5462.trans e'))
      · have hX5463 := hX5458.trans (if_neg hb5459)
        refine p_aload 213 c150_212 rfl rfl ?_
        refine p_iload 214 c150_213 rfl rfl ?_
        refine p_iload 216 c150_214 rfl rfl ?_
        refine p_cV 219 [.ref 376, yI x3, yI x5] [] c150_216 rfl rfl rfl (fun k' hk' d' => d145 (f := f) (by omega) gx3 gx5 hR) (fun m5470 hF5466 hR5471 n5465 k5464 hk5464 => ?_)
        have hX5469 := hX5463.trans (bU_s hF5466)
        exact tJ150_219 (f := f) (by omega) gx1 gx3 gx4 gx5 hR5471 (fun y0 y1 m' n' e' h0 hR' k' hk' => Hn y0 y1 m' n' (hX5469.trans e') h0 hR' k' (by omega)) (fun y0 y1 m' n' e' h0 hR' k' hk' => He y0 y1 m' n' (hX5469.trans e') h0 hR' k' (by omega)) (fun m' e' => Hr m' (hX5469.trans e'))
def F150 (f : Nat) (x1 : Int) (m : yM) : Option yM := (if m 403 x1.toNat = 1 then (bU (F145 f (m 403 (wr (x1 + 2)).toNat) (m 403 (wr (x1 + 3)).toNat) m) (fun m5684 => (some m5684))) else (if m 403 x1.toNat = 2 then (bU (F146 f (m 403 (wr (x1 + 2)).toNat) (m 403 (wr (x1 + 3)).toNat) m) (fun m5675 => (some m5675))) else (if m 403 x1.toNat = 6 then (bU (F146 f (m 398 (wr ((wr (10 * (m 376 18))) + (m 403 (wr (x1 + 1)).toNat))).toNat) (m 403 (wr (x1 + 2)).toNat) m) (fun m5666 => (some m5666))) else (if m 403 x1.toNat = 4 then (J150_101 f x1 m) else (if m 403 x1.toNat = 5 then (J150_101 f x1 m) else (if m 403 x1.toNat = 7 then (bU (F148 f x1 m) (fun m5654 => (some m5654))) else (if m 403 x1.toNat = 3 then (bL (yloop (fun (l : Int) ml => B150_131 f x1 (m 403 (wr (x1 + 2)).toNat) (m 403 (wr (x1 + 3)).toNat) l ml) f 0 m) (fun l5472 m5478 => (some m5478)) (fun _ mr => some mr)) else (some m))))))))
set_option maxRecDepth 100000 in
theorem d150 {L : Nat} {xs : Nat → Int32} {k d n : Nat} {c : yS3} {f : Nat} {x1 : Int} {m : yM} (hk : k ≤ f) (gx1 : rg x1) (hR : RM c m) : PC (gZ L xs) k d 150 [.ref 376, yI x1] m n (qV c (F150 f x1 m)) := by
  have hX : F150 f x1 m = F150 f x1 m := rfl
  have Hr : ∀ m', F150 f x1 m = some m' → RM c m' → ∀ n' : Nat, (qV c (F150 f x1 m)) (.inl none) m' n' := fun m' e h n' => ⟨rfl, h, e⟩
  refine PC.mk [some (.ref 376), some (yI x1), none, none, none, none] kn150 rfl ?_
  refine p_aload 1 c150_0 rfl rfl ?_
  refine p_getR 4 c150_1 rfl kf376_40 ?_
  refine p_iload 5 c150_4 rfl rfl ?_
  refine p_iaX 6 (m 403 x1.toNat) c150_5 rfl ka403 gx1 rfl (fun hx5241 => ?_)
  refine p_istore 7 c150_6 rfl rfl ?_
  refine p_aload 8 c150_7 rfl rfl ?_
  refine p_getR 11 c150_8 rfl kf376_40 ?_
  refine p_iload 12 c150_11 rfl rfl ?_
  refine p_iconst 13 c150_12 rfl ?_
  refine p_iadd 14 c150_13 rfl ?_
  refine p_iaX 15 (m 403 (wr (x1 + 2)).toNat) c150_14 rfl ka403 (rg_wr _) rfl (fun hx5242 => ?_)
  refine p_istore 16 c150_15 rfl rfl ?_
  refine p_aload 17 c150_16 rfl rfl ?_
  refine p_getR 20 c150_17 rfl kf376_40 ?_
  refine p_iload 21 c150_20 rfl rfl ?_
  refine p_iconst 22 c150_21 rfl ?_
  refine p_iadd 23 c150_22 rfl ?_
  refine p_iaX 24 (m 403 (wr (x1 + 3)).toNat) c150_23 rfl ka403 (rg_wr _) rfl (fun hx5243 => ?_)
  refine p_istore 26 c150_24 rfl rfl ?_
  refine p_iload 27 c150_26 rfl rfl ?_
  refine p_iconst 28 c150_27 rfl ?_
  refine p_icmp 41 31 c150_28 rfl rfl (yc_ne (hR.rg _ _) (rgD rfl)) (fun hb5244 k5245 hk5245 => ?_) (fun hb5244 k5246 hk5246 => ?_)
  · have hX5247 := hX.trans (if_neg hb5244)
    refine p_iload 42 c150_41 rfl rfl ?_
    refine p_iconst 43 c150_42 rfl ?_
    refine p_icmp 56 46 c150_43 rfl rfl (yc_ne (hR.rg _ _) (rgD rfl)) (fun hb5248 k5249 hk5249 => ?_) (fun hb5248 k5250 hk5250 => ?_)
    · have hX5251 := hX5247.trans (if_neg hb5248)
      refine p_iload 57 c150_56 rfl rfl ?_
      refine p_iconst 59 c150_57 rfl ?_
      refine p_icmp 91 62 c150_59 rfl rfl (yc_ne (hR.rg _ _) (rgD rfl)) (fun hb5252 k5253 hk5253 => ?_) (fun hb5252 k5254 hk5254 => ?_)
      · have hX5255 := hX5251.trans (if_neg hb5252)
        refine p_iload 92 c150_91 rfl rfl ?_
        refine p_iconst 93 c150_92 rfl ?_
        refine p_icmp 101 96 c150_93 rfl rfl (yc_eq (hR.rg _ _) (rgD rfl)) (fun hb5256 k5257 hk5257 => ?_) (fun hb5256 k5258 hk5258 => ?_)
        · have hX5259 := hX5255.trans (if_pos hb5256)
          exact tJ150_101 (f := f) (by omega) gx1 hR (fun m' e' => Hr m' (hX5259.trans e'))
        · have hX5396 := hX5255.trans (if_neg hb5256)
          refine p_iload 97 c150_96 rfl rfl ?_
          refine p_iconst 98 c150_97 rfl ?_
          refine p_icmp 109 101 c150_98 rfl rfl (yc_ne (hR.rg _ _) (rgD rfl)) (fun hb5397 k5398 hk5398 => ?_) (fun hb5397 k5399 hk5399 => ?_)
          · have hX5400 := hX5396.trans (if_neg hb5397)
            refine p_iload 110 c150_109 rfl rfl ?_
            refine p_iconst 112 c150_110 rfl ?_
            refine p_icmp 123 115 c150_112 rfl rfl (yc_ne (hR.rg _ _) (rgD rfl)) (fun hb5401 k5402 hk5402 => ?_) (fun hb5401 k5403 hk5403 => ?_)
            · have hX5404 := hX5400.trans (if_neg hb5401)
              refine p_iload 124 c150_123 rfl rfl ?_
              refine p_iconst 125 c150_124 rfl ?_
              refine p_icmp 225 128 c150_125 rfl rfl (yc_ne (hR.rg _ _) (rgD rfl)) (fun hb5405 k5406 hk5406 => ?_) (fun hb5405 k5407 hk5407 => ?_)
              · have hX5408 := hX5404.trans (if_neg hb5405)
                exact p_return c150_225 (Hr _ hX5408 hR _)
              · have hX5409 := hX5404.trans (if_pos (Classical.not_not.mp hb5405))
                refine p_iconst 129 c150_128 rfl ?_
                refine p_istore 131 c150_129 rfl rfl ?_
                refine PW.loop (K := k5407) (pce := 225) (fun (l : Int) ml => B150_131 f x1 (m 403 (wr (x1 + 2)).toNat) (m 403 (wr (x1 + 3)).toNat) l ml) (fun (l : Int) j => [some (.ref 376), some (yI x1), j 2, some (yI (m 403 (wr (x1 + 2)).toNat)), some (yI (m 403 (wr (x1 + 3)).toNat)), some (yI l)]) (fun (l : Int) => rg l) (RM c) (fun (r' : Unit) m' => RM c m' → ∀ n' : Nat, (qV c (F150 f x1 m)) (.inl none) m' n') (fun k' hk' l j m' n' hl hI Hn' He' Hr' => tB150_131 (f := f) (by omega) gx1 (hR.rg _ _) (hR.rg _ _) hl hI (fun y0 y1 m2 n2 e h0 hR2 => Hn' y0 (fun q => ([none, none, y1, none, none, none] : List (Option Value)).getD q none) m2 n2 e h0 hR2) (fun y0 y1 m2 n2 e h0 hR2 => He' y0 (fun q => ([none, none, y1, none, none, none] : List (Option Value)).getD q none) m2 n2 e h0 hR2) (fun m2 e => Hr' () m2 e)) f k5407 (by omega) (Nat.le_refl _) 0 (fun q => ([some (.ref 376), some (yI x1), some (yI (m 403 x1.toNat)), some (yI (m 403 (wr (x1 + 2)).toNat)), some (yI (m 403 (wr (x1 + 3)).toNat)), some (yI 0)] : xL).getD q none) _ _ (rgD rfl) hR (fun l5472 j5475 m5478 n5477 e5474 hl5473 hR5479 k5476 hk5476 => ?_) (fun r' m' e' => ?_)
                · have hX5480 := hX5409.trans (bL_l e5474)
                  exact p_return c150_225 (Hr _ hX5480 hR5479 _)
                · exact Hr m' (hX5409.trans (bL_r e'))
            · have hX5481 := hX5400.trans (if_pos (Classical.not_not.mp hb5401))
              refine p_aload 116 c150_115 rfl rfl ?_
              refine p_iload 117 c150_116 rfl rfl ?_
              refine p_cV 120 [.ref 376, yI x1] [] c150_117 rfl rfl rfl (fun k' hk' d' => d148 (f := f) (by omega) gx1 hR) (fun m5654 hF5650 hR5655 n5483 k5482 hk5482 => ?_)
              have hX5653 := hX5481.trans (bU_s hF5650)
              refine p_goto 225 c150_120 rfl ?_
              exact p_return c150_225 (Hr _ hX5653 hR5655 _)
          · have hX5656 := hX5396.trans (if_pos (Classical.not_not.mp hb5397))
            exact tJ150_101 (f := f) (by omega) gx1 hR (fun m' e' => Hr m' (hX5656.trans e'))
      · have hX5657 := hX5251.trans (if_pos (Classical.not_not.mp hb5252))
        refine p_aload 63 c150_62 rfl rfl ?_
        refine p_aload 64 c150_63 rfl rfl ?_
        refine p_getR 67 c150_64 rfl kf376_35 ?_
        refine p_iconst 69 c150_67 rfl ?_
        refine p_aload 70 c150_69 rfl rfl ?_
        refine p_getX 73 (m 376 18) c150_70 rfl kf376_18 rfl ?_
        refine p_imul 74 c150_73 rfl ?_
        refine p_aload 75 c150_74 rfl rfl ?_
        refine p_getR 78 c150_75 rfl kf376_40 ?_
        refine p_iload 79 c150_78 rfl rfl ?_
        refine p_iconst 80 c150_79 rfl ?_
        refine p_iadd 81 c150_80 rfl ?_
        refine p_iaX 82 (m 403 (wr (x1 + 1)).toNat) c150_81 rfl ka403 (rg_wr _) rfl (fun hx5658 => ?_)
        refine p_iadd 83 c150_82 rfl ?_
        refine p_iaX 84 (m 398 (wr ((wr (10 * (m 376 18))) + (m 403 (wr (x1 + 1)).toNat))).toNat) c150_83 rfl ka398 (rg_wr _) rfl (fun hx5659 => ?_)
        refine p_iload 85 c150_84 rfl rfl ?_
        refine p_cV 88 [.ref 376, yI (m 398 (wr ((wr (10 * (m 376 18))) + (m 403 (wr (x1 + 1)).toNat))).toNat), yI (m 403 (wr (x1 + 2)).toNat)] [] c150_85 rfl rfl rfl (fun k' hk' d' => d146 (f := f) (by omega) (hR.rg _ _) (hR.rg _ _) hR) (fun m5666 hF5662 hR5667 n5661 k5660 hk5660 => ?_)
        have hX5665 := hX5657.trans (bU_s hF5662)
        refine p_goto 225 c150_88 rfl ?_
        exact p_return c150_225 (Hr _ hX5665 hR5667 _)
    · have hX5668 := hX5247.trans (if_pos (Classical.not_not.mp hb5248))
      refine p_aload 47 c150_46 rfl rfl ?_
      refine p_iload 48 c150_47 rfl rfl ?_
      refine p_iload 50 c150_48 rfl rfl ?_
      refine p_cV 53 [.ref 376, yI (m 403 (wr (x1 + 2)).toNat), yI (m 403 (wr (x1 + 3)).toNat)] [] c150_50 rfl rfl rfl (fun k' hk' d' => d146 (f := f) (by omega) (hR.rg _ _) (hR.rg _ _) hR) (fun m5675 hF5671 hR5676 n5670 k5669 hk5669 => ?_)
      have hX5674 := hX5668.trans (bU_s hF5671)
      refine p_goto 225 c150_53 rfl ?_
      exact p_return c150_225 (Hr _ hX5674 hR5676 _)
  · have hX5677 := hX.trans (if_pos (Classical.not_not.mp hb5244))
    refine p_aload 32 c150_31 rfl rfl ?_
    refine p_iload 33 c150_32 rfl rfl ?_
    refine p_iload 35 c150_33 rfl rfl ?_
    refine p_cV 38 [.ref 376, yI (m 403 (wr (x1 + 2)).toNat), yI (m 403 (wr (x1 + 3)).toNat)] [] c150_35 rfl rfl rfl (fun k' hk' d' => d145 (f := f) (by omega) (hR.rg _ _) (hR.rg _ _) hR) (fun m5684 hF5680 hR5685 n5679 k5678 hk5678 => ?_)
    have hX5683 := hX5677.trans (bU_s hF5680)
    refine p_goto 225 c150_38 rfl ?_
    exact p_return c150_225 (Hr _ hX5683 hR5685 _)
def B151_2 (f : Nat) (x1 : Int) (m : yM) : Option ((Int × yM) ⊕ ((Int × yM) ⊕ (Unit × yM))) := (if x1 < 576 then (some (.inl ((wr (x1 + 1)), yup m 404 x1.toNat ((-1))))) else (some (.inr (.inl (x1, m)))))
set_option maxRecDepth 100000 in
theorem tB151_2 {L : Nat} {xs : Nat → Int32} {Q : xO → yM → Nat → Prop} {k d n : Nat} {c : yS3} {f : Nat} {x1 : Int} {m : yM} {j2 j3 : Option Value} (hk : k ≤ f) (gx1 : rg x1) (hR : RM c m) (Hn : ∀ (y0 : Int) (z0 z1 : Option Value) (m' : yM) (n' : Nat), B151_2 f x1 m = some (.inl (y0, m')) → rg y0 → RM c m' → ∀ k', k' < k → PW (gZ L xs) k' 151 d 2 [some (.ref 376), some (yI y0), z0, z1] [] m' n' Q) (He : ∀ (y0 : Int) (z0 z1 : Option Value) (m' : yM) (n' : Nat), B151_2 f x1 m = some (.inr (.inl (y0, m'))) → rg y0 → RM c m' → ∀ k', k' ≤ k → PW (gZ L xs) k' 151 d 22 [some (.ref 376), some (yI y0), z0, z1] [] m' n' Q) (Hr : ∀ m', B151_2 f x1 m = some (.inr (.inr ((), m'))) → RM c m' → ∀ n', Q (.inl none) m' n') : PW (gZ L xs) k 151 d 2 [some (.ref 376), some (yI x1), j2, j3] [] m n Q := by
  have hX : B151_2 f x1 m = B151_2 f x1 m := rfl
  refine p_iload 3 c151_2 rfl rfl ?_
  refine p_iconst 6 c151_3 rfl ?_
  refine p_icmp 22 9 c151_6 rfl rfl ((yc_ge gx1 (rgD rfl)).trans Int.not_lt.symm) (fun hb5093 k5094 hk5094 => ?_) (fun hb5093 k5095 hk5095 => ?_)
  · have hX5096 := hX.trans (if_neg hb5093)
    exact He _ _ _ _ _ hX5096 gx1 hR _ (by omega)
  · have hX5097 := hX.trans (if_pos (Classical.not_not.mp hb5093))
    refine p_aload 10 c151_9 rfl rfl ?_
    refine p_getR 13 c151_10 rfl kf376_41 ?_
    refine p_iload 14 c151_13 rfl rfl ?_
    refine p_iconst 15 c151_14 rfl ?_
    refine p_iaS 16 c151_15 rfl ka404 gx1 ((-1)) (nar0 (rgD rfl)) (fun hx5098 => ?_)
    have hR5099 := hR.up 404 x1.toNat (v := (-1)) (nselA (by decide)) (rgD rfl)
    refine p_iinc 19 c151_16 rfl rfl rfl ?_
    refine p_gotoD 2 c151_19 rfl (fun k5100 hk5100 => ?_)
    exact Hn _ _ _ _ _ hX5097 (rg_wr _) hR5099 _ (by omega)
def B151_24 (f : Nat) (x1 : Int) (m : yM) : Option ((Int × yM) ⊕ ((Int × yM) ⊕ (Unit × yM))) := (if x1 < 1152 then (some (.inl ((wr (x1 + 1)), yup m 405 x1.toNat ((-1))))) else (some (.inr (.inl (x1, m)))))
set_option maxRecDepth 100000 in
theorem tB151_24 {L : Nat} {xs : Nat → Int32} {Q : xO → yM → Nat → Prop} {k d n : Nat} {c : yS3} {f : Nat} {x1 : Int} {m : yM} {j2 j3 : Option Value} (hk : k ≤ f) (gx1 : rg x1) (hR : RM c m) (Hn : ∀ (y0 : Int) (z0 z1 : Option Value) (m' : yM) (n' : Nat), B151_24 f x1 m = some (.inl (y0, m')) → rg y0 → RM c m' → ∀ k', k' < k → PW (gZ L xs) k' 151 d 24 [some (.ref 376), some (yI y0), z0, z1] [] m' n' Q) (He : ∀ (y0 : Int) (z0 z1 : Option Value) (m' : yM) (n' : Nat), B151_24 f x1 m = some (.inr (.inl (y0, m'))) → rg y0 → RM c m' → ∀ k', k' ≤ k → PW (gZ L xs) k' 151 d 44 [some (.ref 376), some (yI y0), z0, z1] [] m' n' Q) (Hr : ∀ m', B151_24 f x1 m = some (.inr (.inr ((), m'))) → RM c m' → ∀ n', Q (.inl none) m' n') : PW (gZ L xs) k 151 d 24 [some (.ref 376), some (yI x1), j2, j3] [] m n Q := by
  have hX : B151_24 f x1 m = B151_24 f x1 m := rfl
  refine p_iload 25 c151_24 rfl rfl ?_
  refine p_iconst 28 c151_25 rfl ?_
  refine p_icmp 44 31 c151_28 rfl rfl ((yc_ge gx1 (rgD rfl)).trans Int.not_lt.symm) (fun hb5110 k5111 hk5111 => ?_) (fun hb5110 k5112 hk5112 => ?_)
  · have hX5113 := hX.trans (if_neg hb5110)
    exact He _ _ _ _ _ hX5113 gx1 hR _ (by omega)
  · have hX5114 := hX.trans (if_pos (Classical.not_not.mp hb5110))
    refine p_aload 32 c151_31 rfl rfl ?_
    refine p_getR 35 c151_32 rfl kf376_42 ?_
    refine p_iload 36 c151_35 rfl rfl ?_
    refine p_iconst 37 c151_36 rfl ?_
    refine p_iaS 38 c151_37 rfl ka405 gx1 ((-1)) (nar0 (rgD rfl)) (fun hx5115 => ?_)
    have hR5116 := hR.up 405 x1.toNat (v := (-1)) (nselA (by decide)) (rgD rfl)
    refine p_iinc 41 c151_38 rfl rfl rfl ?_
    refine p_gotoD 24 c151_41 rfl (fun k5117 hk5117 => ?_)
    exact Hn _ _ _ _ _ hX5114 (rg_wr _) hR5116 _ (by omega)
def B151_46 (f : Nat) (x1 : Int) (m : yM) : Option ((Int × yM) ⊕ ((Int × yM) ⊕ (Unit × yM))) := (if x1 < 120 then (some (.inl ((wr (x1 + 1)), yup m 406 x1.toNat ((-1))))) else (some (.inr (.inl (x1, m)))))
set_option maxRecDepth 100000 in
theorem tB151_46 {L : Nat} {xs : Nat → Int32} {Q : xO → yM → Nat → Prop} {k d n : Nat} {c : yS3} {f : Nat} {x1 : Int} {m : yM} {j2 j3 : Option Value} (hk : k ≤ f) (gx1 : rg x1) (hR : RM c m) (Hn : ∀ (y0 : Int) (z0 z1 : Option Value) (m' : yM) (n' : Nat), B151_46 f x1 m = some (.inl (y0, m')) → rg y0 → RM c m' → ∀ k', k' < k → PW (gZ L xs) k' 151 d 46 [some (.ref 376), some (yI y0), z0, z1] [] m' n' Q) (He : ∀ (y0 : Int) (z0 z1 : Option Value) (m' : yM) (n' : Nat), B151_46 f x1 m = some (.inr (.inl (y0, m'))) → rg y0 → RM c m' → ∀ k', k' ≤ k → PW (gZ L xs) k' 151 d 65 [some (.ref 376), some (yI y0), z0, z1] [] m' n' Q) (Hr : ∀ m', B151_46 f x1 m = some (.inr (.inr ((), m'))) → RM c m' → ∀ n', Q (.inl none) m' n') : PW (gZ L xs) k 151 d 46 [some (.ref 376), some (yI x1), j2, j3] [] m n Q := by
  have hX : B151_46 f x1 m = B151_46 f x1 m := rfl
  refine p_iload 47 c151_46 rfl rfl ?_
  refine p_iconst 49 c151_47 rfl ?_
  refine p_icmp 65 52 c151_49 rfl rfl ((yc_ge gx1 (rgD rfl)).trans Int.not_lt.symm) (fun hb5127 k5128 hk5128 => ?_) (fun hb5127 k5129 hk5129 => ?_)
  · have hX5130 := hX.trans (if_neg hb5127)
    exact He _ _ _ _ _ hX5130 gx1 hR _ (by omega)
  · have hX5131 := hX.trans (if_pos (Classical.not_not.mp hb5127))
    refine p_aload 53 c151_52 rfl rfl ?_
    refine p_getR 56 c151_53 rfl kf376_43 ?_
    refine p_iload 57 c151_56 rfl rfl ?_
    refine p_iconst 58 c151_57 rfl ?_
    refine p_iaS 59 c151_58 rfl ka406 gx1 ((-1)) (nar0 (rgD rfl)) (fun hx5132 => ?_)
    have hR5133 := hR.up 406 x1.toNat (v := (-1)) (nselA (by decide)) (rgD rfl)
    refine p_iinc 62 c151_59 rfl rfl rfl ?_
    refine p_gotoD 46 c151_62 rfl (fun k5134 hk5134 => ?_)
    exact Hn _ _ _ _ _ hX5131 (rg_wr _) hR5133 _ (by omega)
def B151_67 (f : Nat) (x1 : Int) (m : yM) : Option ((Int × yM) ⊕ ((Int × yM) ⊕ (Unit × yM))) := (if x1 < 10 then (some (.inl ((wr (x1 + 1)), yup m 407 x1.toNat ((-1))))) else (some (.inr (.inl (x1, m)))))
set_option maxRecDepth 100000 in
theorem tB151_67 {L : Nat} {xs : Nat → Int32} {Q : xO → yM → Nat → Prop} {k d n : Nat} {c : yS3} {f : Nat} {x1 : Int} {m : yM} {j2 j3 : Option Value} (hk : k ≤ f) (gx1 : rg x1) (hR : RM c m) (Hn : ∀ (y0 : Int) (z0 z1 : Option Value) (m' : yM) (n' : Nat), B151_67 f x1 m = some (.inl (y0, m')) → rg y0 → RM c m' → ∀ k', k' < k → PW (gZ L xs) k' 151 d 67 [some (.ref 376), some (yI y0), z0, z1] [] m' n' Q) (He : ∀ (y0 : Int) (z0 z1 : Option Value) (m' : yM) (n' : Nat), B151_67 f x1 m = some (.inr (.inl (y0, m'))) → rg y0 → RM c m' → ∀ k', k' ≤ k → PW (gZ L xs) k' 151 d 86 [some (.ref 376), some (yI y0), z0, z1] [] m' n' Q) (Hr : ∀ m', B151_67 f x1 m = some (.inr (.inr ((), m'))) → RM c m' → ∀ n', Q (.inl none) m' n') : PW (gZ L xs) k 151 d 67 [some (.ref 376), some (yI x1), j2, j3] [] m n Q := by
  have hX : B151_67 f x1 m = B151_67 f x1 m := rfl
  refine p_iload 68 c151_67 rfl rfl ?_
  refine p_iconst 70 c151_68 rfl ?_
  refine p_icmp 86 73 c151_70 rfl rfl ((yc_ge gx1 (rgD rfl)).trans Int.not_lt.symm) (fun hb5144 k5145 hk5145 => ?_) (fun hb5144 k5146 hk5146 => ?_)
  · have hX5147 := hX.trans (if_neg hb5144)
    exact He _ _ _ _ _ hX5147 gx1 hR _ (by omega)
  · have hX5148 := hX.trans (if_pos (Classical.not_not.mp hb5144))
    refine p_aload 74 c151_73 rfl rfl ?_
    refine p_getR 77 c151_74 rfl kf376_44 ?_
    refine p_iload 78 c151_77 rfl rfl ?_
    refine p_iconst 79 c151_78 rfl ?_
    refine p_iaS 80 c151_79 rfl ka407 gx1 ((-1)) (nar0 (rgD rfl)) (fun hx5149 => ?_)
    have hR5150 := hR.up 407 x1.toNat (v := (-1)) (nselA (by decide)) (rgD rfl)
    refine p_iinc 83 c151_80 rfl rfl rfl ?_
    refine p_gotoD 67 c151_83 rfl (fun k5151 hk5151 => ?_)
    exact Hn _ _ _ _ _ hX5148 (rg_wr _) hR5150 _ (by omega)
def J151_219 (f : Nat) (x2 : Int) (m : yM) : Option ((Int × yM) ⊕ ((Int × yM) ⊕ (Unit × yM))) := (some (.inl ((wr (x2 + 1)), m)))
set_option maxRecDepth 100000 in
theorem tJ151_219 {L : Nat} {xs : Nat → Int32} {Q : xO → yM → Nat → Prop} {k d n : Nat} {c : yS3} {f : Nat} {x2 : Int} {m : yM} {j1 j3 : Option Value} (hk : k ≤ f) (gx2 : rg x2) (hR : RM c m) (Hn : ∀ (y0 : Int) (z0 z1 : Option Value) (m' : yM) (n' : Nat), J151_219 f x2 m = some (.inl (y0, m')) → rg y0 → RM c m' → ∀ k', k' < k → PW (gZ L xs) k' 151 d 167 [some (.ref 376), z0, some (yI y0), z1] [] m' n' Q) (He : ∀ (y0 : Int) (z0 z1 : Option Value) (m' : yM) (n' : Nat), J151_219 f x2 m = some (.inr (.inl (y0, m'))) → rg y0 → RM c m' → ∀ k', k' ≤ k → PW (gZ L xs) k' 151 d 225 [some (.ref 376), z0, some (yI y0), z1] [] m' n' Q) (Hr : ∀ m', J151_219 f x2 m = some (.inr (.inr ((), m'))) → RM c m' → ∀ n', Q (.inl none) m' n') : PW (gZ L xs) k 151 d 219 [some (.ref 376), j1, some (yI x2), j3] [] m n Q := by
  have hX : J151_219 f x2 m = J151_219 f x2 m := rfl
  refine p_iinc 222 c151_219 rfl rfl rfl ?_
  refine p_gotoD 167 c151_222 rfl (fun k5237 hk5237 => ?_)
  exact Hn _ _ _ _ _ hX (rg_wr _) hR _ (by omega)
def B151_167 (f : Nat) (x2 : Int) (m : yM) : Option ((Int × yM) ⊕ ((Int × yM) ⊕ (Unit × yM))) := (if x2 < m 390 (m 376 18).toNat then (if F144 (m 407 (m 403 (wr ((wr ((wr (1000 * (m 376 18))) + (wr (8 * x2)))) + 1)).toNat).toNat) m = 0 then (J151_219 f x2 m) else (bU (F150 f (wr ((wr (1000 * (m 376 18))) + (wr (8 * x2)))) m) (fun m5690 => (J151_219 f x2 m5690)))) else (some (.inr (.inl (x2, m)))))
set_option maxRecDepth 100000 in
theorem tB151_167 {L : Nat} {xs : Nat → Int32} {Q : xO → yM → Nat → Prop} {k d n : Nat} {c : yS3} {f : Nat} {x2 : Int} {m : yM} {j1 j3 : Option Value} (hk : k ≤ f) (gx2 : rg x2) (hR : RM c m) (Hn : ∀ (y0 : Int) (z0 z1 : Option Value) (m' : yM) (n' : Nat), B151_167 f x2 m = some (.inl (y0, m')) → rg y0 → RM c m' → ∀ k', k' < k → PW (gZ L xs) k' 151 d 167 [some (.ref 376), z0, some (yI y0), z1] [] m' n' Q) (He : ∀ (y0 : Int) (z0 z1 : Option Value) (m' : yM) (n' : Nat), B151_167 f x2 m = some (.inr (.inl (y0, m'))) → rg y0 → RM c m' → ∀ k', k' ≤ k → PW (gZ L xs) k' 151 d 225 [some (.ref 376), z0, some (yI y0), z1] [] m' n' Q) (Hr : ∀ m', B151_167 f x2 m = some (.inr (.inr ((), m'))) → RM c m' → ∀ n', Q (.inl none) m' n') : PW (gZ L xs) k 151 d 167 [some (.ref 376), j1, some (yI x2), j3] [] m n Q := by
  have hX : B151_167 f x2 m = B151_167 f x2 m := rfl
  refine p_iload 168 c151_167 rfl rfl ?_
  refine p_aload 169 c151_168 rfl rfl ?_
  refine p_getR 172 c151_169 rfl kf376_27 ?_
  refine p_aload 173 c151_172 rfl rfl ?_
  refine p_getX 176 (m 376 18) c151_173 rfl kf376_18 rfl ?_
  refine p_iaX 177 (m 390 (m 376 18).toNat) c151_176 rfl ka390 (hR.rg _ _) rfl (fun hx5212 => ?_)
  refine p_icmp 225 180 c151_177 rfl rfl ((yc_ge gx2 (hR.rg _ _)).trans Int.not_lt.symm) (fun hb5213 k5214 hk5214 => ?_) (fun hb5213 k5215 hk5215 => ?_)
  · have hX5216 := hX.trans (if_neg hb5213)
    exact He _ _ _ _ _ hX5216 gx2 hR _ (by omega)
  · have hX5217 := hX.trans (if_pos (Classical.not_not.mp hb5213))
    refine p_iconst 183 c151_180 rfl ?_
    refine p_aload 184 c151_183 rfl rfl ?_
    refine p_getX 187 (m 376 18) c151_184 rfl kf376_18 rfl ?_
    refine p_imul 188 c151_187 rfl ?_
    refine p_iconst 190 c151_188 rfl ?_
    refine p_iload 191 c151_190 rfl rfl ?_
    refine p_imul 192 c151_191 rfl ?_
    refine p_iadd 193 c151_192 rfl ?_
    refine p_istore 194 c151_193 rfl rfl ?_
    refine p_aload 195 c151_194 rfl rfl ?_
    refine p_aload 196 c151_195 rfl rfl ?_
    refine p_getR 199 c151_196 rfl kf376_44 ?_
    refine p_aload 200 c151_199 rfl rfl ?_
    refine p_getR 203 c151_200 rfl kf376_40 ?_
    refine p_iload 204 c151_203 rfl rfl ?_
    refine p_iconst 205 c151_204 rfl ?_
    refine p_iadd 206 c151_205 rfl ?_
    refine p_iaX 207 (m 403 (wr ((wr ((wr (1000 * (m 376 18))) + (wr (8 * x2)))) + 1)).toNat) c151_206 rfl ka403 (rg_wr _) rfl (fun hx5218 => ?_)
    refine p_iaX 208 (m 407 (m 403 (wr ((wr ((wr (1000 * (m 376 18))) + (wr (8 * x2)))) + 1)).toNat).toNat) c151_207 rfl ka407 (hR.rg _ _) rfl (fun hx5219 => ?_)
    refine p_cX 211 [.ref 376, yI (m 407 (m 403 (wr ((wr ((wr (1000 * (m 376 18))) + (wr (8 * x2)))) + 1)).toNat).toNat)] [] c151_208 rfl rfl rfl (fun k' hk' d' => d144 (hR.rg _ _) hR) (fun hg5232 n5221 k5220 hk5220 => ?_)
    refine p_if 219 214 c151_211 rfl rfl (yz_eq hg5232) (fun hb5233 k5234 hk5234 => ?_) (fun hb5233 k5235 hk5235 => ?_)
    · have hX5236 := hX5217.trans (if_pos hb5233)
      exact tJ151_219 (f := f) (by omega) gx2 hR (fun y0 y1 y2 m' n' e' h0 hR' k' hk' => Hn y0 y1 y2 m' n' (hX5236.trans e') h0 hR' k' (by omega)) (fun y0 y1 y2 m' n' e' h0 hR' k' hk' => He y0 y1 y2 m' n' (hX5236.trans e') h0 hR' k' (by omega)) (fun m' e' => Hr m' (hX5236.trans e'))
    · have hX5238 := hX5217.trans (if_neg hb5233)
      refine p_aload 215 c151_214 rfl rfl ?_
      refine p_iload 216 c151_215 rfl rfl ?_
      refine p_cV 219 [.ref 376, yI (wr ((wr (1000 * (m 376 18))) + (wr (8 * x2))))] [] c151_216 rfl rfl rfl (fun k' hk' d' => d150 (f := f) (by omega) (rg_wr _) hR) (fun m5690 hF5686 hR5691 n5240 k5239 hk5239 => ?_)
      have hX5689 := hX5238.trans (bU_s hF5686)
      exact tJ151_219 (f := f) (by omega) gx2 hR5691 (fun y0 y1 y2 m' n' e' h0 hR' k' hk' => Hn y0 y1 y2 m' n' (hX5689.trans e') h0 hR' k' (by omega)) (fun y0 y1 y2 m' n' e' h0 hR' k' hk' => He y0 y1 y2 m' n' (hX5689.trans e') h0 hR' k' (by omega)) (fun m' e' => Hr m' (hX5689.trans e'))
def B151_143 (f : Nat) (m : yM) : Option ((Unit × yM) ⊕ ((Unit × yM) ⊕ (Unit × yM))) := (if m 376 46 = 0 then (some (.inr (.inl ((), m)))) else (bL (yloop (fun (l : Int) ml => B151_167 f l ml) f 0 (yup (yup m 376 46 0) 376 45 (wr ((m 376 45) + 1)))) (fun l5692 m5698 => (if m5698 376 46 = 0 then (some (.inl ((), m5698))) else (some (.inl ((), yup m5698 376 47 (m5698 376 45)))))) (fun _ mr => some (.inr (.inr ((), mr))))))
set_option maxRecDepth 100000 in
theorem tB151_143 {L : Nat} {xs : Nat → Int32} {Q : xO → yM → Nat → Prop} {k d n : Nat} {c : yS3} {f : Nat} {m : yM} {j1 j2 j3 : Option Value} (hk : k ≤ f) (hR : RM c m) (Hn : ∀ (z0 z1 z2 : Option Value) (m' : yM) (n' : Nat), B151_143 f m = some (.inl ((), m')) → RM c m' → ∀ k', k' < k → PW (gZ L xs) k' 151 d 143 [some (.ref 376), z0, z1, z2] [] m' n' Q) (He : ∀ (z0 z1 z2 : Option Value) (m' : yM) (n' : Nat), B151_143 f m = some (.inr (.inl ((), m'))) → RM c m' → ∀ k', k' ≤ k → PW (gZ L xs) k' 151 d 243 [some (.ref 376), z0, z1, z2] [] m' n' Q) (Hr : ∀ m', B151_143 f m = some (.inr (.inr ((), m'))) → RM c m' → ∀ n', Q (.inl none) m' n') : PW (gZ L xs) k 151 d 143 [some (.ref 376), j1, j2, j3] [] m n Q := by
  have hX : B151_143 f m = B151_143 f m := rfl
  refine p_aload 144 c151_143 rfl rfl ?_
  refine p_getX 147 (m 376 46) c151_144 rfl kf376_46 rfl ?_
  refine p_if 243 150 c151_147 rfl rfl (yz_eq (hR.rg _ _)) (fun hb5205 k5206 hk5206 => ?_) (fun hb5205 k5207 hk5207 => ?_)
  · have hX5208 := hX.trans (if_pos hb5205)
    exact He _ _ _ _ _ hX5208 hR _ (by omega)
  · have hX5209 := hX.trans (if_neg hb5205)
    refine p_aload 151 c151_150 rfl rfl ?_
    refine p_iconst 152 c151_151 rfl ?_
    refine p_putI 155 c151_152 rfl kf376_46 ?_
    have hR5210 := hR.up 376 46 (v := 0) (nselD rfl) (rgD rfl)
    refine p_aload 156 c151_155 rfl rfl ?_
    refine p_dup 157 c151_156 rfl rfl ?_
    refine p_getX 160 (m 376 45) c151_157 rfl kf376_45 (yup_nk (by decide)) ?_
    refine p_iconst 161 c151_160 rfl ?_
    refine p_iadd 162 c151_161 rfl ?_
    refine p_putI 165 c151_162 rfl kf376_45 ?_
    have hR5211 := hR5210.up 376 45 (v := wr ((m 376 45) + 1)) (nselD rfl) (rg_wr _)
    refine p_iconst 166 c151_165 rfl ?_
    refine p_istore 167 c151_166 rfl rfl ?_
    refine PW.loop (K := k5207) (pce := 225) (fun (l : Int) ml => B151_167 f l ml) (fun (l : Int) j => [some (.ref 376), j 1, some (yI l), j 3]) (fun (l : Int) => rg l) (RM c) (fun (r' : Unit) m' => RM c m' → ∀ n' : Nat, Q (.inl none) m' n') (fun k' hk' l j m' n' hl hI Hn' He' Hr' => tB151_167 (f := f) (by omega) hl hI (fun y0 y1 y2 m2 n2 e h0 hR2 => Hn' y0 (fun q => ([none, y1, none, y2] : List (Option Value)).getD q none) m2 n2 e h0 hR2) (fun y0 y1 y2 m2 n2 e h0 hR2 => He' y0 (fun q => ([none, y1, none, y2] : List (Option Value)).getD q none) m2 n2 e h0 hR2) (fun m2 e => Hr' () m2 e)) f k5207 (by omega) (Nat.le_refl _) 0 (fun q => ([some (.ref 376), j1, some (yI 0), j3] : xL).getD q none) _ _ (rgD rfl) hR5211 (fun l5692 j5695 m5698 n5697 e5694 hl5693 hR5699 k5696 hk5696 => ?_) (fun r' m' e' => ?_)
    · have hX5700 := hX5209.trans (bL_l e5694)
      refine p_aload 226 c151_225 rfl rfl ?_
      refine p_getX 229 (m5698 376 46) c151_226 rfl kf376_46 rfl ?_
      refine p_if 143 232 c151_229 rfl rfl (yz_eq (hR5699.rg _ _)) (fun hb5701 k5702 hk5702 => ?_) (fun hb5701 k5703 hk5703 => ?_)
      · have hX5704 := hX5700.trans (if_pos hb5701)
        exact Hn _ _ _ _ _ hX5704 hR5699 _ (by omega)
      · have hX5705 := hX5700.trans (if_neg hb5701)
        refine p_aload 233 c151_232 rfl rfl ?_
        refine p_aload 234 c151_233 rfl rfl ?_
        refine p_getX 237 (m5698 376 45) c151_234 rfl kf376_45 rfl ?_
        refine p_putI 240 c151_237 rfl kf376_47 ?_
        have hR5706 := hR5699.up 376 47 (v := m5698 376 45) (nselD rfl) (hR5699.rg _ _)
        refine p_gotoD 143 c151_240 rfl (fun k5707 hk5707 => ?_)
        exact Hn _ _ _ _ _ hX5705 hR5706 _ (by omega)
    · exact Hr m' (hX5209.trans (bL_r e'))
def F151 (f : Nat) (m : yM) : Option yM := (bL (yloop (fun (l : Int) ml => B151_2 f l ml) f 0 m) (fun l5101 m5107 => (bL (yloop (fun (l : Int) ml => B151_24 f l ml) f 0 m5107) (fun l5118 m5124 => (bL (yloop (fun (l : Int) ml => B151_46 f l ml) f 0 m5124) (fun l5135 m5141 => (bL (yloop (fun (l : Int) ml => B151_67 f l ml) f 0 m5141) (fun l5152 m5158 => (bP (F143 f (yup (yup m5158 376 47 0) 376 45 0)) (fun r5193 => (if r5193 < 0 then (some (yup (yup m5158 376 47 0) 376 45 0)) else (bL (yloop (fun (l : Unit) ml => B151_143 f ml) f () (yup (yup (yup (yup (yup m5158 376 47 0) 376 45 0) 407 r5193.toNat 0) 404 (wr (12 * (wr ((m5158 398 (wr ((wr (10 * (m5158 376 18))) + r5193)).toNat) + 1)))).toNat 0) 376 46 1)) (fun _ m5714 => (some m5714)) (fun _ mr => some mr)))))) (fun _ mr => some mr))) (fun _ mr => some mr))) (fun _ mr => some mr))) (fun _ mr => some mr))
set_option maxRecDepth 100000 in
theorem d151 {L : Nat} {xs : Nat → Int32} {k d n : Nat} {c : yS3} {f : Nat} {m : yM} (hk : k ≤ f) (hR : RM c m) : PC (gZ L xs) k d 151 [.ref 376] m n (qV c (F151 f m)) := by
  have hX : F151 f m = F151 f m := rfl
  have Hr : ∀ m', F151 f m = some m' → RM c m' → ∀ n' : Nat, (qV c (F151 f m)) (.inl none) m' n' := fun m' e h n' => ⟨rfl, h, e⟩
  refine PC.mk [some (.ref 376), none, none, none] kn151 rfl ?_
  refine p_iconst 1 c151_0 rfl ?_
  refine p_istore 2 c151_1 rfl rfl ?_
  refine PW.loop (K := k) (pce := 22) (fun (l : Int) ml => B151_2 f l ml) (fun (l : Int) j => [some (.ref 376), some (yI l), j 2, j 3]) (fun (l : Int) => rg l) (RM c) (fun (r' : Unit) m' => RM c m' → ∀ n' : Nat, (qV c (F151 f m)) (.inl none) m' n') (fun k' hk' l j m' n' hl hI Hn' He' Hr' => tB151_2 (f := f) (by omega) hl hI (fun y0 y1 y2 m2 n2 e h0 hR2 => Hn' y0 (fun q => ([none, none, y1, y2] : List (Option Value)).getD q none) m2 n2 e h0 hR2) (fun y0 y1 y2 m2 n2 e h0 hR2 => He' y0 (fun q => ([none, none, y1, y2] : List (Option Value)).getD q none) m2 n2 e h0 hR2) (fun m2 e => Hr' () m2 e)) f k (by omega) (Nat.le_refl _) 0 (fun q => ([some (.ref 376), some (yI 0), none, none] : xL).getD q none) _ _ (rgD rfl) hR (fun l5101 j5104 m5107 n5106 e5103 hl5102 hR5108 k5105 hk5105 => ?_) (fun r' m' e' => ?_)
  · have hX5109 := hX.trans (bL_l e5103)
    refine p_iconst 23 c151_22 rfl ?_
    refine p_istore 24 c151_23 rfl rfl ?_
    refine PW.loop (K := k5105) (pce := 44) (fun (l : Int) ml => B151_24 f l ml) (fun (l : Int) j => [some (.ref 376), some (yI l), j 2, j 3]) (fun (l : Int) => rg l) (RM c) (fun (r' : Unit) m' => RM c m' → ∀ n' : Nat, (qV c (F151 f m)) (.inl none) m' n') (fun k' hk' l j m' n' hl hI Hn' He' Hr' => tB151_24 (f := f) (by omega) hl hI (fun y0 y1 y2 m2 n2 e h0 hR2 => Hn' y0 (fun q => ([none, none, y1, y2] : List (Option Value)).getD q none) m2 n2 e h0 hR2) (fun y0 y1 y2 m2 n2 e h0 hR2 => He' y0 (fun q => ([none, none, y1, y2] : List (Option Value)).getD q none) m2 n2 e h0 hR2) (fun m2 e => Hr' () m2 e)) f k5105 (by omega) (Nat.le_refl _) 0 (fun q => ([some (.ref 376), some (yI 0), j5104 2, j5104 3] : xL).getD q none) _ _ (rgD rfl) hR5108 (fun l5118 j5121 m5124 n5123 e5120 hl5119 hR5125 k5122 hk5122 => ?_) (fun r' m' e' => ?_)
    · have hX5126 := hX5109.trans (bL_l e5120)
      refine p_iconst 45 c151_44 rfl ?_
      refine p_istore 46 c151_45 rfl rfl ?_
      refine PW.loop (K := k5122) (pce := 65) (fun (l : Int) ml => B151_46 f l ml) (fun (l : Int) j => [some (.ref 376), some (yI l), j 2, j 3]) (fun (l : Int) => rg l) (RM c) (fun (r' : Unit) m' => RM c m' → ∀ n' : Nat, (qV c (F151 f m)) (.inl none) m' n') (fun k' hk' l j m' n' hl hI Hn' He' Hr' => tB151_46 (f := f) (by omega) hl hI (fun y0 y1 y2 m2 n2 e h0 hR2 => Hn' y0 (fun q => ([none, none, y1, y2] : List (Option Value)).getD q none) m2 n2 e h0 hR2) (fun y0 y1 y2 m2 n2 e h0 hR2 => He' y0 (fun q => ([none, none, y1, y2] : List (Option Value)).getD q none) m2 n2 e h0 hR2) (fun m2 e => Hr' () m2 e)) f k5122 (by omega) (Nat.le_refl _) 0 (fun q => ([some (.ref 376), some (yI 0), j5121 2, j5121 3] : xL).getD q none) _ _ (rgD rfl) hR5125 (fun l5135 j5138 m5141 n5140 e5137 hl5136 hR5142 k5139 hk5139 => ?_) (fun r' m' e' => ?_)
      · have hX5143 := hX5126.trans (bL_l e5137)
        refine p_iconst 66 c151_65 rfl ?_
        refine p_istore 67 c151_66 rfl rfl ?_
        refine PW.loop (K := k5139) (pce := 86) (fun (l : Int) ml => B151_67 f l ml) (fun (l : Int) j => [some (.ref 376), some (yI l), j 2, j 3]) (fun (l : Int) => rg l) (RM c) (fun (r' : Unit) m' => RM c m' → ∀ n' : Nat, (qV c (F151 f m)) (.inl none) m' n') (fun k' hk' l j m' n' hl hI Hn' He' Hr' => tB151_67 (f := f) (by omega) hl hI (fun y0 y1 y2 m2 n2 e h0 hR2 => Hn' y0 (fun q => ([none, none, y1, y2] : List (Option Value)).getD q none) m2 n2 e h0 hR2) (fun y0 y1 y2 m2 n2 e h0 hR2 => He' y0 (fun q => ([none, none, y1, y2] : List (Option Value)).getD q none) m2 n2 e h0 hR2) (fun m2 e => Hr' () m2 e)) f k5139 (by omega) (Nat.le_refl _) 0 (fun q => ([some (.ref 376), some (yI 0), j5138 2, j5138 3] : xL).getD q none) _ _ (rgD rfl) hR5142 (fun l5152 j5155 m5158 n5157 e5154 hl5153 hR5159 k5156 hk5156 => ?_) (fun r' m' e' => ?_)
        · have hX5160 := hX5143.trans (bL_l e5154)
          refine p_aload 87 c151_86 rfl rfl ?_
          refine p_iconst 88 c151_87 rfl ?_
          refine p_putI 91 c151_88 rfl kf376_47 ?_
          have hR5161 := hR5159.up 376 47 (v := 0) (nselD rfl) (rgD rfl)
          refine p_aload 92 c151_91 rfl rfl ?_
          refine p_iconst 93 c151_92 rfl ?_
          refine p_putI 96 c151_93 rfl kf376_45 ?_
          have hR5162 := hR5161.up 376 45 (v := 0) (nselD rfl) (rgD rfl)
          refine p_aload 97 c151_96 rfl rfl ?_
          refine p_cO 100 [.ref 376] [] c151_97 rfl rfl rfl (fun k' hk' d' => d143 (f := f) (by omega) hR5162) (fun r5193 hF5191 hg5192 n5164 k5163 hk5163 => ?_)
          have hX5194 := hX5160.trans (bP_s hF5191)
          refine p_istore 101 c151_100 rfl rfl ?_
          refine p_iload 102 c151_101 rfl rfl ?_
          refine p_if 106 105 c151_102 rfl rfl ((yz_ge hg5192).trans Int.not_lt.symm) (fun hb5195 k5196 hk5196 => ?_) (fun hb5195 k5197 hk5197 => ?_)
          · have hX5198 := hX5194.trans (if_neg hb5195)
            refine p_aload 107 c151_106 rfl rfl ?_
            refine p_getR 110 c151_107 rfl kf376_44 ?_
            refine p_iload 111 c151_110 rfl rfl ?_
            refine p_iconst 112 c151_111 rfl ?_
            refine p_iaS 113 c151_112 rfl ka407 hg5192 0 (nar0 (rgD rfl)) (fun hx5199 => ?_)
            have hR5200 := hR5162.up 407 r5193.toNat (v := 0) (nselA (by decide)) (rgD rfl)
            refine p_aload 114 c151_113 rfl rfl ?_
            refine p_getR 117 c151_114 rfl kf376_41 ?_
            refine p_iconst 119 c151_117 rfl ?_
            refine p_aload 120 c151_119 rfl rfl ?_
            refine p_getR 123 c151_120 rfl kf376_35 ?_
            refine p_iconst 125 c151_123 rfl ?_
            refine p_aload 126 c151_125 rfl rfl ?_
            refine p_getX 129 (m5158 376 18) c151_126 rfl kf376_18 ((yup_na (by decide)).trans ((yup_nk (by decide)).trans (yup_nk (by decide)))) ?_
            refine p_imul 130 c151_129 rfl ?_
            refine p_iload 131 c151_130 rfl rfl ?_
            refine p_iadd 132 c151_131 rfl ?_
            refine p_iaX 133 (m5158 398 (wr ((wr (10 * (m5158 376 18))) + r5193)).toNat) c151_132 rfl ka398 (rg_wr _) ((yup_na (by decide)).trans ((yup_na (by decide)).trans (yup_na (by decide)))) (fun hx5201 => ?_)
            refine p_iconst 134 c151_133 rfl ?_
            refine p_iadd 135 c151_134 rfl ?_
            refine p_imul 136 c151_135 rfl ?_
            refine p_iconst 137 c151_136 rfl ?_
            refine p_iaS 138 c151_137 rfl ka404 (rg_wr _) 0 (nar0 (rgD rfl)) (fun hx5202 => ?_)
            have hR5203 := hR5200.up 404 (wr (12 * (wr ((m5158 398 (wr ((wr (10 * (m5158 376 18))) + r5193)).toNat) + 1)))).toNat (v := 0) (nselA (by decide)) (rgD rfl)
            refine p_aload 139 c151_138 rfl rfl ?_
            refine p_iconst 140 c151_139 rfl ?_
            refine p_putI 143 c151_140 rfl kf376_46 ?_
            have hR5204 := hR5203.up 376 46 (v := 1) (nselD rfl) (rgD rfl)
            refine PW.loop (K := k5196) (pce := 243) (fun (l : Unit) ml => B151_143 f ml) (fun (l : Unit) j => [some (.ref 376), j 1, j 2, j 3]) (fun (l : Unit) => True) (RM c) (fun (r' : Unit) m' => RM c m' → ∀ n' : Nat, (qV c (F151 f m)) (.inl none) m' n') (fun k' hk' l j m' n' hl hI Hn' He' Hr' => tB151_143 (f := f) (by omega) hI (fun y0 y1 y2 m2 n2 e  hR2 => Hn' () (fun q => ([none, y0, y1, y2] : List (Option Value)).getD q none) m2 n2 e trivial hR2) (fun y0 y1 y2 m2 n2 e  hR2 => He' () (fun q => ([none, y0, y1, y2] : List (Option Value)).getD q none) m2 n2 e trivial hR2) (fun m2 e => Hr' () m2 e)) f k5196 (by omega) (Nat.le_refl _) () (fun q => ([some (.ref 376), some (yI r5193), j5155 2, j5155 3] : xL).getD q none) _ _ trivial hR5204 (fun l5708 j5711 m5714 n5713 e5710 hl5709 hR5715 k5712 hk5712 => ?_) (fun r' m' e' => ?_)
            · have hX5716 := hX5198.trans (bL_l e5710)
              exact p_return c151_243 (Hr _ hX5716 hR5715 _)
            · exact Hr m' (hX5198.trans (bL_r e'))
          · have hX5717 := hX5194.trans (if_pos (Classical.not_not.mp hb5195))
            exact p_return c151_105 (Hr _ hX5717 hR5162 _)
        · exact Hr m' (hX5143.trans (bL_r e'))
      · exact Hr m' (hX5126.trans (bL_r e'))
    · exact Hr m' (hX5109.trans (bL_r e'))
  · exact Hr m' (hX.trans (bL_r e'))
def J141_41 (f : Nat) (x1 : Int) (x2 : Int) (m : yM) : Option ((Int × yM) ⊕ ((Int × yM) ⊕ (Unit × yM))) := (some (.inl ((wr (x2 + 1)), m)))
set_option maxRecDepth 100000 in
theorem tJ141_41 {L : Nat} {xs : Nat → Int32} {Q : xO → yM → Nat → Prop} {k d n : Nat} {c : yS3} {f : Nat} {x1 : Int} {x2 : Int} {m : yM} {j3 : Option Value} (hk : k ≤ f) (gx1 : rg x1) (gx2 : rg x2) (hR : RM c m) (Hn : ∀ (y0 : Int) (z0 : Option Value) (m' : yM) (n' : Nat), J141_41 f x1 x2 m = some (.inl (y0, m')) → rg y0 → RM c m' → ∀ k', k' < k → PW (gZ L xs) k' 141 d 2 [some (.ref 376), some (yI x1), some (yI y0), z0] [] m' n' Q) (He : ∀ (y0 : Int) (z0 : Option Value) (m' : yM) (n' : Nat), J141_41 f x1 x2 m = some (.inr (.inl (y0, m'))) → rg y0 → RM c m' → ∀ k', k' ≤ k → PW (gZ L xs) k' 141 d 47 [some (.ref 376), some (yI x1), some (yI y0), z0] [] m' n' Q) (Hr : ∀ m', J141_41 f x1 x2 m = some (.inr (.inr ((), m'))) → RM c m' → ∀ n', Q (.inl none) m' n') : PW (gZ L xs) k 141 d 41 [some (.ref 376), some (yI x1), some (yI x2), j3] [] m n Q := by
  have hX : J141_41 f x1 x2 m = J141_41 f x1 x2 m := rfl
  refine p_iinc 44 c141_41 rfl rfl rfl ?_
  refine p_gotoD 2 c141_44 rfl (fun k5771 hk5771 => ?_)
  exact Hn _ _ _ _ hX (rg_wr _) hR _ (by omega)
def B141_2 (f : Nat) (x1 : Int) (x2 : Int) (m : yM) : Option ((Int × yM) ⊕ ((Int × yM) ⊕ (Unit × yM))) := (if x2 < m 376 17 then (if m 376 8 < 0 then (bP (F116 f x1 (m 381 x2.toNat) m) (fun r5765 => (if r5765 < 0 then (J141_41 f x1 x2 (yup m 376 8 (m 382 x2.toNat))) else (J141_41 f x1 x2 m)))) else (some (.inr (.inl (x2, m))))) else (some (.inr (.inl (x2, m)))))
set_option maxRecDepth 100000 in
theorem tB141_2 {L : Nat} {xs : Nat → Int32} {Q : xO → yM → Nat → Prop} {k d n : Nat} {c : yS3} {f : Nat} {x1 : Int} {x2 : Int} {m : yM} {j3 : Option Value} (hk : k ≤ f) (gx1 : rg x1) (gx2 : rg x2) (hR : RM c m) (Hn : ∀ (y0 : Int) (z0 : Option Value) (m' : yM) (n' : Nat), B141_2 f x1 x2 m = some (.inl (y0, m')) → rg y0 → RM c m' → ∀ k', k' < k → PW (gZ L xs) k' 141 d 2 [some (.ref 376), some (yI x1), some (yI y0), z0] [] m' n' Q) (He : ∀ (y0 : Int) (z0 : Option Value) (m' : yM) (n' : Nat), B141_2 f x1 x2 m = some (.inr (.inl (y0, m'))) → rg y0 → RM c m' → ∀ k', k' ≤ k → PW (gZ L xs) k' 141 d 47 [some (.ref 376), some (yI x1), some (yI y0), z0] [] m' n' Q) (Hr : ∀ m', B141_2 f x1 x2 m = some (.inr (.inr ((), m'))) → RM c m' → ∀ n', Q (.inl none) m' n') : PW (gZ L xs) k 141 d 2 [some (.ref 376), some (yI x1), some (yI x2), j3] [] m n Q := by
  have hX : B141_2 f x1 x2 m = B141_2 f x1 x2 m := rfl
  refine p_iload 3 c141_2 rfl rfl ?_
  refine p_aload 4 c141_3 rfl rfl ?_
  refine p_getX 7 (m 376 17) c141_4 rfl kf376_17 rfl ?_
  refine p_icmp 47 10 c141_7 rfl rfl ((yc_ge gx2 (hR.rg _ _)).trans Int.not_lt.symm) (fun hb5750 k5751 hk5751 => ?_) (fun hb5750 k5752 hk5752 => ?_)
  · have hX5753 := hX.trans (if_neg hb5750)
    exact He _ _ _ _ hX5753 gx2 hR _ (by omega)
  · have hX5754 := hX.trans (if_pos (Classical.not_not.mp hb5750))
    refine p_aload 11 c141_10 rfl rfl ?_
    refine p_getX 14 (m 376 8) c141_11 rfl kf376_8 rfl ?_
    refine p_if 47 17 c141_14 rfl rfl ((yz_ge (hR.rg _ _)).trans Int.not_lt.symm) (fun hb5755 k5756 hk5756 => ?_) (fun hb5755 k5757 hk5757 => ?_)
    · have hX5758 := hX5754.trans (if_neg hb5755)
      exact He _ _ _ _ hX5758 gx2 hR _ (by omega)
    · have hX5759 := hX5754.trans (if_pos (Classical.not_not.mp hb5755))
      refine p_aload 18 c141_17 rfl rfl ?_
      refine p_iload 19 c141_18 rfl rfl ?_
      refine p_aload 20 c141_19 rfl rfl ?_
      refine p_getR 23 c141_20 rfl kf376_15 ?_
      refine p_iload 24 c141_23 rfl rfl ?_
      refine p_iaX 25 (m 381 x2.toNat) c141_24 rfl ka381 gx2 rfl (fun hx5760 => ?_)
      refine p_cO 28 [.ref 376, yI x1, yI (m 381 x2.toNat)] [] c141_25 rfl rfl rfl (fun k' hk' d' => d116 (f := f) (by omega) gx1 (hR.rg _ _) hR) (fun r5765 hF5763 hg5764 n5762 k5761 hk5761 => ?_)
      have hX5766 := hX5759.trans (bP_s hF5763)
      refine p_if 41 31 c141_28 rfl rfl ((yz_ge hg5764).trans Int.not_lt.symm) (fun hb5767 k5768 hk5768 => ?_) (fun hb5767 k5769 hk5769 => ?_)
      · have hX5770 := hX5766.trans (if_neg hb5767)
        exact tJ141_41 (f := f) (by omega) gx1 gx2 hR (fun y0 y1 m' n' e' h0 hR' k' hk' => Hn y0 y1 m' n' (hX5770.trans e') h0 hR' k' (by omega)) (fun y0 y1 m' n' e' h0 hR' k' hk' => He y0 y1 m' n' (hX5770.trans e') h0 hR' k' (by omega)) (fun m' e' => Hr m' (hX5770.trans e'))
      · have hX5772 := hX5766.trans (if_pos (Classical.not_not.mp hb5767))
        refine p_aload 32 c141_31 rfl rfl ?_
        refine p_aload 33 c141_32 rfl rfl ?_
        refine p_getR 36 c141_33 rfl kf376_16 ?_
        refine p_iload 37 c141_36 rfl rfl ?_
        refine p_iaX 38 (m 382 x2.toNat) c141_37 rfl ka382 gx2 rfl (fun hx5773 => ?_)
        refine p_putI 41 c141_38 rfl kf376_8 ?_
        have hR5774 := hR.up 376 8 (v := m 382 x2.toNat) (nselD rfl) (hR.rg _ _)
        exact tJ141_41 (f := f) (by omega) gx1 gx2 hR5774 (fun y0 y1 m' n' e' h0 hR' k' hk' => Hn y0 y1 m' n' (hX5772.trans e') h0 hR' k' (by omega)) (fun y0 y1 m' n' e' h0 hR' k' hk' => He y0 y1 m' n' (hX5772.trans e') h0 hR' k' (by omega)) (fun m' e' => Hr m' (hX5772.trans e'))
def B141_57 (f : Nat) (x1 : Int) (x2 : Int) (m : yM) : Option ((Int × yM) ⊕ ((Int × yM) ⊕ (Unit × yM))) := (if x2 < m 388 x1.toNat then (bP (F116 f x1 (m 400 (wr ((wr (12 * x1)) + x2)).toNat) m) (fun r5799 => (some (.inl ((wr (x2 + 1)), yup m 400 (wr ((wr (12 * x1)) + x2)).toNat r5799))))) else (some (.inr (.inl (x2, m)))))
set_option maxRecDepth 100000 in
theorem tB141_57 {L : Nat} {xs : Nat → Int32} {Q : xO → yM → Nat → Prop} {k d n : Nat} {c : yS3} {f : Nat} {x1 : Int} {x2 : Int} {m : yM} {j3 : Option Value} (hk : k ≤ f) (gx1 : rg x1) (gx2 : rg x2) (hR : RM c m) (Hn : ∀ (y0 : Int) (z0 : Option Value) (m' : yM) (n' : Nat), B141_57 f x1 x2 m = some (.inl (y0, m')) → rg y0 → RM c m' → ∀ k', k' < k → PW (gZ L xs) k' 141 d 57 [some (.ref 376), some (yI x1), some (yI y0), z0] [] m' n' Q) (He : ∀ (y0 : Int) (z0 : Option Value) (m' : yM) (n' : Nat), B141_57 f x1 x2 m = some (.inr (.inl (y0, m'))) → rg y0 → RM c m' → ∀ k', k' ≤ k → PW (gZ L xs) k' 141 d 100 [some (.ref 376), some (yI x1), some (yI y0), z0] [] m' n' Q) (Hr : ∀ m', B141_57 f x1 x2 m = some (.inr (.inr ((), m'))) → RM c m' → ∀ n', Q (.inl none) m' n') : PW (gZ L xs) k 141 d 57 [some (.ref 376), some (yI x1), some (yI x2), j3] [] m n Q := by
  have hX : B141_57 f x1 x2 m = B141_57 f x1 x2 m := rfl
  refine p_iload 58 c141_57 rfl rfl ?_
  refine p_aload 59 c141_58 rfl rfl ?_
  refine p_getR 62 c141_59 rfl kf376_25 ?_
  refine p_iload 63 c141_62 rfl rfl ?_
  refine p_iaX 64 (m 388 x1.toNat) c141_63 rfl ka388 gx1 rfl (fun hx5788 => ?_)
  refine p_icmp 100 67 c141_64 rfl rfl ((yc_ge gx2 (hR.rg _ _)).trans Int.not_lt.symm) (fun hb5789 k5790 hk5790 => ?_) (fun hb5789 k5791 hk5791 => ?_)
  · have hX5792 := hX.trans (if_neg hb5789)
    exact He _ _ _ _ hX5792 gx2 hR _ (by omega)
  · have hX5793 := hX.trans (if_pos (Classical.not_not.mp hb5789))
    refine p_aload 68 c141_67 rfl rfl ?_
    refine p_getR 71 c141_68 rfl kf376_37 ?_
    refine p_iconst 73 c141_71 rfl ?_
    refine p_iload 74 c141_73 rfl rfl ?_
    refine p_imul 75 c141_74 rfl ?_
    refine p_iload 76 c141_75 rfl rfl ?_
    refine p_iadd 77 c141_76 rfl ?_
    refine p_aload 78 c141_77 rfl rfl ?_
    refine p_iload 79 c141_78 rfl rfl ?_
    refine p_aload 80 c141_79 rfl rfl ?_
    refine p_getR 83 c141_80 rfl kf376_37 ?_
    refine p_iconst 85 c141_83 rfl ?_
    refine p_iload 86 c141_85 rfl rfl ?_
    refine p_imul 87 c141_86 rfl ?_
    refine p_iload 88 c141_87 rfl rfl ?_
    refine p_iadd 89 c141_88 rfl ?_
    refine p_iaX 90 (m 400 (wr ((wr (12 * x1)) + x2)).toNat) c141_89 rfl ka400 (rg_wr _) rfl (fun hx5794 => ?_)
    refine p_cO 93 [.ref 376, yI x1, yI (m 400 (wr ((wr (12 * x1)) + x2)).toNat)] [yI (wr ((wr (12 * x1)) + x2)), .ref 400] c141_90 rfl rfl rfl (fun k' hk' d' => d116 (f := f) (by omega) gx1 (hR.rg _ _) hR) (fun r5799 hF5797 hg5798 n5796 k5795 hk5795 => ?_)
    have hX5800 := hX5793.trans (bP_s hF5797)
    refine p_iaS 94 c141_93 rfl ka400 (rg_wr _) r5799 (nar0 hg5798) (fun hx5801 => ?_)
    have hR5802 := hR.up 400 (wr ((wr (12 * x1)) + x2)).toNat (v := r5799) (nselA (by decide)) hg5798
    refine p_iinc 97 c141_94 rfl rfl rfl ?_
    refine p_gotoD 57 c141_97 rfl (fun k5803 hk5803 => ?_)
    exact Hn _ _ _ _ hX5800 (rg_wr _) hR5802 _ (by omega)
def B141_102 (f : Nat) (x1 : Int) (x2 : Int) (m : yM) : Option ((Int × yM) ⊕ ((Int × yM) ⊕ (Unit × yM))) := (if x2 < m 387 x1.toNat then (bP (F116 f x1 (m 402 (wr ((wr (8 * x1)) + x2)).toNat) m) (fun r5824 => (some (.inl ((wr (x2 + 1)), yup m 402 (wr ((wr (8 * x1)) + x2)).toNat r5824))))) else (some (.inr (.inl (x2, m)))))
set_option maxRecDepth 100000 in
theorem tB141_102 {L : Nat} {xs : Nat → Int32} {Q : xO → yM → Nat → Prop} {k d n : Nat} {c : yS3} {f : Nat} {x1 : Int} {x2 : Int} {m : yM} {j3 : Option Value} (hk : k ≤ f) (gx1 : rg x1) (gx2 : rg x2) (hR : RM c m) (Hn : ∀ (y0 : Int) (z0 : Option Value) (m' : yM) (n' : Nat), B141_102 f x1 x2 m = some (.inl (y0, m')) → rg y0 → RM c m' → ∀ k', k' < k → PW (gZ L xs) k' 141 d 102 [some (.ref 376), some (yI x1), some (yI y0), z0] [] m' n' Q) (He : ∀ (y0 : Int) (z0 : Option Value) (m' : yM) (n' : Nat), B141_102 f x1 x2 m = some (.inr (.inl (y0, m'))) → rg y0 → RM c m' → ∀ k', k' ≤ k → PW (gZ L xs) k' 141 d 145 [some (.ref 376), some (yI x1), some (yI y0), z0] [] m' n' Q) (Hr : ∀ m', B141_102 f x1 x2 m = some (.inr (.inr ((), m'))) → RM c m' → ∀ n', Q (.inl none) m' n') : PW (gZ L xs) k 141 d 102 [some (.ref 376), some (yI x1), some (yI x2), j3] [] m n Q := by
  have hX : B141_102 f x1 x2 m = B141_102 f x1 x2 m := rfl
  refine p_iload 103 c141_102 rfl rfl ?_
  refine p_aload 104 c141_103 rfl rfl ?_
  refine p_getR 107 c141_104 rfl kf376_24 ?_
  refine p_iload 108 c141_107 rfl rfl ?_
  refine p_iaX 109 (m 387 x1.toNat) c141_108 rfl ka387 gx1 rfl (fun hx5813 => ?_)
  refine p_icmp 145 112 c141_109 rfl rfl ((yc_ge gx2 (hR.rg _ _)).trans Int.not_lt.symm) (fun hb5814 k5815 hk5815 => ?_) (fun hb5814 k5816 hk5816 => ?_)
  · have hX5817 := hX.trans (if_neg hb5814)
    exact He _ _ _ _ hX5817 gx2 hR _ (by omega)
  · have hX5818 := hX.trans (if_pos (Classical.not_not.mp hb5814))
    refine p_aload 113 c141_112 rfl rfl ?_
    refine p_getR 116 c141_113 rfl kf376_39 ?_
    refine p_iconst 118 c141_116 rfl ?_
    refine p_iload 119 c141_118 rfl rfl ?_
    refine p_imul 120 c141_119 rfl ?_
    refine p_iload 121 c141_120 rfl rfl ?_
    refine p_iadd 122 c141_121 rfl ?_
    refine p_aload 123 c141_122 rfl rfl ?_
    refine p_iload 124 c141_123 rfl rfl ?_
    refine p_aload 125 c141_124 rfl rfl ?_
    refine p_getR 128 c141_125 rfl kf376_39 ?_
    refine p_iconst 130 c141_128 rfl ?_
    refine p_iload 131 c141_130 rfl rfl ?_
    refine p_imul 132 c141_131 rfl ?_
    refine p_iload 133 c141_132 rfl rfl ?_
    refine p_iadd 134 c141_133 rfl ?_
    refine p_iaX 135 (m 402 (wr ((wr (8 * x1)) + x2)).toNat) c141_134 rfl ka402 (rg_wr _) rfl (fun hx5819 => ?_)
    refine p_cO 138 [.ref 376, yI x1, yI (m 402 (wr ((wr (8 * x1)) + x2)).toNat)] [yI (wr ((wr (8 * x1)) + x2)), .ref 402] c141_135 rfl rfl rfl (fun k' hk' d' => d116 (f := f) (by omega) gx1 (hR.rg _ _) hR) (fun r5824 hF5822 hg5823 n5821 k5820 hk5820 => ?_)
    have hX5825 := hX5818.trans (bP_s hF5822)
    refine p_iaS 139 c141_138 rfl ka402 (rg_wr _) r5824 (nar0 hg5823) (fun hx5826 => ?_)
    have hR5827 := hR.up 402 (wr ((wr (8 * x1)) + x2)).toNat (v := r5824) (nselA (by decide)) hg5823
    refine p_iinc 142 c141_139 rfl rfl rfl ?_
    refine p_gotoD 102 c141_142 rfl (fun k5828 hk5828 => ?_)
    exact Hn _ _ _ _ hX5825 (rg_wr _) hR5827 _ (by omega)
def J141_209 (f : Nat) (x1 : Int) (x2 : Int) (m : yM) : Option ((Int × yM) ⊕ ((Int × yM) ⊕ (Unit × yM))) := (some (.inl ((wr (x2 + 1)), m)))
set_option maxRecDepth 100000 in
theorem tJ141_209 {L : Nat} {xs : Nat → Int32} {Q : xO → yM → Nat → Prop} {k d n : Nat} {c : yS3} {f : Nat} {x1 : Int} {x2 : Int} {m : yM} {j3 : Option Value} (hk : k ≤ f) (gx1 : rg x1) (gx2 : rg x2) (hR : RM c m) (Hn : ∀ (y0 : Int) (z0 : Option Value) (m' : yM) (n' : Nat), J141_209 f x1 x2 m = some (.inl (y0, m')) → rg y0 → RM c m' → ∀ k', k' < k → PW (gZ L xs) k' 141 d 147 [some (.ref 376), some (yI x1), some (yI y0), z0] [] m' n' Q) (He : ∀ (y0 : Int) (z0 : Option Value) (m' : yM) (n' : Nat), J141_209 f x1 x2 m = some (.inr (.inl (y0, m'))) → rg y0 → RM c m' → ∀ k', k' ≤ k → PW (gZ L xs) k' 141 d 215 [some (.ref 376), some (yI x1), some (yI y0), z0] [] m' n' Q) (Hr : ∀ m', J141_209 f x1 x2 m = some (.inr (.inr ((), m'))) → RM c m' → ∀ n', Q (.inl none) m' n') : PW (gZ L xs) k 141 d 209 [some (.ref 376), some (yI x1), some (yI x2), j3] [] m n Q := by
  have hX : J141_209 f x1 x2 m = J141_209 f x1 x2 m := rfl
  refine p_iinc 212 c141_209 rfl rfl rfl ?_
  refine p_gotoD 147 c141_212 rfl (fun k5858 hk5858 => ?_)
  exact Hn _ _ _ _ hX (rg_wr _) hR _ (by omega)
def J141_188 (f : Nat) (x1 : Int) (x2 : Int) (x3 : Int) (m : yM) : Option ((Int × yM) ⊕ ((Int × yM) ⊕ (Unit × yM))) := (bP (F120 f x1 (m 403 (wr (x3 + 4)).toNat) m) (fun r5854 => (J141_209 f x1 x2 (yup m 403 (wr (x3 + 4)).toNat r5854))))
set_option maxRecDepth 100000 in
theorem tJ141_188 {L : Nat} {xs : Nat → Int32} {Q : xO → yM → Nat → Prop} {k d n : Nat} {c : yS3} {f : Nat} {x1 : Int} {x2 : Int} {x3 : Int} {m : yM} (hk : k ≤ f) (gx1 : rg x1) (gx2 : rg x2) (gx3 : rg x3) (hR : RM c m) (Hn : ∀ (y0 : Int) (z0 : Option Value) (m' : yM) (n' : Nat), J141_188 f x1 x2 x3 m = some (.inl (y0, m')) → rg y0 → RM c m' → ∀ k', k' < k → PW (gZ L xs) k' 141 d 147 [some (.ref 376), some (yI x1), some (yI y0), z0] [] m' n' Q) (He : ∀ (y0 : Int) (z0 : Option Value) (m' : yM) (n' : Nat), J141_188 f x1 x2 x3 m = some (.inr (.inl (y0, m'))) → rg y0 → RM c m' → ∀ k', k' ≤ k → PW (gZ L xs) k' 141 d 215 [some (.ref 376), some (yI x1), some (yI y0), z0] [] m' n' Q) (Hr : ∀ m', J141_188 f x1 x2 x3 m = some (.inr (.inr ((), m'))) → RM c m' → ∀ n', Q (.inl none) m' n') : PW (gZ L xs) k 141 d 188 [some (.ref 376), some (yI x1), some (yI x2), some (yI x3)] [] m n Q := by
  have hX : J141_188 f x1 x2 x3 m = J141_188 f x1 x2 x3 m := rfl
  refine p_aload 189 c141_188 rfl rfl ?_
  refine p_getR 192 c141_189 rfl kf376_40 ?_
  refine p_iload 193 c141_192 rfl rfl ?_
  refine p_iconst 194 c141_193 rfl ?_
  refine p_iadd 195 c141_194 rfl ?_
  refine p_aload 196 c141_195 rfl rfl ?_
  refine p_iload 197 c141_196 rfl rfl ?_
  refine p_aload 198 c141_197 rfl rfl ?_
  refine p_getR 201 c141_198 rfl kf376_40 ?_
  refine p_iload 202 c141_201 rfl rfl ?_
  refine p_iconst 203 c141_202 rfl ?_
  refine p_iadd 204 c141_203 rfl ?_
  refine p_iaX 205 (m 403 (wr (x3 + 4)).toNat) c141_204 rfl ka403 (rg_wr _) rfl (fun hx5849 => ?_)
  refine p_cO 208 [.ref 376, yI x1, yI (m 403 (wr (x3 + 4)).toNat)] [yI (wr (x3 + 4)), .ref 403] c141_205 rfl rfl rfl (fun k' hk' d' => d120 (f := f) (by omega) gx1 (hR.rg _ _) hR) (fun r5854 hF5852 hg5853 n5851 k5850 hk5850 => ?_)
  have hX5855 := hX.trans (bP_s hF5852)
  refine p_iaS 209 c141_208 rfl ka403 (rg_wr _) r5854 (nar0 hg5853) (fun hx5856 => ?_)
  have hR5857 := hR.up 403 (wr (x3 + 4)).toNat (v := r5854) (nselA (by decide)) hg5853
  exact tJ141_209 (f := f) (by omega) gx1 gx2 hR5857 (fun y0 y1 m' n' e' h0 hR' k' hk' => Hn y0 y1 m' n' (hX5855.trans e') h0 hR' k' (by omega)) (fun y0 y1 m' n' e' h0 hR' k' hk' => He y0 y1 m' n' (hX5855.trans e') h0 hR' k' (by omega)) (fun m' e' => Hr m' (hX5855.trans e'))
def B141_147 (f : Nat) (x1 : Int) (x2 : Int) (m : yM) : Option ((Int × yM) ⊕ ((Int × yM) ⊕ (Unit × yM))) := (if x2 < m 390 x1.toNat then (if m 403 (wr ((wr (1000 * x1)) + (wr (8 * x2)))).toNat = 4 then (J141_188 f x1 x2 (wr ((wr (1000 * x1)) + (wr (8 * x2)))) m) else (if m 403 (wr ((wr (1000 * x1)) + (wr (8 * x2)))).toNat = 5 then (J141_188 f x1 x2 (wr ((wr (1000 * x1)) + (wr (8 * x2)))) m) else (J141_209 f x1 x2 m))) else (some (.inr (.inl (x2, m)))))
set_option maxRecDepth 100000 in
theorem tB141_147 {L : Nat} {xs : Nat → Int32} {Q : xO → yM → Nat → Prop} {k d n : Nat} {c : yS3} {f : Nat} {x1 : Int} {x2 : Int} {m : yM} {j3 : Option Value} (hk : k ≤ f) (gx1 : rg x1) (gx2 : rg x2) (hR : RM c m) (Hn : ∀ (y0 : Int) (z0 : Option Value) (m' : yM) (n' : Nat), B141_147 f x1 x2 m = some (.inl (y0, m')) → rg y0 → RM c m' → ∀ k', k' < k → PW (gZ L xs) k' 141 d 147 [some (.ref 376), some (yI x1), some (yI y0), z0] [] m' n' Q) (He : ∀ (y0 : Int) (z0 : Option Value) (m' : yM) (n' : Nat), B141_147 f x1 x2 m = some (.inr (.inl (y0, m'))) → rg y0 → RM c m' → ∀ k', k' ≤ k → PW (gZ L xs) k' 141 d 215 [some (.ref 376), some (yI x1), some (yI y0), z0] [] m' n' Q) (Hr : ∀ m', B141_147 f x1 x2 m = some (.inr (.inr ((), m'))) → RM c m' → ∀ n', Q (.inl none) m' n') : PW (gZ L xs) k 141 d 147 [some (.ref 376), some (yI x1), some (yI x2), j3] [] m n Q := by
  have hX : B141_147 f x1 x2 m = B141_147 f x1 x2 m := rfl
  refine p_iload 148 c141_147 rfl rfl ?_
  refine p_aload 149 c141_148 rfl rfl ?_
  refine p_getR 152 c141_149 rfl kf376_27 ?_
  refine p_iload 153 c141_152 rfl rfl ?_
  refine p_iaX 154 (m 390 x1.toNat) c141_153 rfl ka390 gx1 rfl (fun hx5838 => ?_)
  refine p_icmp 215 157 c141_154 rfl rfl ((yc_ge gx2 (hR.rg _ _)).trans Int.not_lt.symm) (fun hb5839 k5840 hk5840 => ?_) (fun hb5839 k5841 hk5841 => ?_)
  · have hX5842 := hX.trans (if_neg hb5839)
    exact He _ _ _ _ hX5842 gx2 hR _ (by omega)
  · have hX5843 := hX.trans (if_pos (Classical.not_not.mp hb5839))
    refine p_iconst 160 c141_157 rfl ?_
    refine p_iload 161 c141_160 rfl rfl ?_
    refine p_imul 162 c141_161 rfl ?_
    refine p_iconst 164 c141_162 rfl ?_
    refine p_iload 165 c141_164 rfl rfl ?_
    refine p_imul 166 c141_165 rfl ?_
    refine p_iadd 167 c141_166 rfl ?_
    refine p_istore 168 c141_167 rfl rfl ?_
    refine p_aload 169 c141_168 rfl rfl ?_
    refine p_getR 172 c141_169 rfl kf376_40 ?_
    refine p_iload 173 c141_172 rfl rfl ?_
    refine p_iaX 174 (m 403 (wr ((wr (1000 * x1)) + (wr (8 * x2)))).toNat) c141_173 rfl ka403 (rg_wr _) rfl (fun hx5844 => ?_)
    refine p_iconst 175 c141_174 rfl ?_
    refine p_icmp 188 178 c141_175 rfl rfl (yc_eq (hR.rg _ _) (rgD rfl)) (fun hb5845 k5846 hk5846 => ?_) (fun hb5845 k5847 hk5847 => ?_)
    · have hX5848 := hX5843.trans (if_pos hb5845)
      exact tJ141_188 (f := f) (by omega) gx1 gx2 (rg_wr _) hR (fun y0 y1 m' n' e' h0 hR' k' hk' => Hn y0 y1 m' n' (hX5848.trans e') h0 hR' k' (by omega)) (fun y0 y1 m' n' e' h0 hR' k' hk' => He y0 y1 m' n' (hX5848.trans e') h0 hR' k' (by omega)) (fun m' e' => Hr m' (hX5848.trans e'))
    · have hX5859 := hX5843.trans (if_neg hb5845)
      refine p_aload 179 c141_178 rfl rfl ?_
      refine p_getR 182 c141_179 rfl kf376_40 ?_
      refine p_iload 183 c141_182 rfl rfl ?_
      refine p_iaX 184 (m 403 (wr ((wr (1000 * x1)) + (wr (8 * x2)))).toNat) c141_183 rfl ka403 (rg_wr _) rfl (fun hx5860 => ?_)
      refine p_iconst 185 c141_184 rfl ?_
      refine p_icmp 209 188 c141_185 rfl rfl (yc_ne (hR.rg _ _) (rgD rfl)) (fun hb5861 k5862 hk5862 => ?_) (fun hb5861 k5863 hk5863 => ?_)
      · have hX5864 := hX5859.trans (if_neg hb5861)
        exact tJ141_209 (f := f) (by omega) gx1 gx2 hR (fun y0 y1 m' n' e' h0 hR' k' hk' => Hn y0 y1 m' n' (hX5864.trans e') h0 hR' k' (by omega)) (fun y0 y1 m' n' e' h0 hR' k' hk' => He y0 y1 m' n' (hX5864.trans e') h0 hR' k' (by omega)) (fun m' e' => Hr m' (hX5864.trans e'))
      · have hX5865 := hX5859.trans (if_pos (Classical.not_not.mp hb5861))
        exact tJ141_188 (f := f) (by omega) gx1 gx2 (rg_wr _) hR (fun y0 y1 m' n' e' h0 hR' k' hk' => Hn y0 y1 m' n' (hX5865.trans e') h0 hR' k' (by omega)) (fun y0 y1 m' n' e' h0 hR' k' hk' => He y0 y1 m' n' (hX5865.trans e') h0 hR' k' (by omega)) (fun m' e' => Hr m' (hX5865.trans e'))
def J141_47 (f : Nat) (x1 : Int) (m : yM) : Option yM := (if m 376 8 < 0 then (bL (yloop (fun (l : Int) ml => B141_57 f x1 l ml) f 1 m) (fun l5804 m5810 => (bL (yloop (fun (l : Int) ml => B141_102 f x1 l ml) f 0 m5810) (fun l5829 m5835 => (bL (yloop (fun (l : Int) ml => B141_147 f x1 l ml) f 0 m5835) (fun l5866 m5872 => (some m5872)) (fun _ mr => some mr))) (fun _ mr => some mr))) (fun _ mr => some mr)) else (some m))
set_option maxRecDepth 100000 in
theorem tJ141_47 {L : Nat} {xs : Nat → Int32} {Q : xO → yM → Nat → Prop} {k d n : Nat} {c : yS3} {f : Nat} {x1 : Int} {m : yM} {j2 j3 : Option Value} (hk : k ≤ f) (gx1 : rg x1) (hR : RM c m) (Hr : ∀ m', J141_47 f x1 m = some m' → RM c m' → ∀ n', Q (.inl none) m' n') : PW (gZ L xs) k 141 d 47 [some (.ref 376), some (yI x1), j2, j3] [] m n Q := by
  have hX : J141_47 f x1 m = J141_47 f x1 m := rfl
  refine p_aload 48 c141_47 rfl rfl ?_
  refine p_getX 51 (m 376 8) c141_48 rfl kf376_8 rfl ?_
  refine p_if 55 54 c141_51 rfl rfl (yz_lt (hR.rg _ _)) (fun hb5784 k5785 hk5785 => ?_) (fun hb5784 k5786 hk5786 => ?_)
  · have hX5787 := hX.trans (if_pos hb5784)
    refine p_iconst 56 c141_55 rfl ?_
    refine p_istore 57 c141_56 rfl rfl ?_
    refine PW.loop (K := k5785) (pce := 100) (fun (l : Int) ml => B141_57 f x1 l ml) (fun (l : Int) j => [some (.ref 376), some (yI x1), some (yI l), j 3]) (fun (l : Int) => rg l) (RM c) (fun (r' : Unit) m' => RM c m' → ∀ n' : Nat, Q (.inl none) m' n') (fun k' hk' l j m' n' hl hI Hn' He' Hr' => tB141_57 (f := f) (by omega) gx1 hl hI (fun y0 y1 m2 n2 e h0 hR2 => Hn' y0 (fun q => ([none, none, none, y1] : List (Option Value)).getD q none) m2 n2 e h0 hR2) (fun y0 y1 m2 n2 e h0 hR2 => He' y0 (fun q => ([none, none, none, y1] : List (Option Value)).getD q none) m2 n2 e h0 hR2) (fun m2 e => Hr' () m2 e)) f k5785 (by omega) (Nat.le_refl _) 1 (fun q => ([some (.ref 376), some (yI x1), some (yI 1), j3] : xL).getD q none) _ _ (rgD rfl) hR (fun l5804 j5807 m5810 n5809 e5806 hl5805 hR5811 k5808 hk5808 => ?_) (fun r' m' e' => ?_)
    · have hX5812 := hX5787.trans (bL_l e5806)
      refine p_iconst 101 c141_100 rfl ?_
      refine p_istore 102 c141_101 rfl rfl ?_
      refine PW.loop (K := k5808) (pce := 145) (fun (l : Int) ml => B141_102 f x1 l ml) (fun (l : Int) j => [some (.ref 376), some (yI x1), some (yI l), j 3]) (fun (l : Int) => rg l) (RM c) (fun (r' : Unit) m' => RM c m' → ∀ n' : Nat, Q (.inl none) m' n') (fun k' hk' l j m' n' hl hI Hn' He' Hr' => tB141_102 (f := f) (by omega) gx1 hl hI (fun y0 y1 m2 n2 e h0 hR2 => Hn' y0 (fun q => ([none, none, none, y1] : List (Option Value)).getD q none) m2 n2 e h0 hR2) (fun y0 y1 m2 n2 e h0 hR2 => He' y0 (fun q => ([none, none, none, y1] : List (Option Value)).getD q none) m2 n2 e h0 hR2) (fun m2 e => Hr' () m2 e)) f k5808 (by omega) (Nat.le_refl _) 0 (fun q => ([some (.ref 376), some (yI x1), some (yI 0), j5807 3] : xL).getD q none) _ _ (rgD rfl) hR5811 (fun l5829 j5832 m5835 n5834 e5831 hl5830 hR5836 k5833 hk5833 => ?_) (fun r' m' e' => ?_)
      · have hX5837 := hX5812.trans (bL_l e5831)
        refine p_iconst 146 c141_145 rfl ?_
        refine p_istore 147 c141_146 rfl rfl ?_
        refine PW.loop (K := k5833) (pce := 215) (fun (l : Int) ml => B141_147 f x1 l ml) (fun (l : Int) j => [some (.ref 376), some (yI x1), some (yI l), j 3]) (fun (l : Int) => rg l) (RM c) (fun (r' : Unit) m' => RM c m' → ∀ n' : Nat, Q (.inl none) m' n') (fun k' hk' l j m' n' hl hI Hn' He' Hr' => tB141_147 (f := f) (by omega) gx1 hl hI (fun y0 y1 m2 n2 e h0 hR2 => Hn' y0 (fun q => ([none, none, none, y1] : List (Option Value)).getD q none) m2 n2 e h0 hR2) (fun y0 y1 m2 n2 e h0 hR2 => He' y0 (fun q => ([none, none, none, y1] : List (Option Value)).getD q none) m2 n2 e h0 hR2) (fun m2 e => Hr' () m2 e)) f k5833 (by omega) (Nat.le_refl _) 0 (fun q => ([some (.ref 376), some (yI x1), some (yI 0), j5832 3] : xL).getD q none) _ _ (rgD rfl) hR5836 (fun l5866 j5869 m5872 n5871 e5868 hl5867 hR5873 k5870 hk5870 => ?_) (fun r' m' e' => ?_)
        · have hX5874 := hX5837.trans (bL_l e5868)
          exact p_return c141_215 (Hr _ hX5874 hR5873 _)
        · exact Hr m' (hX5837.trans (bL_r e'))
      · exact Hr m' (hX5812.trans (bL_r e'))
    · exact Hr m' (hX5787.trans (bL_r e'))
  · have hX5875 := hX.trans (if_neg hb5784)
    exact p_return c141_54 (Hr _ hX5875 hR _)
def F141 (f : Nat) (x1 : Int) (m : yM) : Option yM := (bL (yloop (fun (l : Int) ml => B141_2 f x1 l ml) f 0 m) (fun l5775 m5781 => (J141_47 f x1 m5781)) (fun _ mr => some mr))
set_option maxRecDepth 100000 in
theorem d141 {L : Nat} {xs : Nat → Int32} {k d n : Nat} {c : yS3} {f : Nat} {x1 : Int} {m : yM} (hk : k ≤ f) (gx1 : rg x1) (hR : RM c m) : PC (gZ L xs) k d 141 [.ref 376, yI x1] m n (qV c (F141 f x1 m)) := by
  have hX : F141 f x1 m = F141 f x1 m := rfl
  have Hr : ∀ m', F141 f x1 m = some m' → RM c m' → ∀ n' : Nat, (qV c (F141 f x1 m)) (.inl none) m' n' := fun m' e h n' => ⟨rfl, h, e⟩
  refine PC.mk [some (.ref 376), some (yI x1), none, none] kn141 rfl ?_
  refine p_iconst 1 c141_0 rfl ?_
  refine p_istore 2 c141_1 rfl rfl ?_
  refine PW.loop (K := k) (pce := 47) (fun (l : Int) ml => B141_2 f x1 l ml) (fun (l : Int) j => [some (.ref 376), some (yI x1), some (yI l), j 3]) (fun (l : Int) => rg l) (RM c) (fun (r' : Unit) m' => RM c m' → ∀ n' : Nat, (qV c (F141 f x1 m)) (.inl none) m' n') (fun k' hk' l j m' n' hl hI Hn' He' Hr' => tB141_2 (f := f) (by omega) gx1 hl hI (fun y0 y1 m2 n2 e h0 hR2 => Hn' y0 (fun q => ([none, none, none, y1] : List (Option Value)).getD q none) m2 n2 e h0 hR2) (fun y0 y1 m2 n2 e h0 hR2 => He' y0 (fun q => ([none, none, none, y1] : List (Option Value)).getD q none) m2 n2 e h0 hR2) (fun m2 e => Hr' () m2 e)) f k (by omega) (Nat.le_refl _) 0 (fun q => ([some (.ref 376), some (yI x1), some (yI 0), none] : xL).getD q none) _ _ (rgD rfl) hR (fun l5775 j5778 m5781 n5780 e5777 hl5776 hR5782 k5779 hk5779 => ?_) (fun r' m' e' => ?_)
  · have hX5783 := hX.trans (bL_l e5777)
    exact tJ141_47 (f := f) (by omega) gx1 hR5782 (fun m' e' => Hr m' (hX5783.trans e'))
  · exact Hr m' (hX.trans (bL_r e'))
def B152_99 (f : Nat) (x1 : Int) (m : yM) : Option ((Unit × yM) ⊕ ((Unit × yM) ⊕ (Int × yM))) := (if m 376 8 < 0 then (if m 376 3 = 0 then (some (.inr (.inl ((), m)))) else (bU (F140 f m) (fun m5038 => (some (.inl ((), m5038)))))) else (some (.inr (.inl ((), m)))))
set_option maxRecDepth 100000 in
theorem tB152_99 {L : Nat} {xs : Nat → Int32} {Q : xO → yM → Nat → Prop} {k d n : Nat} {c : yS3} {f : Nat} {x1 : Int} {m : yM} {j2 j3 : Option Value} (hk : k ≤ f) (gx1 : rg x1) (hR : RM c m) (Hn : ∀ (z0 z1 : Option Value) (m' : yM) (n' : Nat), B152_99 f x1 m = some (.inl ((), m')) → RM c m' → ∀ k', k' < k → PW (gZ L xs) k' 152 d 99 [some (.ref 376), some (yI x1), z0, z1] [] m' n' Q) (He : ∀ (z0 z1 : Option Value) (m' : yM) (n' : Nat), B152_99 f x1 m = some (.inr (.inl ((), m'))) → RM c m' → ∀ k', k' ≤ k → PW (gZ L xs) k' 152 d 120 [some (.ref 376), some (yI x1), z0, z1] [] m' n' Q) (Hr : ∀ r m', B152_99 f x1 m = some (.inr (.inr (r, m'))) → rg r → RM c m' → ∀ n', Q (.inl (some (yI r))) m' n') : PW (gZ L xs) k 152 d 99 [some (.ref 376), some (yI x1), j2, j3] [] m n Q := by
  have hX : B152_99 f x1 m = B152_99 f x1 m := rfl
  refine p_aload 100 c152_99 rfl rfl ?_
  refine p_getX 103 (m 376 8) c152_100 rfl kf376_8 rfl ?_
  refine p_if 120 106 c152_103 rfl rfl ((yz_ge (hR.rg _ _)).trans Int.not_lt.symm) (fun hb5022 k5023 hk5023 => ?_) (fun hb5022 k5024 hk5024 => ?_)
  · have hX5025 := hX.trans (if_neg hb5022)
    exact He _ _ _ _ hX5025 hR _ (by omega)
  · have hX5026 := hX.trans (if_pos (Classical.not_not.mp hb5022))
    refine p_aload 107 c152_106 rfl rfl ?_
    refine p_getX 110 (m 376 3) c152_107 rfl kf376_3 rfl ?_
    refine p_if 120 113 c152_110 rfl rfl (yz_eq (hR.rg _ _)) (fun hb5027 k5028 hk5028 => ?_) (fun hb5027 k5029 hk5029 => ?_)
    · have hX5030 := hX5026.trans (if_pos hb5027)
      exact He _ _ _ _ hX5030 hR _ (by omega)
    · have hX5031 := hX5026.trans (if_neg hb5027)
      refine p_aload 114 c152_113 rfl rfl ?_
      refine p_cV 117 [.ref 376] [] c152_114 rfl rfl rfl (fun k' hk' d' => d140 (f := f) (by omega) hR) (fun m5038 hF5034 hR5039 n5033 k5032 hk5032 => ?_)
      have hX5037 := hX5031.trans (bU_s hF5034)
      refine p_gotoD 99 c152_117 rfl (fun k5040 hk5040 => ?_)
      exact Hn _ _ _ _ hX5037 hR5039 _ (by omega)
def B152_179 (f : Nat) (x2 : Int) (m : yM) : Option ((Int × yM) ⊕ ((Int × yM) ⊕ (Int × yM))) := (if x2 < 576 then (some (.inl ((wr (x2 + 1)), yup m 408 x2.toNat 0))) else (some (.inr (.inl (x2, m)))))
set_option maxRecDepth 100000 in
theorem tB152_179 {L : Nat} {xs : Nat → Int32} {Q : xO → yM → Nat → Prop} {k d n : Nat} {c : yS3} {f : Nat} {x2 : Int} {m : yM} {j1 j3 : Option Value} (hk : k ≤ f) (gx2 : rg x2) (hR : RM c m) (Hn : ∀ (y0 : Int) (z0 z1 : Option Value) (m' : yM) (n' : Nat), B152_179 f x2 m = some (.inl (y0, m')) → rg y0 → RM c m' → ∀ k', k' < k → PW (gZ L xs) k' 152 d 179 [some (.ref 376), z0, some (yI y0), z1] [] m' n' Q) (He : ∀ (y0 : Int) (z0 z1 : Option Value) (m' : yM) (n' : Nat), B152_179 f x2 m = some (.inr (.inl (y0, m'))) → rg y0 → RM c m' → ∀ k', k' ≤ k → PW (gZ L xs) k' 152 d 199 [some (.ref 376), z0, some (yI y0), z1] [] m' n' Q) (Hr : ∀ r m', B152_179 f x2 m = some (.inr (.inr (r, m'))) → rg r → RM c m' → ∀ n', Q (.inl (some (yI r))) m' n') : PW (gZ L xs) k 152 d 179 [some (.ref 376), j1, some (yI x2), j3] [] m n Q := by
  have hX : B152_179 f x2 m = B152_179 f x2 m := rfl
  refine p_iload 180 c152_179 rfl rfl ?_
  refine p_iconst 183 c152_180 rfl ?_
  refine p_icmp 199 186 c152_183 rfl rfl ((yc_ge gx2 (rgD rfl)).trans Int.not_lt.symm) (fun hb5074 k5075 hk5075 => ?_) (fun hb5074 k5076 hk5076 => ?_)
  · have hX5077 := hX.trans (if_neg hb5074)
    exact He _ _ _ _ _ hX5077 gx2 hR _ (by omega)
  · have hX5078 := hX.trans (if_pos (Classical.not_not.mp hb5074))
    refine p_aload 187 c152_186 rfl rfl ?_
    refine p_getR 190 c152_187 rfl kf376_48 ?_
    refine p_iload 191 c152_190 rfl rfl ?_
    refine p_iconst 192 c152_191 rfl ?_
    refine p_iaS 193 c152_192 rfl ka408 gx2 0 rfl (fun hx5079 => ?_)
    have hR5080 := hR.up 408 x2.toNat (v := 0) (nselA (by decide)) (rgD rfl)
    refine p_iinc 196 c152_193 rfl rfl rfl ?_
    refine p_gotoD 179 c152_196 rfl (fun k5081 hk5081 => ?_)
    exact Hn _ _ _ _ _ hX5078 (rg_wr _) hR5080 _ (by omega)
def J152_226 (f : Nat) (x2 : Int) (x3 : Int) (m : yM) : Option (((Int × Int) × yM) ⊕ (((Int × Int) × yM) ⊕ (Int × yM))) := (some (.inl ((x2, wr (x3 + 1)), m)))
set_option maxRecDepth 100000 in
theorem tJ152_226 {L : Nat} {xs : Nat → Int32} {Q : xO → yM → Nat → Prop} {k d n : Nat} {c : yS3} {f : Nat} {x2 : Int} {x3 : Int} {m : yM} {j1 : Option Value} (hk : k ≤ f) (gx2 : rg x2) (gx3 : rg x3) (hR : RM c m) (Hn : ∀ (y0 y1 : Int) (z0 : Option Value) (m' : yM) (n' : Nat), J152_226 f x2 x3 m = some (.inl ((y0, y1), m')) → rg y0 → rg y1 → RM c m' → ∀ k', k' < k → PW (gZ L xs) k' 152 d 207 [some (.ref 376), z0, some (yI y0), some (yI y1)] [] m' n' Q) (He : ∀ (y0 y1 : Int) (z0 : Option Value) (m' : yM) (n' : Nat), J152_226 f x2 x3 m = some (.inr (.inl ((y0, y1), m'))) → rg y0 → rg y1 → RM c m' → ∀ k', k' ≤ k → PW (gZ L xs) k' 152 d 232 [some (.ref 376), z0, some (yI y0), some (yI y1)] [] m' n' Q) (Hr : ∀ r m', J152_226 f x2 x3 m = some (.inr (.inr (r, m'))) → rg r → RM c m' → ∀ n', Q (.inl (some (yI r))) m' n') : PW (gZ L xs) k 152 d 226 [some (.ref 376), j1, some (yI x2), some (yI x3)] [] m n Q := by
  have hX : J152_226 f x2 x3 m = J152_226 f x2 x3 m := rfl
  refine p_iinc 229 c152_226 rfl rfl rfl ?_
  refine p_gotoD 207 c152_229 rfl (fun k5734 hk5734 => ?_)
  exact Hn _ _ _ _ _ hX gx2 (rg_wr _) hR _ (by omega)
def B152_207 (f : Nat) (x2 : Int) (x3 : Int) (m : yM) : Option (((Int × Int) × yM) ⊕ (((Int × Int) × yM) ⊕ (Int × yM))) := (if x3 < 576 then (if m 404 x3.toNat < 0 then (J152_226 f x2 x3 m) else (J152_226 f (wr (x2 + 1)) x3 m)) else (some (.inr (.inl ((x2, x3), m)))))
set_option maxRecDepth 100000 in
theorem tB152_207 {L : Nat} {xs : Nat → Int32} {Q : xO → yM → Nat → Prop} {k d n : Nat} {c : yS3} {f : Nat} {x2 : Int} {x3 : Int} {m : yM} {j1 : Option Value} (hk : k ≤ f) (gx2 : rg x2) (gx3 : rg x3) (hR : RM c m) (Hn : ∀ (y0 y1 : Int) (z0 : Option Value) (m' : yM) (n' : Nat), B152_207 f x2 x3 m = some (.inl ((y0, y1), m')) → rg y0 → rg y1 → RM c m' → ∀ k', k' < k → PW (gZ L xs) k' 152 d 207 [some (.ref 376), z0, some (yI y0), some (yI y1)] [] m' n' Q) (He : ∀ (y0 y1 : Int) (z0 : Option Value) (m' : yM) (n' : Nat), B152_207 f x2 x3 m = some (.inr (.inl ((y0, y1), m'))) → rg y0 → rg y1 → RM c m' → ∀ k', k' ≤ k → PW (gZ L xs) k' 152 d 232 [some (.ref 376), z0, some (yI y0), some (yI y1)] [] m' n' Q) (Hr : ∀ r m', B152_207 f x2 x3 m = some (.inr (.inr (r, m'))) → rg r → RM c m' → ∀ n', Q (.inl (some (yI r))) m' n') : PW (gZ L xs) k 152 d 207 [some (.ref 376), j1, some (yI x2), some (yI x3)] [] m n Q := by
  have hX : B152_207 f x2 x3 m = B152_207 f x2 x3 m := rfl
  refine p_iload 208 c152_207 rfl rfl ?_
  refine p_iconst 211 c152_208 rfl ?_
  refine p_icmp 232 214 c152_211 rfl rfl ((yc_ge gx3 (rgD rfl)).trans Int.not_lt.symm) (fun hb5724 k5725 hk5725 => ?_) (fun hb5724 k5726 hk5726 => ?_)
  · have hX5727 := hX.trans (if_neg hb5724)
    exact He _ _ _ _ _ hX5727 gx2 gx3 hR _ (by omega)
  · have hX5728 := hX.trans (if_pos (Classical.not_not.mp hb5724))
    refine p_aload 215 c152_214 rfl rfl ?_
    refine p_getR 218 c152_215 rfl kf376_41 ?_
    refine p_iload 219 c152_218 rfl rfl ?_
    refine p_iaX 220 (m 404 x3.toNat) c152_219 rfl ka404 gx3 rfl (fun hx5729 => ?_)
    refine p_if 226 223 c152_220 rfl rfl (yz_lt (hR.rg _ _)) (fun hb5730 k5731 hk5731 => ?_) (fun hb5730 k5732 hk5732 => ?_)
    · have hX5733 := hX5728.trans (if_pos hb5730)
      exact tJ152_226 (f := f) (by omega) gx2 gx3 hR (fun y0 y1 y2 m' n' e' h0 h1 hR' k' hk' => Hn y0 y1 y2 m' n' (hX5733.trans e') h0 h1 hR' k' (by omega)) (fun y0 y1 y2 m' n' e' h0 h1 hR' k' hk' => He y0 y1 y2 m' n' (hX5733.trans e') h0 h1 hR' k' (by omega)) (fun r' m' e' => Hr r' m' (hX5733.trans e'))
    · have hX5735 := hX5728.trans (if_neg hb5730)
      refine p_iinc 226 c152_223 rfl rfl rfl ?_
      exact tJ152_226 (f := f) (by omega) (rg_wr _) gx3 hR (fun y0 y1 y2 m' n' e' h0 h1 hR' k' hk' => Hn y0 y1 y2 m' n' (hX5735.trans e') h0 h1 hR' k' (by omega)) (fun y0 y1 y2 m' n' e' h0 h1 hR' k' hk' => He y0 y1 y2 m' n' (hX5735.trans e') h0 h1 hR' k' (by omega)) (fun r' m' e' => Hr r' m' (hX5735.trans e'))
def J152_153 (f : Nat) (x1 : Int) (xs1 : Int) (m : yM) : Option (Int × yM) := (bI (F23 f xs1 1 m) (fun r5063 m5065 => (if r5063 = 0 then (some (0, m5065)) else (bL (yloop (fun (l : Int) ml => B152_179 f l ml) f 0 (yup (yup (yup m5065 376 18 x1) 376 19 1) 376 51 0)) (fun l5082 m5088 => (bU (F151 f m5088) (fun m5722 => (bL (yloop (fun (l : Int × Int) ml => B152_207 f l.1 l.2 ml) f (0, 0) m5722) (fun l5736 m5742 => (some (l5736.1, m5742))) (fun r mr => some (r, mr)))))) (fun r mr => some (r, mr))))))
set_option maxRecDepth 100000 in
theorem tJ152_153 {L : Nat} {xs : Nat → Int32} {Q : xO → yM → Nat → Prop} {k d n : Nat} {c : yS3} {f : Nat} {x1 : Int} {xs1 : Int} {m : yM} {j2 j3 : Option Value} (hk : k ≤ f) (gx1 : rg x1) (gxs1 : rg xs1) (hR : RM c m) (Hr : ∀ r m', J152_153 f x1 xs1 m = some (r, m') → rg r → RM c m' → ∀ n', Q (.inl (some (yI r))) m' n') : PW (gZ L xs) k 152 d 153 [some (.ref 376), some (yI x1), j2, j3] [yI xs1, .ref 376] m n Q := by
  have hX : J152_153 f x1 xs1 m = J152_153 f x1 xs1 m := rfl
  refine p_iconst 154 c152_153 rfl ?_
  refine p_cS 157 [.ref 376, yI xs1, yI 1] [] c152_154 rfl rfl rfl (fun k' hk' d' => d23 (f := f) (by omega) gxs1 (rgD rfl) hR) (fun r5063 m5065 hF5061 hg5062 hR5066 n5060 k5059 hk5059 => ?_)
  have hX5064 := hX.trans (bI_s hF5061)
  refine p_if 162 160 c152_157 rfl rfl (yz_ne hg5062) (fun hb5067 k5068 hk5068 => ?_) (fun hb5067 k5069 hk5069 => ?_)
  · have hX5070 := hX5064.trans (if_neg hb5067)
    refine p_aload 163 c152_162 rfl rfl ?_
    refine p_iload 164 c152_163 rfl rfl ?_
    refine p_putI 167 c152_164 rfl kf376_18 ?_
    have hR5071 := hR5066.up 376 18 (v := x1) (nselD rfl) gx1
    refine p_aload 168 c152_167 rfl rfl ?_
    refine p_iconst 169 c152_168 rfl ?_
    refine p_putI 172 c152_169 rfl kf376_19 ?_
    have hR5072 := hR5071.up 376 19 (v := 1) (nselD rfl) (rgD rfl)
    refine p_aload 173 c152_172 rfl rfl ?_
    refine p_iconst 174 c152_173 rfl ?_
    refine p_putI 177 c152_174 rfl kf376_51 ?_
    have hR5073 := hR5072.up 376 51 (v := 0) (nselD rfl) (rgD rfl)
    refine p_iconst 178 c152_177 rfl ?_
    refine p_istore 179 c152_178 rfl rfl ?_
    refine PW.loop (K := k5068) (pce := 199) (fun (l : Int) ml => B152_179 f l ml) (fun (l : Int) j => [some (.ref 376), j 1, some (yI l), j 3]) (fun (l : Int) => rg l) (RM c) (fun r' m' => rg r' → RM c m' → ∀ n' : Nat, Q (.inl (some (yI r'))) m' n') (fun k' hk' l j m' n' hl hI Hn' He' Hr' => tB152_179 (f := f) (by omega) hl hI (fun y0 y1 y2 m2 n2 e h0 hR2 => Hn' y0 (fun q => ([none, y1, none, y2] : List (Option Value)).getD q none) m2 n2 e h0 hR2) (fun y0 y1 y2 m2 n2 e h0 hR2 => He' y0 (fun q => ([none, y1, none, y2] : List (Option Value)).getD q none) m2 n2 e h0 hR2) Hr') f k5068 (by omega) (Nat.le_refl _) 0 (fun q => ([some (.ref 376), some (yI x1), some (yI 0), j3] : xL).getD q none) _ _ (rgD rfl) hR5073 (fun l5082 j5085 m5088 n5087 e5084 hl5083 hR5089 k5086 hk5086 => ?_) (fun r' m' e' => ?_)
    · have hX5090 := hX5070.trans (bL_l e5084)
      refine p_aload 200 c152_199 rfl rfl ?_
      refine p_cV 203 [.ref 376] [] c152_200 rfl rfl rfl (fun k' hk' d' => d151 (f := f) (by omega) hR5089) (fun m5722 hF5718 hR5723 n5092 k5091 hk5091 => ?_)
      have hX5721 := hX5090.trans (bU_s hF5718)
      refine p_iconst 204 c152_203 rfl ?_
      refine p_istore 205 c152_204 rfl rfl ?_
      refine p_iconst 206 c152_205 rfl ?_
      refine p_istore 207 c152_206 rfl rfl ?_
      refine PW.loop (K := k5091) (pce := 232) (fun (l : Int × Int) ml => B152_207 f l.1 l.2 ml) (fun (l : Int × Int) j => [some (.ref 376), j 1, some (yI l.1), some (yI l.2)]) (fun (l : Int × Int) => rg l.1 ∧ rg l.2) (RM c) (fun r' m' => rg r' → RM c m' → ∀ n' : Nat, Q (.inl (some (yI r'))) m' n') (fun k' hk' l j m' n' hl hI Hn' He' Hr' => tB152_207 (f := f) (by omega) hl.1 hl.2 hI (fun y0 y1 y2 m2 n2 e h0 h1 hR2 => Hn' (y0, y1) (fun q => ([none, y2, none, none] : List (Option Value)).getD q none) m2 n2 e ⟨h0, h1⟩ hR2) (fun y0 y1 y2 m2 n2 e h0 h1 hR2 => He' (y0, y1) (fun q => ([none, y2, none, none] : List (Option Value)).getD q none) m2 n2 e ⟨h0, h1⟩ hR2) Hr') f k5091 (by omega) (Nat.le_refl _) (0, 0) (fun q => ([some (.ref 376), j5085 1, some (yI 0), some (yI 0)] : xL).getD q none) _ _ ⟨(rgD rfl), (rgD rfl)⟩ hR5723 (fun l5736 j5739 m5742 n5741 e5738 hl5737 hR5743 k5740 hk5740 => ?_) (fun r' m' e' => ?_)
      · have hX5744 := hX5721.trans (bL_l e5738)
        refine p_iload 233 c152_232 rfl rfl ?_
        exact p_ireturn c152_233 (Hr _ _ hX5744 hl5737.1 hR5743 _)
      · exact Hr r' m' (hX5721.trans (bL_r e'))
    · exact Hr r' m' (hX5070.trans (bL_r e'))
  · have hX5745 := hX5064.trans (if_pos (Classical.not_not.mp hb5067))
    refine p_iconst 161 c152_160 rfl ?_
    exact p_ireturn c152_161 (Hr _ _ hX5745 (rgD rfl) hR5066 _)
def J152_132 (f : Nat) (x1 : Int) (m : yM) : Option (Int × yM) := (if m 376 8 < 0 then (J152_153 f x1 1 (yup m 376 2 (m 376 8))) else (J152_153 f x1 0 (yup m 376 2 (m 376 8))))
set_option maxRecDepth 100000 in
theorem tJ152_132 {L : Nat} {xs : Nat → Int32} {Q : xO → yM → Nat → Prop} {k d n : Nat} {c : yS3} {f : Nat} {x1 : Int} {m : yM} {j2 j3 : Option Value} (hk : k ≤ f) (gx1 : rg x1) (hR : RM c m) (Hr : ∀ r m', J152_132 f x1 m = some (r, m') → rg r → RM c m' → ∀ n', Q (.inl (some (yI r))) m' n') : PW (gZ L xs) k 152 d 132 [some (.ref 376), some (yI x1), j2, j3] [] m n Q := by
  have hX : J152_132 f x1 m = J152_132 f x1 m := rfl
  refine p_aload 133 c152_132 rfl rfl ?_
  refine p_aload 134 c152_133 rfl rfl ?_
  refine p_getX 137 (m 376 8) c152_134 rfl kf376_8 rfl ?_
  refine p_putI 140 c152_137 rfl kf376_2 ?_
  have hR5054 := hR.up 376 2 (v := m 376 8) (nselD rfl) (hR.rg _ _)
  refine p_aload 141 c152_140 rfl rfl ?_
  refine p_aload 142 c152_141 rfl rfl ?_
  refine p_getX 145 (m 376 8) c152_142 rfl kf376_8 (yup_nk (by decide)) ?_
  refine p_if 152 148 c152_145 rfl rfl ((yz_ge (hR.rg _ _)).trans Int.not_lt.symm) (fun hb5055 k5056 hk5056 => ?_) (fun hb5055 k5057 hk5057 => ?_)
  · have hX5058 := hX.trans (if_neg hb5055)
    refine p_iconst 153 c152_152 rfl ?_
    exact tJ152_153 (f := f) (by omega) gx1 (rgD rfl) hR5054 (fun r' m' e' => Hr r' m' (hX5058.trans e'))
  · have hX5746 := hX.trans (if_pos (Classical.not_not.mp hb5055))
    refine p_iconst 149 c152_148 rfl ?_
    refine p_goto 153 c152_149 rfl ?_
    exact tJ152_153 (f := f) (by omega) gx1 (rgD rfl) hR5054 (fun r' m' e' => Hr r' m' (hX5746.trans e'))
def J152_120 (f : Nat) (x1 : Int) (m : yM) : Option (Int × yM) := (if m 376 8 < 0 then (bU (F141 f x1 m) (fun m5880 => (J152_132 f x1 m5880))) else (J152_132 f x1 m))
set_option maxRecDepth 100000 in
theorem tJ152_120 {L : Nat} {xs : Nat → Int32} {Q : xO → yM → Nat → Prop} {k d n : Nat} {c : yS3} {f : Nat} {x1 : Int} {m : yM} {j2 j3 : Option Value} (hk : k ≤ f) (gx1 : rg x1) (hR : RM c m) (Hr : ∀ r m', J152_120 f x1 m = some (r, m') → rg r → RM c m' → ∀ n', Q (.inl (some (yI r))) m' n') : PW (gZ L xs) k 152 d 120 [some (.ref 376), some (yI x1), j2, j3] [] m n Q := by
  have hX : J152_120 f x1 m = J152_120 f x1 m := rfl
  refine p_aload 121 c152_120 rfl rfl ?_
  refine p_getX 124 (m 376 8) c152_121 rfl kf376_8 rfl ?_
  refine p_if 132 127 c152_124 rfl rfl ((yz_ge (hR.rg _ _)).trans Int.not_lt.symm) (fun hb5050 k5051 hk5051 => ?_) (fun hb5050 k5052 hk5052 => ?_)
  · have hX5053 := hX.trans (if_neg hb5050)
    exact tJ152_132 (f := f) (by omega) gx1 hR (fun r' m' e' => Hr r' m' (hX5053.trans e'))
  · have hX5747 := hX.trans (if_pos (Classical.not_not.mp hb5050))
    refine p_aload 128 c152_127 rfl rfl ?_
    refine p_iload 129 c152_128 rfl rfl ?_
    refine p_cV 132 [.ref 376, yI x1] [] c152_129 rfl rfl rfl (fun k' hk' d' => d141 (f := f) (by omega) gx1 hR) (fun m5880 hF5876 hR5881 n5749 k5748 hk5748 => ?_)
    have hX5879 := hX5747.trans (bU_s hF5876)
    exact tJ152_132 (f := f) (by omega) gx1 hR5881 (fun r' m' e' => Hr r' m' (hX5879.trans e'))
def F152 (f : Nat) (m : yM) : Option (Int × yM) := (bU (F99 f (yup (yup (yup (yup (yup (yup (yup (yup (yup (yup (yup (yup (yup m 383 (F96 m).toNat 0) 384 (F96 m).toNat 0) 385 (F96 m).toNat 0) 386 (F96 m).toNat 0) 387 (F96 m).toNat 0) 388 (F96 m).toNat 1) 389 (F96 m).toNat 0) 390 (F96 m).toNat 0) 400 (wr (12 * (F96 m))).toNat 0) 376 9 0) 376 17 0) 376 6 0) 376 8 ((-1)))) (fun m3048 => (bU (F140 f m3048) (fun m5020 => (bL (yloop (fun (l : Unit) ml => B152_99 f (F96 m) ml) f () m5020) (fun _ m5047 => (J152_120 f (F96 m) m5047)) (fun r mr => some (r, mr)))))))
set_option maxRecDepth 100000 in
theorem d152 {L : Nat} {xs : Nat → Int32} {k d n : Nat} {c : yS3} {f : Nat} {m : yM} (hk : k ≤ f) (hR : RM c m) : PC (gZ L xs) k d 152 [.ref 376] m n (qS c (F152 f m)) := by
  have hX : F152 f m = F152 f m := rfl
  have Hr : ∀ r m', F152 f m = some (r, m') → rg r → RM c m' → ∀ n' : Nat, (qS c (F152 f m)) (.inl (some (yI r))) m' n' := fun r m' e h1 h2 n' => ⟨r, rfl, h1, h2, e⟩
  refine PC.mk [some (.ref 376), none, none, none] kn152 rfl ?_
  refine p_aload 1 c152_0 rfl rfl ?_
  refine p_cX 4 [.ref 376] [] c152_1 rfl rfl rfl (fun k' hk' d' => d96 hR) (fun hg2883 n2882 k2881 hk2881 => ?_)
  refine p_istore 5 c152_4 rfl rfl ?_
  refine p_aload 6 c152_5 rfl rfl ?_
  refine p_getR 9 c152_6 rfl kf376_20 ?_
  refine p_iload 10 c152_9 rfl rfl ?_
  refine p_iconst 11 c152_10 rfl ?_
  refine p_iaS 12 c152_11 rfl ka383 hg2883 0 (nar0 (rgD rfl)) (fun hx2884 => ?_)
  have hR2885 := hR.up 383 (F96 m).toNat (v := 0) (nselA (by decide)) (rgD rfl)
  refine p_aload 13 c152_12 rfl rfl ?_
  refine p_getR 16 c152_13 rfl kf376_21 ?_
  refine p_iload 17 c152_16 rfl rfl ?_
  refine p_iconst 18 c152_17 rfl ?_
  refine p_iaS 19 c152_18 rfl ka384 hg2883 0 (nar0 (rgD rfl)) (fun hx2886 => ?_)
  have hR2887 := hR2885.up 384 (F96 m).toNat (v := 0) (nselA (by decide)) (rgD rfl)
  refine p_aload 20 c152_19 rfl rfl ?_
  refine p_getR 23 c152_20 rfl kf376_22 ?_
  refine p_iload 24 c152_23 rfl rfl ?_
  refine p_iconst 25 c152_24 rfl ?_
  refine p_iaS 26 c152_25 rfl ka385 hg2883 0 (nar0 (rgD rfl)) (fun hx2888 => ?_)
  have hR2889 := hR2887.up 385 (F96 m).toNat (v := 0) (nselA (by decide)) (rgD rfl)
  refine p_aload 27 c152_26 rfl rfl ?_
  refine p_getR 30 c152_27 rfl kf376_23 ?_
  refine p_iload 31 c152_30 rfl rfl ?_
  refine p_iconst 32 c152_31 rfl ?_
  refine p_iaS 33 c152_32 rfl ka386 hg2883 0 (nar0 (rgD rfl)) (fun hx2890 => ?_)
  have hR2891 := hR2889.up 386 (F96 m).toNat (v := 0) (nselA (by decide)) (rgD rfl)
  refine p_aload 34 c152_33 rfl rfl ?_
  refine p_getR 37 c152_34 rfl kf376_24 ?_
  refine p_iload 38 c152_37 rfl rfl ?_
  refine p_iconst 39 c152_38 rfl ?_
  refine p_iaS 40 c152_39 rfl ka387 hg2883 0 (nar0 (rgD rfl)) (fun hx2892 => ?_)
  have hR2893 := hR2891.up 387 (F96 m).toNat (v := 0) (nselA (by decide)) (rgD rfl)
  refine p_aload 41 c152_40 rfl rfl ?_
  refine p_getR 44 c152_41 rfl kf376_25 ?_
  refine p_iload 45 c152_44 rfl rfl ?_
  refine p_iconst 46 c152_45 rfl ?_
  refine p_iaS 47 c152_46 rfl ka388 hg2883 1 (nar0 (rgD rfl)) (fun hx2894 => ?_)
  have hR2895 := hR2893.up 388 (F96 m).toNat (v := 1) (nselA (by decide)) (rgD rfl)
  refine p_aload 48 c152_47 rfl rfl ?_
  refine p_getR 51 c152_48 rfl kf376_26 ?_
  refine p_iload 52 c152_51 rfl rfl ?_
  refine p_iconst 53 c152_52 rfl ?_
  refine p_iaS 54 c152_53 rfl ka389 hg2883 0 (nar0 (rgD rfl)) (fun hx2896 => ?_)
  have hR2897 := hR2895.up 389 (F96 m).toNat (v := 0) (nselA (by decide)) (rgD rfl)
  refine p_aload 55 c152_54 rfl rfl ?_
  refine p_getR 58 c152_55 rfl kf376_27 ?_
  refine p_iload 59 c152_58 rfl rfl ?_
  refine p_iconst 60 c152_59 rfl ?_
  refine p_iaS 61 c152_60 rfl ka390 hg2883 0 (nar0 (rgD rfl)) (fun hx2898 => ?_)
  have hR2899 := hR2897.up 390 (F96 m).toNat (v := 0) (nselA (by decide)) (rgD rfl)
  refine p_aload 62 c152_61 rfl rfl ?_
  refine p_getR 65 c152_62 rfl kf376_37 ?_
  refine p_iconst 67 c152_65 rfl ?_
  refine p_iload 68 c152_67 rfl rfl ?_
  refine p_imul 69 c152_68 rfl ?_
  refine p_iconst 70 c152_69 rfl ?_
  refine p_iaS 71 c152_70 rfl ka400 (rg_wr _) 0 (nar0 (rgD rfl)) (fun hx2900 => ?_)
  have hR2901 := hR2899.up 400 (wr (12 * (F96 m))).toNat (v := 0) (nselA (by decide)) (rgD rfl)
  refine p_aload 72 c152_71 rfl rfl ?_
  refine p_iconst 73 c152_72 rfl ?_
  refine p_putI 76 c152_73 rfl kf376_9 ?_
  have hR2902 := hR2901.up 376 9 (v := 0) (nselD rfl) (rgD rfl)
  refine p_aload 77 c152_76 rfl rfl ?_
  refine p_iconst 78 c152_77 rfl ?_
  refine p_putI 81 c152_78 rfl kf376_17 ?_
  have hR2903 := hR2902.up 376 17 (v := 0) (nselD rfl) (rgD rfl)
  refine p_aload 82 c152_81 rfl rfl ?_
  refine p_iconst 83 c152_82 rfl ?_
  refine p_putI 86 c152_83 rfl kf376_6 ?_
  have hR2904 := hR2903.up 376 6 (v := 0) (nselD rfl) (rgD rfl)
  refine p_aload 87 c152_86 rfl rfl ?_
  refine p_iconst 88 c152_87 rfl ?_
  refine p_putI 91 c152_88 rfl kf376_8 ?_
  have hR2905 := hR2904.up 376 8 (v := (-1)) (nselD rfl) (rgD rfl)
  refine p_aload 92 c152_91 rfl rfl ?_
  refine p_cV 95 [.ref 376] [] c152_92 rfl rfl rfl (fun k' hk' d' => d99 (f := f) (by omega) hR2905) (fun m3048 hF3044 hR3049 n2907 k2906 hk2906 => ?_)
  have hX3047 := hX.trans (bU_s hF3044)
  refine p_aload 96 c152_95 rfl rfl ?_
  refine p_cV 99 [.ref 376] [] c152_96 rfl rfl rfl (fun k' hk' d' => d140 (f := f) (by omega) hR3049) (fun m5020 hF5016 hR5021 n3051 k3050 hk3050 => ?_)
  have hX5019 := hX3047.trans (bU_s hF5016)
  refine PW.loop (K := k3050) (pce := 120) (fun (l : Unit) ml => B152_99 f (F96 m) ml) (fun (l : Unit) j => [some (.ref 376), some (yI (F96 m)), j 2, j 3]) (fun (l : Unit) => True) (RM c) (fun r' m' => rg r' → RM c m' → ∀ n' : Nat, (qS c (F152 f m)) (.inl (some (yI r'))) m' n') (fun k' hk' l j m' n' hl hI Hn' He' Hr' => tB152_99 (f := f) (by omega) hg2883 hI (fun y0 y1 m2 n2 e  hR2 => Hn' () (fun q => ([none, none, y0, y1] : List (Option Value)).getD q none) m2 n2 e trivial hR2) (fun y0 y1 m2 n2 e  hR2 => He' () (fun q => ([none, none, y0, y1] : List (Option Value)).getD q none) m2 n2 e trivial hR2) Hr') f k3050 (by omega) (Nat.le_refl _) () (fun q => ([some (.ref 376), some (yI (F96 m)), none, none] : xL).getD q none) _ _ trivial hR5021 (fun l5041 j5044 m5047 n5046 e5043 hl5042 hR5048 k5045 hk5045 => ?_) (fun r' m' e' => ?_)
  · have hX5049 := hX5019.trans (bL_l e5043)
    exact tJ152_120 (f := f) (by omega) hg2883 hR5048 (fun r' m' e' => Hr r' m' (hX5049.trans e'))
  · exact Hr r' m' (hX5019.trans (bL_r e'))
