/-! FUNCTIONS OF THE METHODS: printed by wip/fn/dc.py -/
def F111 (m : yM) : Int := (F102 (F101 101 108 115 101 0 0) m)
set_option maxRecDepth 100000 in
theorem d111 {L : Nat} {xs : Nat → Int32} {k d n : Nat} {c : yS3} {m : yM} (hR : RM c m) : PC (gZ L xs) k d 111 [.ref 376] m n (qX m (F111 m)) := by
  have hX : F111 m = F111 m := rfl
  have Hr : ∀ r, F111 m = r → rg r → ∀ n' : Nat, (qX m (F111 m)) (.inl (some (yI r))) m n' := fun r e h n' => by subst e; exact ⟨rfl, h, rfl⟩
  refine PC.mk [some (.ref 376)] kn111 rfl ?_
  refine p_aload 1 c111_0 rfl rfl ?_
  refine p_iconst 3 c111_1 rfl ?_
  refine p_iconst 5 c111_3 rfl ?_
  refine p_iconst 7 c111_5 rfl ?_
  refine p_iconst 9 c111_7 rfl ?_
  refine p_iconst 10 c111_9 rfl ?_
  refine p_iconst 11 c111_10 rfl ?_
  refine p_cX 14 [yI 101, yI 108, yI 115, yI 101, yI 0, yI 0] [.ref 376] c111_11 rfl rfl rfl (fun k' hk' d' => d101 (rgD rfl) (rgD rfl) (rgD rfl) (rgD rfl) (rgD rfl) (rgD rfl) hR) (fun hg3237 n3236 k3235 hk3235 => ?_)
  refine p_cX 17 [.ref 376, yI (F101 101 108 115 101 0 0)] [] c111_14 rfl rfl rfl (fun k' hk' d' => d102 hg3237 hR) (fun hg3240 n3239 k3238 hk3238 => ?_)
  exact p_ireturn c111_17 (Hr _ hX hg3240 _)
def F112 (m : yM) : Int := (F102 (F101 119 104 105 108 101 0) m)
set_option maxRecDepth 100000 in
theorem d112 {L : Nat} {xs : Nat → Int32} {k d n : Nat} {c : yS3} {m : yM} (hR : RM c m) : PC (gZ L xs) k d 112 [.ref 376] m n (qX m (F112 m)) := by
  have hX : F112 m = F112 m := rfl
  have Hr : ∀ r, F112 m = r → rg r → ∀ n' : Nat, (qX m (F112 m)) (.inl (some (yI r))) m n' := fun r e h n' => by subst e; exact ⟨rfl, h, rfl⟩
  refine PC.mk [some (.ref 376)] kn112 rfl ?_
  refine p_aload 1 c112_0 rfl rfl ?_
  refine p_iconst 3 c112_1 rfl ?_
  refine p_iconst 5 c112_3 rfl ?_
  refine p_iconst 7 c112_5 rfl ?_
  refine p_iconst 9 c112_7 rfl ?_
  refine p_iconst 11 c112_9 rfl ?_
  refine p_iconst 12 c112_11 rfl ?_
  refine p_cX 15 [yI 119, yI 104, yI 105, yI 108, yI 101, yI 0] [.ref 376] c112_12 rfl rfl rfl (fun k' hk' d' => d101 (rgD rfl) (rgD rfl) (rgD rfl) (rgD rfl) (rgD rfl) (rgD rfl) hR) (fun hg3251 n3250 k3249 hk3249 => ?_)
  refine p_cX 18 [.ref 376, yI (F101 119 104 105 108 101 0)] [] c112_15 rfl rfl rfl (fun k' hk' d' => d102 hg3251 hR) (fun hg3254 n3253 k3252 hk3252 => ?_)
  exact p_ireturn c112_18 (Hr _ hX hg3254 _)
def F113 (m : yM) : Int := (F102 (F101 114 101 116 117 114 110) m)
set_option maxRecDepth 100000 in
theorem d113 {L : Nat} {xs : Nat → Int32} {k d n : Nat} {c : yS3} {m : yM} (hR : RM c m) : PC (gZ L xs) k d 113 [.ref 376] m n (qX m (F113 m)) := by
  have hX : F113 m = F113 m := rfl
  have Hr : ∀ r, F113 m = r → rg r → ∀ n' : Nat, (qX m (F113 m)) (.inl (some (yI r))) m n' := fun r e h n' => by subst e; exact ⟨rfl, h, rfl⟩
  refine PC.mk [some (.ref 376)] kn113 rfl ?_
  refine p_aload 1 c113_0 rfl rfl ?_
  refine p_iconst 3 c113_1 rfl ?_
  refine p_iconst 5 c113_3 rfl ?_
  refine p_iconst 7 c113_5 rfl ?_
  refine p_iconst 9 c113_7 rfl ?_
  refine p_iconst 11 c113_9 rfl ?_
  refine p_iconst 13 c113_11 rfl ?_
  refine p_cX 16 [yI 114, yI 101, yI 116, yI 117, yI 114, yI 110] [.ref 376] c113_13 rfl rfl rfl (fun k' hk' d' => d101 (rgD rfl) (rgD rfl) (rgD rfl) (rgD rfl) (rgD rfl) (rgD rfl) hR) (fun hg3265 n3264 k3263 hk3263 => ?_)
  refine p_cX 19 [.ref 376, yI (F101 114 101 116 117 114 110)] [] c113_16 rfl rfl rfl (fun k' hk' d' => d102 hg3265 hR) (fun hg3268 n3267 k3266 hk3266 => ?_)
  exact p_ireturn c113_19 (Hr _ hX hg3268 _)
def F114 (m : yM) : Int := (F102 (F101 116 104 105 115 0 0) m)
set_option maxRecDepth 100000 in
theorem d114 {L : Nat} {xs : Nat → Int32} {k d n : Nat} {c : yS3} {m : yM} (hR : RM c m) : PC (gZ L xs) k d 114 [.ref 376] m n (qX m (F114 m)) := by
  have hX : F114 m = F114 m := rfl
  have Hr : ∀ r, F114 m = r → rg r → ∀ n' : Nat, (qX m (F114 m)) (.inl (some (yI r))) m n' := fun r e h n' => by subst e; exact ⟨rfl, h, rfl⟩
  refine PC.mk [some (.ref 376)] kn114 rfl ?_
  refine p_aload 1 c114_0 rfl rfl ?_
  refine p_iconst 3 c114_1 rfl ?_
  refine p_iconst 5 c114_3 rfl ?_
  refine p_iconst 7 c114_5 rfl ?_
  refine p_iconst 9 c114_7 rfl ?_
  refine p_iconst 10 c114_9 rfl ?_
  refine p_iconst 11 c114_10 rfl ?_
  refine p_cX 14 [yI 116, yI 104, yI 105, yI 115, yI 0, yI 0] [.ref 376] c114_11 rfl rfl rfl (fun k' hk' d' => d101 (rgD rfl) (rgD rfl) (rgD rfl) (rgD rfl) (rgD rfl) (rgD rfl) hR) (fun hg3279 n3278 k3277 hk3277 => ?_)
  refine p_cX 17 [.ref 376, yI (F101 116 104 105 115 0 0)] [] c114_14 rfl rfl rfl (fun k' hk' d' => d102 hg3279 hR) (fun hg3282 n3281 k3280 hk3280 => ?_)
  exact p_ireturn c114_17 (Hr _ hX hg3282 _)
def F115 (m : yM) : Int := (if m 376 3 = 1 then (if F103 m = 0 then (if F106 m = 0 then (if F107 m = 0 then (if F108 m = 0 then (if F109 m = 0 then (if F110 m = 0 then (if F111 m = 0 then (if F112 m = 0 then (if F113 m = 0 then (if F114 m = 0 then 1 else 0) else 0) else 0) else 0) else 0) else 0) else 0) else 0) else 0) else 0) else 0)
set_option maxRecDepth 100000 in
theorem d115 {L : Nat} {xs : Nat → Int32} {k d n : Nat} {c : yS3} {m : yM} (hR : RM c m) : PC (gZ L xs) k d 115 [.ref 376] m n (qX m (F115 m)) := by
  have hX : F115 m = F115 m := rfl
  have Hr : ∀ r, F115 m = r → rg r → ∀ n' : Nat, (qX m (F115 m)) (.inl (some (yI r))) m n' := fun r e h n' => by subst e; exact ⟨rfl, h, rfl⟩
  refine PC.mk [some (.ref 376)] kn115 rfl ?_
  refine p_aload 1 c115_0 rfl rfl ?_
  refine p_getX 4 (m 376 3) c115_1 rfl kf376_3 rfl ?_
  refine p_iconst 5 c115_4 rfl ?_
  refine p_icmp 82 8 c115_5 rfl rfl (yc_ne (hR.rg _ _) (rgD rfl)) (fun hb3150 k3151 hk3151 => ?_) (fun hb3150 k3152 hk3152 => ?_)
  · have hX3153 := hX.trans (if_neg hb3150)
    refine p_iconst 83 c115_82 rfl ?_
    exact p_ireturn c115_83 (Hr _ hX3153 (rgD rfl) _)
  · have hX3154 := hX.trans (if_pos (Classical.not_not.mp hb3150))
    refine p_aload 9 c115_8 rfl rfl ?_
    refine p_cX 12 [.ref 376] [] c115_9 rfl rfl rfl (fun k' hk' d' => d103 hR) (fun hg3157 n3156 k3155 hk3155 => ?_)
    refine p_if 82 15 c115_12 rfl rfl (yz_ne hg3157) (fun hb3158 k3159 hk3159 => ?_) (fun hb3158 k3160 hk3160 => ?_)
    · have hX3161 := hX3154.trans (if_neg hb3158)
      refine p_iconst 83 c115_82 rfl ?_
      exact p_ireturn c115_83 (Hr _ hX3161 (rgD rfl) _)
    · have hX3162 := hX3154.trans (if_pos (Classical.not_not.mp hb3158))
      refine p_aload 16 c115_15 rfl rfl ?_
      refine p_cX 19 [.ref 376] [] c115_16 rfl rfl rfl (fun k' hk' d' => d106 hR) (fun hg3171 n3164 k3163 hk3163 => ?_)
      refine p_if 82 22 c115_19 rfl rfl (yz_ne hg3171) (fun hb3172 k3173 hk3173 => ?_) (fun hb3172 k3174 hk3174 => ?_)
      · have hX3175 := hX3162.trans (if_neg hb3172)
        refine p_iconst 83 c115_82 rfl ?_
        exact p_ireturn c115_83 (Hr _ hX3175 (rgD rfl) _)
      · have hX3176 := hX3162.trans (if_pos (Classical.not_not.mp hb3172))
        refine p_aload 23 c115_22 rfl rfl ?_
        refine p_cX 26 [.ref 376] [] c115_23 rfl rfl rfl (fun k' hk' d' => d107 hR) (fun hg3185 n3178 k3177 hk3177 => ?_)
        refine p_if 82 29 c115_26 rfl rfl (yz_ne hg3185) (fun hb3186 k3187 hk3187 => ?_) (fun hb3186 k3188 hk3188 => ?_)
        · have hX3189 := hX3176.trans (if_neg hb3186)
          refine p_iconst 83 c115_82 rfl ?_
          exact p_ireturn c115_83 (Hr _ hX3189 (rgD rfl) _)
        · have hX3190 := hX3176.trans (if_pos (Classical.not_not.mp hb3186))
          refine p_aload 30 c115_29 rfl rfl ?_
          refine p_cX 33 [.ref 376] [] c115_30 rfl rfl rfl (fun k' hk' d' => d108 hR) (fun hg3199 n3192 k3191 hk3191 => ?_)
          refine p_if 82 36 c115_33 rfl rfl (yz_ne hg3199) (fun hb3200 k3201 hk3201 => ?_) (fun hb3200 k3202 hk3202 => ?_)
          · have hX3203 := hX3190.trans (if_neg hb3200)
            refine p_iconst 83 c115_82 rfl ?_
            exact p_ireturn c115_83 (Hr _ hX3203 (rgD rfl) _)
          · have hX3204 := hX3190.trans (if_pos (Classical.not_not.mp hb3200))
            refine p_aload 37 c115_36 rfl rfl ?_
            refine p_cX 40 [.ref 376] [] c115_37 rfl rfl rfl (fun k' hk' d' => d109 hR) (fun hg3213 n3206 k3205 hk3205 => ?_)
            refine p_if 82 43 c115_40 rfl rfl (yz_ne hg3213) (fun hb3214 k3215 hk3215 => ?_) (fun hb3214 k3216 hk3216 => ?_)
            · have hX3217 := hX3204.trans (if_neg hb3214)
              refine p_iconst 83 c115_82 rfl ?_
              exact p_ireturn c115_83 (Hr _ hX3217 (rgD rfl) _)
            · have hX3218 := hX3204.trans (if_pos (Classical.not_not.mp hb3214))
              refine p_aload 44 c115_43 rfl rfl ?_
              refine p_cX 47 [.ref 376] [] c115_44 rfl rfl rfl (fun k' hk' d' => d110 hR) (fun hg3227 n3220 k3219 hk3219 => ?_)
              refine p_if 82 50 c115_47 rfl rfl (yz_ne hg3227) (fun hb3228 k3229 hk3229 => ?_) (fun hb3228 k3230 hk3230 => ?_)
              · have hX3231 := hX3218.trans (if_neg hb3228)
                refine p_iconst 83 c115_82 rfl ?_
                exact p_ireturn c115_83 (Hr _ hX3231 (rgD rfl) _)
              · have hX3232 := hX3218.trans (if_pos (Classical.not_not.mp hb3228))
                refine p_aload 51 c115_50 rfl rfl ?_
                refine p_cX 54 [.ref 376] [] c115_51 rfl rfl rfl (fun k' hk' d' => d111 hR) (fun hg3241 n3234 k3233 hk3233 => ?_)
                refine p_if 82 57 c115_54 rfl rfl (yz_ne hg3241) (fun hb3242 k3243 hk3243 => ?_) (fun hb3242 k3244 hk3244 => ?_)
                · have hX3245 := hX3232.trans (if_neg hb3242)
                  refine p_iconst 83 c115_82 rfl ?_
                  exact p_ireturn c115_83 (Hr _ hX3245 (rgD rfl) _)
                · have hX3246 := hX3232.trans (if_pos (Classical.not_not.mp hb3242))
                  refine p_aload 58 c115_57 rfl rfl ?_
                  refine p_cX 61 [.ref 376] [] c115_58 rfl rfl rfl (fun k' hk' d' => d112 hR) (fun hg3255 n3248 k3247 hk3247 => ?_)
                  refine p_if 82 64 c115_61 rfl rfl (yz_ne hg3255) (fun hb3256 k3257 hk3257 => ?_) (fun hb3256 k3258 hk3258 => ?_)
                  · have hX3259 := hX3246.trans (if_neg hb3256)
                    refine p_iconst 83 c115_82 rfl ?_
                    exact p_ireturn c115_83 (Hr _ hX3259 (rgD rfl) _)
                  · have hX3260 := hX3246.trans (if_pos (Classical.not_not.mp hb3256))
                    refine p_aload 65 c115_64 rfl rfl ?_
                    refine p_cX 68 [.ref 376] [] c115_65 rfl rfl rfl (fun k' hk' d' => d113 hR) (fun hg3269 n3262 k3261 hk3261 => ?_)
                    refine p_if 82 71 c115_68 rfl rfl (yz_ne hg3269) (fun hb3270 k3271 hk3271 => ?_) (fun hb3270 k3272 hk3272 => ?_)
                    · have hX3273 := hX3260.trans (if_neg hb3270)
                      refine p_iconst 83 c115_82 rfl ?_
                      exact p_ireturn c115_83 (Hr _ hX3273 (rgD rfl) _)
                    · have hX3274 := hX3260.trans (if_pos (Classical.not_not.mp hb3270))
                      refine p_aload 72 c115_71 rfl rfl ?_
                      refine p_cX 75 [.ref 376] [] c115_72 rfl rfl rfl (fun k' hk' d' => d114 hR) (fun hg3283 n3276 k3275 hk3275 => ?_)
                      refine p_if 82 78 c115_75 rfl rfl (yz_ne hg3283) (fun hb3284 k3285 hk3285 => ?_) (fun hb3284 k3286 hk3286 => ?_)
                      · have hX3287 := hX3274.trans (if_neg hb3284)
                        refine p_iconst 83 c115_82 rfl ?_
                        exact p_ireturn c115_83 (Hr _ hX3287 (rgD rfl) _)
                      · have hX3288 := hX3274.trans (if_pos (Classical.not_not.mp hb3284))
                        refine p_iconst 79 c115_78 rfl ?_
                        refine p_goto 83 c115_79 rfl ?_
                        exact p_ireturn c115_83 (Hr _ hX3288 (rgD rfl) _)
def F117 (x1 : Int) (m : yM) : Int := (if m 376 3 = 2 then (if m 376 4 = x1 then 1 else 0) else 0)
set_option maxRecDepth 100000 in
theorem d117 {L : Nat} {xs : Nat → Int32} {k d n : Nat} {c : yS3} {x1 : Int} {m : yM} (gx1 : rg x1) (hR : RM c m) : PC (gZ L xs) k d 117 [.ref 376, yI x1] m n (qX m (F117 x1 m)) := by
  have hX : F117 x1 m = F117 x1 m := rfl
  have Hr : ∀ r, F117 x1 m = r → rg r → ∀ n' : Nat, (qX m (F117 x1 m)) (.inl (some (yI r))) m n' := fun r e h n' => by subst e; exact ⟨rfl, h, rfl⟩
  refine PC.mk [some (.ref 376), some (yI x1)] kn117 rfl ?_
  refine p_aload 1 c117_0 rfl rfl ?_
  refine p_getX 4 (m 376 3) c117_1 rfl kf376_3 rfl ?_
  refine p_iconst 5 c117_4 rfl ?_
  refine p_icmp 20 8 c117_5 rfl rfl (yc_ne (hR.rg _ _) (rgD rfl)) (fun hb3308 k3309 hk3309 => ?_) (fun hb3308 k3310 hk3310 => ?_)
  · have hX3311 := hX.trans (if_neg hb3308)
    refine p_iconst 21 c117_20 rfl ?_
    exact p_ireturn c117_21 (Hr _ hX3311 (rgD rfl) _)
  · have hX3312 := hX.trans (if_pos (Classical.not_not.mp hb3308))
    refine p_aload 9 c117_8 rfl rfl ?_
    refine p_getX 12 (m 376 4) c117_9 rfl kf376_4 rfl ?_
    refine p_iload 13 c117_12 rfl rfl ?_
    refine p_icmp 20 16 c117_13 rfl rfl (yc_ne (hR.rg _ _) gx1) (fun hb3313 k3314 hk3314 => ?_) (fun hb3313 k3315 hk3315 => ?_)
    · have hX3316 := hX3312.trans (if_neg hb3313)
      refine p_iconst 21 c117_20 rfl ?_
      exact p_ireturn c117_21 (Hr _ hX3316 (rgD rfl) _)
    · have hX3317 := hX3312.trans (if_pos (Classical.not_not.mp hb3313))
      refine p_iconst 17 c117_16 rfl ?_
      refine p_goto 21 c117_17 rfl ?_
      exact p_ireturn c117_21 (Hr _ hX3317 (rgD rfl) _)
def F118 (f : Nat) (x1 : Int) (m : yM) : Option (Int × yM) := (bI (F105 f (F117 x1 m) m) (fun r3359 m3361 => (some (r3359, m3361))))
set_option maxRecDepth 100000 in
theorem d118 {L : Nat} {xs : Nat → Int32} {k d n : Nat} {c : yS3} {f : Nat} {x1 : Int} {m : yM} (hk : k ≤ f) (gx1 : rg x1) (hR : RM c m) : PC (gZ L xs) k d 118 [.ref 376, yI x1] m n (qS c (F118 f x1 m)) := by
  have hX : F118 f x1 m = F118 f x1 m := rfl
  have Hr : ∀ r m', F118 f x1 m = some (r, m') → rg r → RM c m' → ∀ n' : Nat, (qS c (F118 f x1 m)) (.inl (some (yI r))) m' n' := fun r m' e h1 h2 n' => ⟨r, rfl, h1, h2, e⟩
  refine PC.mk [some (.ref 376), some (yI x1)] kn118 rfl ?_
  refine p_aload 1 c118_0 rfl rfl ?_
  refine p_aload 2 c118_1 rfl rfl ?_
  refine p_iload 3 c118_2 rfl rfl ?_
  refine p_cX 6 [.ref 376, yI x1] [.ref 376] c118_3 rfl rfl rfl (fun k' hk' d' => d117 gx1 hR) (fun hg3354 n3353 k3352 hk3352 => ?_)
  refine p_cS 9 [.ref 376, yI (F117 x1 m)] [] c118_6 rfl rfl rfl (fun k' hk' d' => d105 (f := f) (by omega) hg3354 hR) (fun r3359 m3361 hF3357 hg3358 hR3362 n3356 k3355 hk3355 => ?_)
  have hX3360 := hX.trans (bI_s hF3357)
  exact p_ireturn c118_9 (Hr _ _ hX3360 hg3358 hR3362 _)
def B116_2 (f : Nat) (x1 : Int) (x2 : Int) (x3 : Int) (m : yM) : Option (Int ⊕ (Int ⊕ Int)) := (if x3 < m 383 x1.toNat then (if m 391 (wr ((wr (6 * x1)) + x3)).toNat = x2 then (some (.inr (.inr x3))) else (some (.inl (wr (x3 + 1))))) else (some (.inr (.inl x3))))
set_option maxRecDepth 100000 in
theorem tB116_2 {L : Nat} {xs : Nat → Int32} {Q : xO → yM → Nat → Prop} {k d n : Nat} {c : yS3} {f : Nat} {x1 : Int} {x2 : Int} {x3 : Int} {m : yM} (hk : k ≤ f) (gx1 : rg x1) (gx2 : rg x2) (gx3 : rg x3) (hR : RM c m) (Hn : ∀ (y0 : Int) (n' : Nat), B116_2 f x1 x2 x3 m = some (.inl y0) → rg y0 → ∀ k', k' < k → PW (gZ L xs) k' 116 d 2 [some (.ref 376), some (yI x1), some (yI x2), some (yI y0)] [] m n' Q) (He : ∀ (y0 : Int) (n' : Nat), B116_2 f x1 x2 x3 m = some (.inr (.inl y0)) → rg y0 → ∀ k', k' ≤ k → PW (gZ L xs) k' 116 d 35 [some (.ref 376), some (yI x1), some (yI x2), some (yI y0)] [] m n' Q) (Hr : ∀ r, B116_2 f x1 x2 x3 m = some (.inr (.inr r)) → rg r → ∀ n', Q (.inl (some (yI r))) m n') : PW (gZ L xs) k 116 d 2 [some (.ref 376), some (yI x1), some (yI x2), some (yI x3)] [] m n Q := by
  have hX : B116_2 f x1 x2 x3 m = B116_2 f x1 x2 x3 m := rfl
  refine p_iload 3 c116_2 rfl rfl ?_
  refine p_aload 4 c116_3 rfl rfl ?_
  refine p_getR 7 c116_4 rfl kf376_20 ?_
  refine p_iload 8 c116_7 rfl rfl ?_
  refine p_iaX 9 (m 383 x1.toNat) c116_8 rfl ka383 gx1 rfl (fun hx3411 => ?_)
  refine p_icmp 35 12 c116_9 rfl rfl ((yc_ge gx3 (hR.rg _ _)).trans Int.not_lt.symm) (fun hb3412 k3413 hk3413 => ?_) (fun hb3412 k3414 hk3414 => ?_)
  · have hX3415 := hX.trans (if_neg hb3412)
    exact He _ _ hX3415 gx3 _ (by omega)
  · have hX3416 := hX.trans (if_pos (Classical.not_not.mp hb3412))
    refine p_aload 13 c116_12 rfl rfl ?_
    refine p_getR 16 c116_13 rfl kf376_28 ?_
    refine p_iconst 18 c116_16 rfl ?_
    refine p_iload 19 c116_18 rfl rfl ?_
    refine p_imul 20 c116_19 rfl ?_
    refine p_iload 21 c116_20 rfl rfl ?_
    refine p_iadd 22 c116_21 rfl ?_
    refine p_iaX 23 (m 391 (wr ((wr (6 * x1)) + x3)).toNat) c116_22 rfl ka391 (rg_wr _) rfl (fun hx3417 => ?_)
    refine p_iload 24 c116_23 rfl rfl ?_
    refine p_icmp 29 27 c116_24 rfl rfl (yc_ne (hR.rg _ _) gx2) (fun hb3418 k3419 hk3419 => ?_) (fun hb3418 k3420 hk3420 => ?_)
    · have hX3421 := hX3416.trans (if_neg hb3418)
      refine p_iinc 32 c116_29 rfl rfl rfl ?_
      refine p_gotoD 2 c116_32 rfl (fun k3422 hk3422 => ?_)
      exact Hn _ _ hX3421 (rg_wr _) _ (by omega)
    · have hX3423 := hX3416.trans (if_pos (Classical.not_not.mp hb3418))
      refine p_iload 28 c116_27 rfl rfl ?_
      exact p_ireturn c116_28 (Hr _ hX3423 gx3 _)
def F116 (f : Nat) (x1 : Int) (x2 : Int) (m : yM) : Option Int := (bQ (ploop (fun (l : Int) => B116_2 f x1 x2 l m) f 0) (fun l3424 => (some ((-1)))) (fun r => some r))
set_option maxRecDepth 100000 in
theorem d116 {L : Nat} {xs : Nat → Int32} {k d n : Nat} {c : yS3} {f : Nat} {x1 : Int} {x2 : Int} {m : yM} (hk : k ≤ f) (gx1 : rg x1) (gx2 : rg x2) (hR : RM c m) : PC (gZ L xs) k d 116 [.ref 376, yI x1, yI x2] m n (qO m (F116 f x1 x2 m)) := by
  have hX : F116 f x1 x2 m = F116 f x1 x2 m := rfl
  have Hr : ∀ r, F116 f x1 x2 m = some r → rg r → ∀ n' : Nat, (qO m (F116 f x1 x2 m)) (.inl (some (yI r))) m n' := fun r e h n' => ⟨r, rfl, h, rfl, e⟩
  refine PC.mk [some (.ref 376), some (yI x1), some (yI x2), none] kn116 rfl ?_
  refine p_iconst 1 c116_0 rfl ?_
  refine p_istore 2 c116_1 rfl rfl ?_
  refine PW.ploop (K := k) (pce := 35) (fun (l : Int) => B116_2 f x1 x2 l m) (fun (l : Int) j => [some (.ref 376), some (yI x1), some (yI x2), some (yI l)]) (fun (l : Int) => rg l) (fun r' => rg r' → ∀ n' : Nat, (qO m (F116 f x1 x2 m)) (.inl (some (yI r'))) m n') (fun k' hk' l j n' hl Hn' He' Hr' => tB116_2 (f := f) (by omega) gx1 gx2 hl hR (fun y0 n2 e h0 => Hn' y0 (fun q => ([none, none, none, none] : List (Option Value)).getD q none) n2 e h0) (fun y0 n2 e h0 => He' y0 (fun q => ([none, none, none, none] : List (Option Value)).getD q none) n2 e h0) Hr') f k (by omega) (Nat.le_refl _) 0 (fun q => ([some (.ref 376), some (yI x1), some (yI x2), some (yI 0)] : xL).getD q none) _ (rgD rfl) (fun l3424 j3427 n3429 e3426 hl3425 k3428 hk3428 => ?_) (fun r' e' => ?_)
  · have hX3430 := hX.trans (bQ_l e3426)
    refine p_iconst 36 c116_35 rfl ?_
    exact p_ireturn c116_36 (Hr _ hX3430 (rgD rfl) _)
  · exact Hr r' (hX.trans (bQ_r e'))
def B119_161 (f : Nat) (x1 : Int) (x5 : Int) (m : yM) : Option ((Int × yM) ⊕ ((Int × yM) ⊕ (Unit × yM))) := (if x5 < 8 then (some (.inl ((wr (x5 + 1)), yup m 393 (wr ((wr ((wr (48 * x1)) + (wr (8 * (m 383 x1.toNat))))) + x5)).toNat 0))) else (some (.inr (.inl (x5, m)))))
set_option maxRecDepth 100000 in
theorem tB119_161 {L : Nat} {xs : Nat → Int32} {Q : xO → yM → Nat → Prop} {k d n : Nat} {c : yS3} {f : Nat} {x1 : Int} {x5 : Int} {m : yM} {j2 j3 j4 : Option Value} (hk : k ≤ f) (gx1 : rg x1) (gx5 : rg x5) (hR : RM c m) (Hn : ∀ (y0 : Int) (z0 z1 z2 : Option Value) (m' : yM) (n' : Nat), B119_161 f x1 x5 m = some (.inl (y0, m')) → rg y0 → RM c m' → ∀ k', k' < k → PW (gZ L xs) k' 119 d 161 [some (.ref 376), some (yI x1), z0, z1, z2, some (yI y0)] [] m' n' Q) (He : ∀ (y0 : Int) (z0 z1 z2 : Option Value) (m' : yM) (n' : Nat), B119_161 f x1 x5 m = some (.inr (.inl (y0, m'))) → rg y0 → RM c m' → ∀ k', k' ≤ k → PW (gZ L xs) k' 119 d 197 [some (.ref 376), some (yI x1), z0, z1, z2, some (yI y0)] [] m' n' Q) (Hr : ∀ m', B119_161 f x1 x5 m = some (.inr (.inr ((), m'))) → RM c m' → ∀ n', Q (.inl none) m' n') : PW (gZ L xs) k 119 d 161 [some (.ref 376), some (yI x1), j2, j3, j4, some (yI x5)] [] m n Q := by
  have hX : B119_161 f x1 x5 m = B119_161 f x1 x5 m := rfl
  refine p_iload 163 c119_161 rfl rfl ?_
  refine p_iconst 165 c119_163 rfl ?_
  refine p_icmp 197 168 c119_165 rfl rfl ((yc_ge gx5 (rgD rfl)).trans Int.not_lt.symm) (fun hb3329 k3330 hk3330 => ?_) (fun hb3329 k3331 hk3331 => ?_)
  · have hX3332 := hX.trans (if_neg hb3329)
    exact He _ _ _ _ _ _ hX3332 gx5 hR _ (by omega)
  · have hX3333 := hX.trans (if_pos (Classical.not_not.mp hb3329))
    refine p_aload 169 c119_168 rfl rfl ?_
    refine p_getR 172 c119_169 rfl kf376_30 ?_
    refine p_iconst 174 c119_172 rfl ?_
    refine p_iload 175 c119_174 rfl rfl ?_
    refine p_imul 176 c119_175 rfl ?_
    refine p_iconst 178 c119_176 rfl ?_
    refine p_aload 179 c119_178 rfl rfl ?_
    refine p_getR 182 c119_179 rfl kf376_20 ?_
    refine p_iload 183 c119_182 rfl rfl ?_
    refine p_iaX 184 (m 383 x1.toNat) c119_183 rfl ka383 gx1 rfl (fun hx3334 => ?_)
    refine p_imul 185 c119_184 rfl ?_
    refine p_iadd 186 c119_185 rfl ?_
    refine p_iload 188 c119_186 rfl rfl ?_
    refine p_iadd 189 c119_188 rfl ?_
    refine p_iconst 190 c119_189 rfl ?_
    refine p_iaS 191 c119_190 rfl ka393 (rg_wr _) 0 rfl (fun hx3335 => ?_)
    have hR3336 := hR.up 393 (wr ((wr ((wr (48 * x1)) + (wr (8 * (m 383 x1.toNat))))) + x5)).toNat (v := 0) (nselA (by decide)) (rgD rfl)
    refine p_iinc 194 c119_191 rfl rfl rfl ?_
    refine p_gotoD 161 c119_194 rfl (fun k3337 hk3337 => ?_)
    exact Hn _ _ _ _ _ _ hX3333 (rg_wr _) hR3336 _ (by omega)
def J119_123 (f : Nat) (x1 : Int) (x3 : Int) (x4 : Int) (m : yM) : Option yM := (bL (yloop (fun (l : Int) ml => B119_161 f x1 l ml) f 0 (yup (yup m 391 (wr ((wr (6 * x1)) + (m 383 x1.toNat))).toNat x3) 392 (wr ((wr (6 * x1)) + (m 383 x1.toNat))).toNat x4)) (fun l3338 m3344 => (bI (F118 f 123 (yup m3344 383 x1.toNat (wr ((m3344 383 x1.toNat) + 1)))) (fun r3365 m3367 => (if r3365 = 0 then (some m3367) else (some m3367))))) (fun _ mr => some mr))
set_option maxRecDepth 100000 in
theorem tJ119_123 {L : Nat} {xs : Nat → Int32} {Q : xO → yM → Nat → Prop} {k d n : Nat} {c : yS3} {f : Nat} {x1 : Int} {x3 : Int} {x4 : Int} {m : yM} {j2 j5 : Option Value} (hk : k ≤ f) (gx1 : rg x1) (gx3 : rg x3) (gx4 : rg x4) (hR : RM c m) (Hr : ∀ m', J119_123 f x1 x3 x4 m = some m' → RM c m' → ∀ n', Q (.inl none) m' n') : PW (gZ L xs) k 119 d 123 [some (.ref 376), some (yI x1), j2, some (yI x3), some (yI x4), j5] [] m n Q := by
  have hX : J119_123 f x1 x3 x4 m = J119_123 f x1 x3 x4 m := rfl
  refine p_aload 124 c119_123 rfl rfl ?_
  refine p_getR 127 c119_124 rfl kf376_28 ?_
  refine p_iconst 129 c119_127 rfl ?_
  refine p_iload 130 c119_129 rfl rfl ?_
  refine p_imul 131 c119_130 rfl ?_
  refine p_aload 132 c119_131 rfl rfl ?_
  refine p_getR 135 c119_132 rfl kf376_20 ?_
  refine p_iload 136 c119_135 rfl rfl ?_
  refine p_iaX 137 (m 383 x1.toNat) c119_136 rfl ka383 gx1 rfl (fun hx3323 => ?_)
  refine p_iadd 138 c119_137 rfl ?_
  refine p_iload 139 c119_138 rfl rfl ?_
  refine p_iaS 140 c119_139 rfl ka391 (rg_wr _) x3 (nar0 gx3) (fun hx3324 => ?_)
  have hR3325 := hR.up 391 (wr ((wr (6 * x1)) + (m 383 x1.toNat))).toNat (v := x3) (nselA (by decide)) gx3
  refine p_aload 141 c119_140 rfl rfl ?_
  refine p_getR 144 c119_141 rfl kf376_29 ?_
  refine p_iconst 146 c119_144 rfl ?_
  refine p_iload 147 c119_146 rfl rfl ?_
  refine p_imul 148 c119_147 rfl ?_
  refine p_aload 149 c119_148 rfl rfl ?_
  refine p_getR 152 c119_149 rfl kf376_20 ?_
  refine p_iload 153 c119_152 rfl rfl ?_
  refine p_iaX 154 (m 383 x1.toNat) c119_153 rfl ka383 gx1 (yup_na (by decide)) (fun hx3326 => ?_)
  refine p_iadd 155 c119_154 rfl ?_
  refine p_iload 157 c119_155 rfl rfl ?_
  refine p_iaS 158 c119_157 rfl ka392 (rg_wr _) x4 (nar0 gx4) (fun hx3327 => ?_)
  have hR3328 := hR3325.up 392 (wr ((wr (6 * x1)) + (m 383 x1.toNat))).toNat (v := x4) (nselA (by decide)) gx4
  refine p_iconst 159 c119_158 rfl ?_
  refine p_istore 161 c119_159 rfl rfl ?_
  refine PW.loop (K := k) (pce := 197) (fun (l : Int) ml => B119_161 f x1 l ml) (fun (l : Int) j => [some (.ref 376), some (yI x1), j 2, j 3, j 4, some (yI l)]) (fun (l : Int) => rg l) (RM c) (fun (r' : Unit) m' => RM c m' → ∀ n' : Nat, Q (.inl none) m' n') (fun k' hk' l j m' n' hl hI Hn' He' Hr' => tB119_161 (f := f) (by omega) gx1 hl hI (fun y0 y1 y2 y3 m2 n2 e h0 hR2 => Hn' y0 (fun q => ([none, none, y1, y2, y3, none] : List (Option Value)).getD q none) m2 n2 e h0 hR2) (fun y0 y1 y2 y3 m2 n2 e h0 hR2 => He' y0 (fun q => ([none, none, y1, y2, y3, none] : List (Option Value)).getD q none) m2 n2 e h0 hR2) (fun m2 e => Hr' () m2 e)) f k (by omega) (Nat.le_refl _) 0 (fun q => ([some (.ref 376), some (yI x1), j2, some (yI x3), some (yI x4), some (yI 0)] : xL).getD q none) _ _ (rgD rfl) hR3328 (fun l3338 j3341 m3344 n3343 e3340 hl3339 hR3345 k3342 hk3342 => ?_) (fun r' m' e' => ?_)
  · have hX3346 := hX.trans (bL_l e3340)
    refine p_aload 198 c119_197 rfl rfl ?_
    refine p_getR 201 c119_198 rfl kf376_20 ?_
    refine p_iload 202 c119_201 rfl rfl ?_
    refine p_dup2 203 c119_202 rfl ⟨rfl, rfl⟩ ?_
    refine p_iaX 204 (m3344 383 x1.toNat) c119_203 rfl ka383 gx1 rfl (fun hx3347 => ?_)
    refine p_iconst 205 c119_204 rfl ?_
    refine p_iadd 206 c119_205 rfl ?_
    refine p_iaS 207 c119_206 rfl ka383 gx1 (wr ((m3344 383 x1.toNat) + 1)) (nar0 (rg_wr _)) (fun hx3348 => ?_)
    have hR3349 := hR3345.up 383 x1.toNat (v := wr ((m3344 383 x1.toNat) + 1)) (nselA (by decide)) (rg_wr _)
    refine p_aload 208 c119_207 rfl rfl ?_
    refine p_iconst 210 c119_208 rfl ?_
    refine p_cS 213 [.ref 376, yI 123] [] c119_210 rfl rfl rfl (fun k' hk' d' => d118 (f := f) (by omega) (rgD rfl) hR3349) (fun r3365 m3367 hF3363 hg3364 hR3368 n3351 k3350 hk3350 => ?_)
    have hX3366 := hX3346.trans (bI_s hF3363)
    refine p_if 217 216 c119_213 rfl rfl (yz_ne hg3364) (fun hb3369 k3370 hk3370 => ?_) (fun hb3369 k3371 hk3371 => ?_)
    · have hX3372 := hX3366.trans (if_neg hb3369)
      exact p_return c119_217 (Hr _ hX3372 hR3368 _)
    · have hX3373 := hX3366.trans (if_pos (Classical.not_not.mp hb3369))
      exact p_return c119_216 (Hr _ hX3373 hR3368 _)
  · exact Hr m' (hX.trans (bL_r e'))
def J119_116 (f : Nat) (x1 : Int) (x3 : Int) (x4 : Int) (xs1 : Int) (m : yM) : Option yM := (bI (F105 f xs1 m) (fun r3398 m3400 => (if r3398 = 0 then (some m3400) else (J119_123 f x1 x3 x4 m3400))))
set_option maxRecDepth 100000 in
theorem tJ119_116 {L : Nat} {xs : Nat → Int32} {Q : xO → yM → Nat → Prop} {k d n : Nat} {c : yS3} {f : Nat} {x1 : Int} {x3 : Int} {x4 : Int} {xs1 : Int} {m : yM} {j2 j5 : Option Value} (hk : k ≤ f) (gx1 : rg x1) (gx3 : rg x3) (gx4 : rg x4) (gxs1 : rg xs1) (hR : RM c m) (Hr : ∀ m', J119_116 f x1 x3 x4 xs1 m = some m' → RM c m' → ∀ n', Q (.inl none) m' n') : PW (gZ L xs) k 119 d 116 [some (.ref 376), some (yI x1), j2, some (yI x3), some (yI x4), j5] [yI xs1, .ref 376] m n Q := by
  have hX : J119_116 f x1 x3 x4 xs1 m = J119_116 f x1 x3 x4 xs1 m := rfl
  refine p_cS 119 [.ref 376, yI xs1] [] c119_116 rfl rfl rfl (fun k' hk' d' => d105 (f := f) (by omega) gxs1 hR) (fun r3398 m3400 hF3396 hg3397 hR3401 n3395 k3394 hk3394 => ?_)
  have hX3399 := hX.trans (bI_s hF3396)
  refine p_if 123 122 c119_119 rfl rfl (yz_ne hg3397) (fun hb3402 k3403 hk3403 => ?_) (fun hb3402 k3404 hk3404 => ?_)
  · have hX3405 := hX3399.trans (if_neg hb3402)
    exact tJ119_123 (f := f) (by omega) gx1 gx3 gx4 hR3401 (fun m' e' => Hr m' (hX3405.trans e'))
  · have hX3406 := hX3399.trans (if_pos (Classical.not_not.mp hb3402))
    exact p_return c119_122 (Hr _ hX3406 hR3401 _)
def J119_103 (f : Nat) (x1 : Int) (x3 : Int) (xs0 : Int) (m : yM) : Option yM := (if xs0 < 0 then (J119_116 f x1 x3 xs0 0 m) else (J119_116 f x1 x3 xs0 1 m))
set_option maxRecDepth 100000 in
theorem tJ119_103 {L : Nat} {xs : Nat → Int32} {Q : xO → yM → Nat → Prop} {k d n : Nat} {c : yS3} {f : Nat} {x1 : Int} {x3 : Int} {xs0 : Int} {m : yM} {j2 j4 j5 : Option Value} (hk : k ≤ f) (gx1 : rg x1) (gx3 : rg x3) (gxs0 : rg xs0) (hR : RM c m) (Hr : ∀ m', J119_103 f x1 x3 xs0 m = some m' → RM c m' → ∀ n', Q (.inl none) m' n') : PW (gZ L xs) k 119 d 103 [some (.ref 376), some (yI x1), j2, some (yI x3), j4, j5] [yI xs0] m n Q := by
  have hX : J119_103 f x1 x3 xs0 m = J119_103 f x1 x3 xs0 m := rfl
  refine p_istore 105 c119_103 rfl rfl ?_
  refine p_aload 106 c119_105 rfl rfl ?_
  refine p_iload 108 c119_106 rfl rfl ?_
  refine p_if 115 111 c119_108 rfl rfl (yz_lt gxs0) (fun hb3390 k3391 hk3391 => ?_) (fun hb3390 k3392 hk3392 => ?_)
  · have hX3393 := hX.trans (if_pos hb3390)
    refine p_iconst 116 c119_115 rfl ?_
    exact tJ119_116 (f := f) (by omega) gx1 gx3 gxs0 (rgD rfl) hR (fun m' e' => Hr m' (hX3393.trans e'))
  · have hX3407 := hX.trans (if_neg hb3390)
    refine p_iconst 112 c119_111 rfl ?_
    refine p_goto 116 c119_112 rfl ?_
    exact tJ119_116 (f := f) (by omega) gx1 gx3 gxs0 (rgD rfl) hR (fun m' e' => Hr m' (hX3407.trans e'))
def J119_52 (f : Nat) (x1 : Int) (xs0 : Int) (m : yM) : Option yM := (bI (F105 f xs0 m) (fun r3298 m3300 => (if r3298 = 0 then (some m3300) else (if F117 58 m3300 = 0 then (J119_123 f x1 (m 376 4) ((-1)) m3300) else (bU (F99 f m3300) (fun m3381 => (if F115 m3381 = 0 then (J119_103 f x1 (m 376 4) ((-1)) m3381) else (bP (F116 f x1 (m3381 376 4) m3381) (fun r3433 => (J119_103 f x1 (m 376 4) r3433 m3381))))))))))
set_option maxRecDepth 100000 in
theorem tJ119_52 {L : Nat} {xs : Nat → Int32} {Q : xO → yM → Nat → Prop} {k d n : Nat} {c : yS3} {f : Nat} {x1 : Int} {xs0 : Int} {m : yM} {j2 j3 j4 j5 : Option Value} (hk : k ≤ f) (gx1 : rg x1) (gxs0 : rg xs0) (hR : RM c m) (Hr : ∀ m', J119_52 f x1 xs0 m = some m' → RM c m' → ∀ n', Q (.inl none) m' n') : PW (gZ L xs) k 119 d 52 [some (.ref 376), some (yI x1), j2, j3, j4, j5] [yI xs0] m n Q := by
  have hX : J119_52 f x1 xs0 m = J119_52 f x1 xs0 m := rfl
  refine p_istore 53 c119_52 rfl rfl ?_
  refine p_aload 54 c119_53 rfl rfl ?_
  refine p_getX 57 (m 376 4) c119_54 rfl kf376_4 rfl ?_
  refine p_istore 58 c119_57 rfl rfl ?_
  refine p_aload 59 c119_58 rfl rfl ?_
  refine p_iload 60 c119_59 rfl rfl ?_
  refine p_cS 63 [.ref 376, yI xs0] [] c119_60 rfl rfl rfl (fun k' hk' d' => d105 (f := f) (by omega) gxs0 hR) (fun r3298 m3300 hF3296 hg3297 hR3301 n3295 k3294 hk3294 => ?_)
  have hX3299 := hX.trans (bI_s hF3296)
  refine p_if 67 66 c119_63 rfl rfl (yz_ne hg3297) (fun hb3302 k3303 hk3303 => ?_) (fun hb3302 k3304 hk3304 => ?_)
  · have hX3305 := hX3299.trans (if_neg hb3302)
    refine p_iconst 68 c119_67 rfl ?_
    refine p_istore 70 c119_68 rfl rfl ?_
    refine p_aload 71 c119_70 rfl rfl ?_
    refine p_iconst 73 c119_71 rfl ?_
    refine p_cX 76 [.ref 376, yI 58] [] c119_73 rfl rfl rfl (fun k' hk' d' => d117 (rgD rfl) hR3301) (fun hg3318 n3307 k3306 hk3306 => ?_)
    refine p_if 123 79 c119_76 rfl rfl (yz_eq hg3318) (fun hb3319 k3320 hk3320 => ?_) (fun hb3319 k3321 hk3321 => ?_)
    · have hX3322 := hX3305.trans (if_pos hb3319)
      exact tJ119_123 (f := f) (by omega) gx1 (hR.rg _ _) (rgD rfl) hR3301 (fun m' e' => Hr m' (hX3322.trans e'))
    · have hX3374 := hX3305.trans (if_neg hb3319)
      refine p_aload 80 c119_79 rfl rfl ?_
      refine p_cV 83 [.ref 376] [] c119_80 rfl rfl rfl (fun k' hk' d' => d99 (f := f) (by omega) hR3301) (fun m3381 hF3377 hR3382 n3376 k3375 hk3375 => ?_)
      have hX3380 := hX3374.trans (bU_s hF3377)
      refine p_aload 84 c119_83 rfl rfl ?_
      refine p_cX 87 [.ref 376] [] c119_84 rfl rfl rfl (fun k' hk' d' => d115 hR3382) (fun hg3385 n3384 k3383 hk3383 => ?_)
      refine p_if 102 90 c119_87 rfl rfl (yz_eq hg3385) (fun hb3386 k3387 hk3387 => ?_) (fun hb3386 k3388 hk3388 => ?_)
      · have hX3389 := hX3380.trans (if_pos hb3386)
        refine p_iconst 103 c119_102 rfl ?_
        exact tJ119_103 (f := f) (by omega) gx1 (hR.rg _ _) (rgD rfl) hR3382 (fun m' e' => Hr m' (hX3389.trans e'))
      · have hX3408 := hX3380.trans (if_neg hb3386)
        refine p_aload 91 c119_90 rfl rfl ?_
        refine p_iload 92 c119_91 rfl rfl ?_
        refine p_aload 93 c119_92 rfl rfl ?_
        refine p_getX 96 (m3381 376 4) c119_93 rfl kf376_4 rfl ?_
        refine p_cO 99 [.ref 376, yI x1, yI (m3381 376 4)] [] c119_96 rfl rfl rfl (fun k' hk' d' => d116 (f := f) (by omega) gx1 (hR3382.rg _ _) hR3382) (fun r3433 hF3431 hg3432 n3410 k3409 hk3409 => ?_)
        have hX3434 := hX3408.trans (bP_s hF3431)
        refine p_goto 103 c119_99 rfl ?_
        exact tJ119_103 (f := f) (by omega) gx1 (hR.rg _ _) hg3432 hR3382 (fun m' e' => Hr m' (hX3434.trans e'))
  · have hX3435 := hX3299.trans (if_pos (Classical.not_not.mp hb3302))
    exact p_return c119_66 (Hr _ hX3435 hR3301 _)
def J119_51 (f : Nat) (x1 : Int) (m : yM) : Option yM := (J119_52 f x1 0 m)
set_option maxRecDepth 100000 in
theorem tJ119_51 {L : Nat} {xs : Nat → Int32} {Q : xO → yM → Nat → Prop} {k d n : Nat} {c : yS3} {f : Nat} {x1 : Int} {m : yM} {j2 j3 j4 j5 : Option Value} (hk : k ≤ f) (gx1 : rg x1) (hR : RM c m) (Hr : ∀ m', J119_51 f x1 m = some m' → RM c m' → ∀ n', Q (.inl none) m' n') : PW (gZ L xs) k 119 d 51 [some (.ref 376), some (yI x1), j2, j3, j4, j5] [] m n Q := by
  have hX : J119_51 f x1 m = J119_51 f x1 m := rfl
  refine p_iconst 52 c119_51 rfl ?_
  exact tJ119_52 (f := f) (by omega) gx1 (rgD rfl) hR (fun m' e' => Hr m' (hX.trans e'))
def F119 (f : Nat) (m : yM) : Option yM := (bI (F105 f (F103 m) m) (fun r3140 m3142 => (if r3140 = 0 then (some m3142) else (if F115 m3142 = 0 then (J119_51 f (F96 m) m3142) else (if m3142 383 (F96 m).toNat < 6 then (bP (F116 f (F96 m) (m3142 376 4) m3142) (fun r3447 => (if r3447 < 0 then (J119_52 f (F96 m) 1 m3142) else (J119_51 f (F96 m) m3142)))) else (J119_51 f (F96 m) m3142))))))
set_option maxRecDepth 100000 in
theorem d119 {L : Nat} {xs : Nat → Int32} {k d n : Nat} {c : yS3} {f : Nat} {m : yM} (hk : k ≤ f) (hR : RM c m) : PC (gZ L xs) k d 119 [.ref 376] m n (qV c (F119 f m)) := by
  have hX : F119 f m = F119 f m := rfl
  have Hr : ∀ m', F119 f m = some m' → RM c m' → ∀ n' : Nat, (qV c (F119 f m)) (.inl none) m' n' := fun m' e h n' => ⟨rfl, h, e⟩
  refine PC.mk [some (.ref 376), none, none, none, none, none] kn119 rfl ?_
  refine p_aload 1 c119_0 rfl rfl ?_
  refine p_cX 4 [.ref 376] [] c119_1 rfl rfl rfl (fun k' hk' d' => d96 hR) (fun hg3056 n3055 k3054 hk3054 => ?_)
  refine p_istore 5 c119_4 rfl rfl ?_
  refine p_aload 6 c119_5 rfl rfl ?_
  refine p_aload 7 c119_6 rfl rfl ?_
  refine p_cX 10 [.ref 376] [.ref 376] c119_7 rfl rfl rfl (fun k' hk' d' => d103 hR) (fun hg3098 n3058 k3057 hk3057 => ?_)
  refine p_cS 13 [.ref 376, yI (F103 m)] [] c119_10 rfl rfl rfl (fun k' hk' d' => d105 (f := f) (by omega) hg3098 hR) (fun r3140 m3142 hF3138 hg3139 hR3143 n3100 k3099 hk3099 => ?_)
  have hX3141 := hX.trans (bI_s hF3138)
  refine p_if 17 16 c119_13 rfl rfl (yz_ne hg3139) (fun hb3144 k3145 hk3145 => ?_) (fun hb3144 k3146 hk3146 => ?_)
  · have hX3147 := hX3141.trans (if_neg hb3144)
    refine p_aload 18 c119_17 rfl rfl ?_
    refine p_cX 21 [.ref 376] [] c119_18 rfl rfl rfl (fun k' hk' d' => d115 hR3143) (fun hg3289 n3149 k3148 hk3148 => ?_)
    refine p_if 51 24 c119_21 rfl rfl (yz_eq hg3289) (fun hb3290 k3291 hk3291 => ?_) (fun hb3290 k3292 hk3292 => ?_)
    · have hX3293 := hX3147.trans (if_pos hb3290)
      exact tJ119_51 (f := f) (by omega) hg3056 hR3143 (fun m' e' => Hr m' (hX3293.trans e'))
    · have hX3436 := hX3147.trans (if_neg hb3290)
      refine p_aload 25 c119_24 rfl rfl ?_
      refine p_getR 28 c119_25 rfl kf376_20 ?_
      refine p_iload 29 c119_28 rfl rfl ?_
      refine p_iaX 30 (m3142 383 (F96 m).toNat) c119_29 rfl ka383 hg3056 rfl (fun hx3437 => ?_)
      refine p_iconst 32 c119_30 rfl ?_
      refine p_icmp 51 35 c119_32 rfl rfl ((yc_ge (hR3143.rg _ _) (rgD rfl)).trans Int.not_lt.symm) (fun hb3438 k3439 hk3439 => ?_) (fun hb3438 k3440 hk3440 => ?_)
      · have hX3441 := hX3436.trans (if_neg hb3438)
        exact tJ119_51 (f := f) (by omega) hg3056 hR3143 (fun m' e' => Hr m' (hX3441.trans e'))
      · have hX3442 := hX3436.trans (if_pos (Classical.not_not.mp hb3438))
        refine p_aload 36 c119_35 rfl rfl ?_
        refine p_iload 37 c119_36 rfl rfl ?_
        refine p_aload 38 c119_37 rfl rfl ?_
        refine p_getX 41 (m3142 376 4) c119_38 rfl kf376_4 rfl ?_
        refine p_cO 44 [.ref 376, yI (F96 m), yI (m3142 376 4)] [] c119_41 rfl rfl rfl (fun k' hk' d' => d116 (f := f) (by omega) hg3056 (hR3143.rg _ _) hR3143) (fun r3447 hF3445 hg3446 n3444 k3443 hk3443 => ?_)
        have hX3448 := hX3442.trans (bP_s hF3445)
        refine p_if 51 47 c119_44 rfl rfl ((yz_ge hg3446).trans Int.not_lt.symm) (fun hb3449 k3450 hk3450 => ?_) (fun hb3449 k3451 hk3451 => ?_)
        · have hX3452 := hX3448.trans (if_neg hb3449)
          exact tJ119_51 (f := f) (by omega) hg3056 hR3143 (fun m' e' => Hr m' (hX3452.trans e'))
        · have hX3453 := hX3448.trans (if_pos (Classical.not_not.mp hb3449))
          refine p_iconst 48 c119_47 rfl ?_
          refine p_goto 52 c119_48 rfl ?_
          exact tJ119_52 (f := f) (by omega) hg3056 (rgD rfl) hR3143 (fun m' e' => Hr m' (hX3453.trans e'))
  · have hX3454 := hX3141.trans (if_pos (Classical.not_not.mp hb3144))
    exact p_return c119_16 (Hr _ hX3454 hR3143 _)
def F124 (f : Nat) (x1 : Int) (m : yM) : Option (Int × yM) := (some (wr ((wr ((m 389 (F96 m).toNat) + 1)) - 1), yup (yup m 380 (m 389 (F96 m).toNat).toNat x1) 389 (F96 m).toNat (wr ((m 389 (F96 m).toNat) + 1))))
set_option maxRecDepth 100000 in
theorem d124 {L : Nat} {xs : Nat → Int32} {k d n : Nat} {c : yS3} {f : Nat} {x1 : Int} {m : yM} (hk : k ≤ f) (gx1 : rg x1) (hR : RM c m) : PC (gZ L xs) k d 124 [.ref 376, yI x1] m n (qS c (F124 f x1 m)) := by
  have hX : F124 f x1 m = F124 f x1 m := rfl
  have Hr : ∀ r m', F124 f x1 m = some (r, m') → rg r → RM c m' → ∀ n' : Nat, (qS c (F124 f x1 m)) (.inl (some (yI r))) m' n' := fun r m' e h1 h2 n' => ⟨r, rfl, h1, h2, e⟩
  refine PC.mk [some (.ref 376), some (yI x1), none] kn124 rfl ?_
  refine p_aload 1 c124_0 rfl rfl ?_
  refine p_cX 4 [.ref 376] [] c124_1 rfl rfl rfl (fun k' hk' d' => d96 hR) (fun hg3545 n3544 k3543 hk3543 => ?_)
  refine p_istore 5 c124_4 rfl rfl ?_
  refine p_aload 6 c124_5 rfl rfl ?_
  refine p_getR 9 c124_6 rfl kf376_13 ?_
  refine p_aload 10 c124_9 rfl rfl ?_
  refine p_getR 13 c124_10 rfl kf376_26 ?_
  refine p_iload 14 c124_13 rfl rfl ?_
  refine p_iaX 15 (m 389 (F96 m).toNat) c124_14 rfl ka389 hg3545 rfl (fun hx3546 => ?_)
  refine p_iload 16 c124_15 rfl rfl ?_
  refine p_iaS 17 c124_16 rfl ka380 (hR.rg _ _) x1 (nar0 gx1) (fun hx3547 => ?_)
  have hR3548 := hR.up 380 (m 389 (F96 m).toNat).toNat (v := x1) (nselA (by decide)) gx1
  refine p_aload 18 c124_17 rfl rfl ?_
  refine p_getR 21 c124_18 rfl kf376_26 ?_
  refine p_iload 22 c124_21 rfl rfl ?_
  refine p_dup2 23 c124_22 rfl ⟨rfl, rfl⟩ ?_
  refine p_iaX 24 (m 389 (F96 m).toNat) c124_23 rfl ka389 hg3545 (yup_na (by decide)) (fun hx3549 => ?_)
  refine p_iconst 25 c124_24 rfl ?_
  refine p_iadd 26 c124_25 rfl ?_
  refine p_iaS 27 c124_26 rfl ka389 hg3545 (wr ((m 389 (F96 m).toNat) + 1)) (nar0 (rg_wr _)) (fun hx3550 => ?_)
  have hR3551 := hR3548.up 389 (F96 m).toNat (v := wr ((m 389 (F96 m).toNat) + 1)) (nselA (by decide)) (rg_wr _)
  refine p_aload 28 c124_27 rfl rfl ?_
  refine p_getR 31 c124_28 rfl kf376_26 ?_
  refine p_iload 32 c124_31 rfl rfl ?_
  refine p_iaX 33 (wr ((m 389 (F96 m).toNat) + 1)) c124_32 rfl ka389 hg3545 (yup_eq _ _ _ _) (fun hx3552 => ?_)
  refine p_iconst 34 c124_33 rfl ?_
  refine p_isub 35 c124_34 rfl ?_
  exact p_ireturn c124_35 (Hr _ _ hX (rg_wr _) hR3551 _)
def J125_130 (f : Nat) (x1 : Int) (x2 : Int) (x3 : Int) (m : yM) : Option ((Int × yM) ⊕ ((Int × yM) ⊕ (Unit × yM))) := (some (.inl (x3, m)))
set_option maxRecDepth 100000 in
theorem tJ125_130 {L : Nat} {xs : Nat → Int32} {Q : xO → yM → Nat → Prop} {k d n : Nat} {c : yS3} {f : Nat} {x1 : Int} {x2 : Int} {x3 : Int} {m : yM} {j4 j5 j6 : Option Value} (hk : k ≤ f) (gx1 : rg x1) (gx2 : rg x2) (gx3 : rg x3) (hR : RM c m) (Hn : ∀ (y0 : Int) (z0 z1 z2 : Option Value) (m' : yM) (n' : Nat), J125_130 f x1 x2 x3 m = some (.inl (y0, m')) → rg y0 → RM c m' → ∀ k', k' < k → PW (gZ L xs) k' 125 d 7 [some (.ref 376), some (yI x1), some (yI x2), some (yI y0), z0, z1, z2] [] m' n' Q) (He : ∀ (y0 : Int) (z0 z1 z2 : Option Value) (m' : yM) (n' : Nat), J125_130 f x1 x2 x3 m = some (.inr (.inl (y0, m'))) → rg y0 → RM c m' → ∀ k', k' ≤ k → PW (gZ L xs) k' 125 d 133 [some (.ref 376), some (yI x1), some (yI x2), some (yI y0), z0, z1, z2] [] m' n' Q) (Hr : ∀ m', J125_130 f x1 x2 x3 m = some (.inr (.inr ((), m'))) → RM c m' → ∀ n', Q (.inl none) m' n') : PW (gZ L xs) k 125 d 130 [some (.ref 376), some (yI x1), some (yI x2), some (yI x3), j4, j5, j6] [] m n Q := by
  have hX : J125_130 f x1 x2 x3 m = J125_130 f x1 x2 x3 m := rfl
  refine p_gotoD 7 c125_130 rfl (fun k3673 hk3673 => ?_)
  exact Hn _ _ _ _ _ _ hX gx3 hR _ (by omega)
def J125_121 (f : Nat) (x1 : Int) (x2 : Int) (xs0 : Int) (m : yM) : Option ((Int × yM) ⊕ ((Int × yM) ⊕ (Unit × yM))) := (if xs0 = 0 then (J125_130 f x1 x2 xs0 m) else (bU (F99 f m) (fun m3681 => (J125_130 f x1 x2 xs0 m3681))))
set_option maxRecDepth 100000 in
theorem tJ125_121 {L : Nat} {xs : Nat → Int32} {Q : xO → yM → Nat → Prop} {k d n : Nat} {c : yS3} {f : Nat} {x1 : Int} {x2 : Int} {xs0 : Int} {m : yM} {j3 j4 j5 j6 : Option Value} (hk : k ≤ f) (gx1 : rg x1) (gx2 : rg x2) (gxs0 : rg xs0) (hR : RM c m) (Hn : ∀ (y0 : Int) (z0 z1 z2 : Option Value) (m' : yM) (n' : Nat), J125_121 f x1 x2 xs0 m = some (.inl (y0, m')) → rg y0 → RM c m' → ∀ k', k' < k → PW (gZ L xs) k' 125 d 7 [some (.ref 376), some (yI x1), some (yI x2), some (yI y0), z0, z1, z2] [] m' n' Q) (He : ∀ (y0 : Int) (z0 z1 z2 : Option Value) (m' : yM) (n' : Nat), J125_121 f x1 x2 xs0 m = some (.inr (.inl (y0, m'))) → rg y0 → RM c m' → ∀ k', k' ≤ k → PW (gZ L xs) k' 125 d 133 [some (.ref 376), some (yI x1), some (yI x2), some (yI y0), z0, z1, z2] [] m' n' Q) (Hr : ∀ m', J125_121 f x1 x2 xs0 m = some (.inr (.inr ((), m'))) → RM c m' → ∀ n', Q (.inl none) m' n') : PW (gZ L xs) k 125 d 121 [some (.ref 376), some (yI x1), some (yI x2), j3, j4, j5, j6] [yI xs0] m n Q := by
  have hX : J125_121 f x1 x2 xs0 m = J125_121 f x1 x2 xs0 m := rfl
  refine p_istore 122 c125_121 rfl rfl ?_
  refine p_iload 123 c125_122 rfl rfl ?_
  refine p_if 130 126 c125_123 rfl rfl (yz_eq gxs0) (fun hb3669 k3670 hk3670 => ?_) (fun hb3669 k3671 hk3671 => ?_)
  · have hX3672 := hX.trans (if_pos hb3669)
    exact tJ125_130 (f := f) (by omega) gx1 gx2 gxs0 hR (fun y0 y1 y2 y3 m' n' e' h0 hR' k' hk' => Hn y0 y1 y2 y3 m' n' (hX3672.trans e') h0 hR' k' (by omega)) (fun y0 y1 y2 y3 m' n' e' h0 hR' k' hk' => He y0 y1 y2 y3 m' n' (hX3672.trans e') h0 hR' k' (by omega)) (fun m' e' => Hr m' (hX3672.trans e'))
  · have hX3674 := hX.trans (if_neg hb3669)
    refine p_aload 127 c125_126 rfl rfl ?_
    refine p_cV 130 [.ref 376] [] c125_127 rfl rfl rfl (fun k' hk' d' => d99 (f := f) (by omega) hR) (fun m3681 hF3677 hR3682 n3676 k3675 hk3675 => ?_)
    have hX3680 := hX3674.trans (bU_s hF3677)
    exact tJ125_130 (f := f) (by omega) gx1 gx2 gxs0 hR3682 (fun y0 y1 y2 y3 m' n' e' h0 hR' k' hk' => Hn y0 y1 y2 y3 m' n' (hX3680.trans e') h0 hR' k' (by omega)) (fun y0 y1 y2 y3 m' n' e' h0 hR' k' hk' => He y0 y1 y2 y3 m' n' (hX3680.trans e') h0 hR' k' (by omega)) (fun m' e' => Hr m' (hX3680.trans e'))
def J125_120 (f : Nat) (x1 : Int) (x2 : Int) (m : yM) : Option ((Int × yM) ⊕ ((Int × yM) ⊕ (Unit × yM))) := (J125_121 f x1 x2 0 m)
set_option maxRecDepth 100000 in
theorem tJ125_120 {L : Nat} {xs : Nat → Int32} {Q : xO → yM → Nat → Prop} {k d n : Nat} {c : yS3} {f : Nat} {x1 : Int} {x2 : Int} {m : yM} {j3 j4 j5 j6 : Option Value} (hk : k ≤ f) (gx1 : rg x1) (gx2 : rg x2) (hR : RM c m) (Hn : ∀ (y0 : Int) (z0 z1 z2 : Option Value) (m' : yM) (n' : Nat), J125_120 f x1 x2 m = some (.inl (y0, m')) → rg y0 → RM c m' → ∀ k', k' < k → PW (gZ L xs) k' 125 d 7 [some (.ref 376), some (yI x1), some (yI x2), some (yI y0), z0, z1, z2] [] m' n' Q) (He : ∀ (y0 : Int) (z0 z1 z2 : Option Value) (m' : yM) (n' : Nat), J125_120 f x1 x2 m = some (.inr (.inl (y0, m'))) → rg y0 → RM c m' → ∀ k', k' ≤ k → PW (gZ L xs) k' 125 d 133 [some (.ref 376), some (yI x1), some (yI x2), some (yI y0), z0, z1, z2] [] m' n' Q) (Hr : ∀ m', J125_120 f x1 x2 m = some (.inr (.inr ((), m'))) → RM c m' → ∀ n', Q (.inl none) m' n') : PW (gZ L xs) k 125 d 120 [some (.ref 376), some (yI x1), some (yI x2), j3, j4, j5, j6] [] m n Q := by
  have hX : J125_120 f x1 x2 m = J125_120 f x1 x2 m := rfl
  refine p_iconst 121 c125_120 rfl ?_
  exact tJ125_121 (f := f) (by omega) gx1 gx2 (rgD rfl) hR (fun y0 y1 y2 y3 m' n' e' h0 hR' k' hk' => Hn y0 y1 y2 y3 m' n' (hX.trans e') h0 hR' k' (by omega)) (fun y0 y1 y2 y3 m' n' e' h0 hR' k' hk' => He y0 y1 y2 y3 m' n' (hX.trans e') h0 hR' k' (by omega)) (fun m' e' => Hr m' (hX.trans e'))
def J125_61 (f : Nat) (x1 : Int) (x2 : Int) (xs0 : Int) (m : yM) : Option ((Int × yM) ⊕ ((Int × yM) ⊕ (Unit × yM))) := (bI (F105 f xs0 m) (fun r3645 m3647 => (if r3645 = 0 then (some (.inr (.inr ((), m3647)))) else (bI (F124 f (m 376 4) m3647) (fun r3657 m3659 => (if wr ((m3659 397 x1.toNat) + 1) = 1 then (if F117 44 (yup m3659 397 x1.toNat (wr ((m3659 397 x1.toNat) + 1))) = 0 then (J125_120 f x1 x2 (yup m3659 397 x1.toNat (wr ((m3659 397 x1.toNat) + 1)))) else (J125_121 f x1 x2 1 (yup m3659 397 x1.toNat (wr ((m3659 397 x1.toNat) + 1))))) else (J125_120 f x1 x2 (yup m3659 397 x1.toNat (wr ((m3659 397 x1.toNat) + 1))))))))))
set_option maxRecDepth 100000 in
theorem tJ125_61 {L : Nat} {xs : Nat → Int32} {Q : xO → yM → Nat → Prop} {k d n : Nat} {c : yS3} {f : Nat} {x1 : Int} {x2 : Int} {xs0 : Int} {m : yM} {j3 j4 j5 j6 : Option Value} (hk : k ≤ f) (gx1 : rg x1) (gx2 : rg x2) (gxs0 : rg xs0) (hR : RM c m) (Hn : ∀ (y0 : Int) (z0 z1 z2 : Option Value) (m' : yM) (n' : Nat), J125_61 f x1 x2 xs0 m = some (.inl (y0, m')) → rg y0 → RM c m' → ∀ k', k' < k → PW (gZ L xs) k' 125 d 7 [some (.ref 376), some (yI x1), some (yI x2), some (yI y0), z0, z1, z2] [] m' n' Q) (He : ∀ (y0 : Int) (z0 z1 z2 : Option Value) (m' : yM) (n' : Nat), J125_61 f x1 x2 xs0 m = some (.inr (.inl (y0, m'))) → rg y0 → RM c m' → ∀ k', k' ≤ k → PW (gZ L xs) k' 125 d 133 [some (.ref 376), some (yI x1), some (yI x2), some (yI y0), z0, z1, z2] [] m' n' Q) (Hr : ∀ m', J125_61 f x1 x2 xs0 m = some (.inr (.inr ((), m'))) → RM c m' → ∀ n', Q (.inl none) m' n') : PW (gZ L xs) k 125 d 61 [some (.ref 376), some (yI x1), some (yI x2), j3, j4, j5, j6] [yI xs0] m n Q := by
  have hX : J125_61 f x1 x2 xs0 m = J125_61 f x1 x2 xs0 m := rfl
  refine p_istore 63 c125_61 rfl rfl ?_
  refine p_aload 64 c125_63 rfl rfl ?_
  refine p_getX 67 (m 376 4) c125_64 rfl kf376_4 rfl ?_
  refine p_istore 69 c125_67 rfl rfl ?_
  refine p_aload 70 c125_69 rfl rfl ?_
  refine p_iload 72 c125_70 rfl rfl ?_
  refine p_cS 75 [.ref 376, yI xs0] [] c125_72 rfl rfl rfl (fun k' hk' d' => d105 (f := f) (by omega) gxs0 hR) (fun r3645 m3647 hF3643 hg3644 hR3648 n3642 k3641 hk3641 => ?_)
  have hX3646 := hX.trans (bI_s hF3643)
  refine p_if 79 78 c125_75 rfl rfl (yz_ne hg3644) (fun hb3649 k3650 hk3650 => ?_) (fun hb3649 k3651 hk3651 => ?_)
  · have hX3652 := hX3646.trans (if_neg hb3649)
    refine p_aload 80 c125_79 rfl rfl ?_
    refine p_iload 82 c125_80 rfl rfl ?_
    refine p_cS 85 [.ref 376, yI (m 376 4)] [] c125_82 rfl rfl rfl (fun k' hk' d' => d124 (f := f) (by omega) (hR.rg _ _) hR3648) (fun r3657 m3659 hF3655 hg3656 hR3660 n3654 k3653 hk3653 => ?_)
    have hX3658 := hX3652.trans (bI_s hF3655)
    refine p_istore 87 c125_85 rfl rfl ?_
    refine p_aload 88 c125_87 rfl rfl ?_
    refine p_getR 91 c125_88 rfl kf376_34 ?_
    refine p_iload 92 c125_91 rfl rfl ?_
    refine p_dup2 93 c125_92 rfl ⟨rfl, rfl⟩ ?_
    refine p_iaX 94 (m3659 397 x1.toNat) c125_93 rfl ka397 gx1 rfl (fun hx3661 => ?_)
    refine p_iconst 95 c125_94 rfl ?_
    refine p_iadd 96 c125_95 rfl ?_
    refine p_iaS 97 c125_96 rfl ka397 gx1 (wr ((m3659 397 x1.toNat) + 1)) (nar0 (rg_wr _)) (fun hx3662 => ?_)
    have hR3663 := hR3660.up 397 x1.toNat (v := wr ((m3659 397 x1.toNat) + 1)) (nselA (by decide)) (rg_wr _)
    refine p_aload 98 c125_97 rfl rfl ?_
    refine p_getR 101 c125_98 rfl kf376_34 ?_
    refine p_iload 102 c125_101 rfl rfl ?_
    refine p_iaX 103 (wr ((m3659 397 x1.toNat) + 1)) c125_102 rfl ka397 gx1 (yup_eq _ _ _ _) (fun hx3664 => ?_)
    refine p_iconst 104 c125_103 rfl ?_
    refine p_icmp 120 107 c125_104 rfl rfl (yc_ne (rg_wr _) (rgD rfl)) (fun hb3665 k3666 hk3666 => ?_) (fun hb3665 k3667 hk3667 => ?_)
    · have hX3668 := hX3658.trans (if_neg hb3665)
      exact tJ125_120 (f := f) (by omega) gx1 gx2 hR3663 (fun y0 y1 y2 y3 m' n' e' h0 hR' k' hk' => Hn y0 y1 y2 y3 m' n' (hX3668.trans e') h0 hR' k' (by omega)) (fun y0 y1 y2 y3 m' n' e' h0 hR' k' hk' => He y0 y1 y2 y3 m' n' (hX3668.trans e') h0 hR' k' (by omega)) (fun m' e' => Hr m' (hX3668.trans e'))
    · have hX3683 := hX3658.trans (if_pos (Classical.not_not.mp hb3665))
      refine p_aload 108 c125_107 rfl rfl ?_
      refine p_iconst 110 c125_108 rfl ?_
      refine p_cX 113 [.ref 376, yI 44] [] c125_110 rfl rfl rfl (fun k' hk' d' => d117 (rgD rfl) hR3663) (fun hg3686 n3685 k3684 hk3684 => ?_)
      refine p_if 120 116 c125_113 rfl rfl (yz_eq hg3686) (fun hb3687 k3688 hk3688 => ?_) (fun hb3687 k3689 hk3689 => ?_)
      · have hX3690 := hX3683.trans (if_pos hb3687)
        exact tJ125_120 (f := f) (by omega) gx1 gx2 hR3663 (fun y0 y1 y2 y3 m' n' e' h0 hR' k' hk' => Hn y0 y1 y2 y3 m' n' (hX3690.trans e') h0 hR' k' (by omega)) (fun y0 y1 y2 y3 m' n' e' h0 hR' k' hk' => He y0 y1 y2 y3 m' n' (hX3690.trans e') h0 hR' k' (by omega)) (fun m' e' => Hr m' (hX3690.trans e'))
      · have hX3691 := hX3683.trans (if_neg hb3687)
        refine p_iconst 117 c125_116 rfl ?_
        refine p_goto 121 c125_117 rfl ?_
        exact tJ125_121 (f := f) (by omega) gx1 gx2 (rgD rfl) hR3663 (fun y0 y1 y2 y3 m' n' e' h0 hR' k' hk' => Hn y0 y1 y2 y3 m' n' (hX3691.trans e') h0 hR' k' (by omega)) (fun y0 y1 y2 y3 m' n' e' h0 hR' k' hk' => He y0 y1 y2 y3 m' n' (hX3691.trans e') h0 hR' k' (by omega)) (fun m' e' => Hr m' (hX3691.trans e'))
  · have hX3692 := hX3646.trans (if_pos (Classical.not_not.mp hb3649))
    exact p_return c125_78 (Hr _ hX3692 hR3648 _)
def J125_60 (f : Nat) (x1 : Int) (x2 : Int) (m : yM) : Option ((Int × yM) ⊕ ((Int × yM) ⊕ (Unit × yM))) := (J125_61 f x1 x2 0 m)
set_option maxRecDepth 100000 in
theorem tJ125_60 {L : Nat} {xs : Nat → Int32} {Q : xO → yM → Nat → Prop} {k d n : Nat} {c : yS3} {f : Nat} {x1 : Int} {x2 : Int} {m : yM} {j3 j4 j5 j6 : Option Value} (hk : k ≤ f) (gx1 : rg x1) (gx2 : rg x2) (hR : RM c m) (Hn : ∀ (y0 : Int) (z0 z1 z2 : Option Value) (m' : yM) (n' : Nat), J125_60 f x1 x2 m = some (.inl (y0, m')) → rg y0 → RM c m' → ∀ k', k' < k → PW (gZ L xs) k' 125 d 7 [some (.ref 376), some (yI x1), some (yI x2), some (yI y0), z0, z1, z2] [] m' n' Q) (He : ∀ (y0 : Int) (z0 z1 z2 : Option Value) (m' : yM) (n' : Nat), J125_60 f x1 x2 m = some (.inr (.inl (y0, m'))) → rg y0 → RM c m' → ∀ k', k' ≤ k → PW (gZ L xs) k' 125 d 133 [some (.ref 376), some (yI x1), some (yI x2), some (yI y0), z0, z1, z2] [] m' n' Q) (Hr : ∀ m', J125_60 f x1 x2 m = some (.inr (.inr ((), m'))) → RM c m' → ∀ n', Q (.inl none) m' n') : PW (gZ L xs) k 125 d 60 [some (.ref 376), some (yI x1), some (yI x2), j3, j4, j5, j6] [] m n Q := by
  have hX : J125_60 f x1 x2 m = J125_60 f x1 x2 m := rfl
  refine p_iconst 61 c125_60 rfl ?_
  exact tJ125_61 (f := f) (by omega) gx1 gx2 (rgD rfl) hR (fun y0 y1 y2 y3 m' n' e' h0 hR' k' hk' => Hn y0 y1 y2 y3 m' n' (hX.trans e') h0 hR' k' (by omega)) (fun y0 y1 y2 y3 m' n' e' h0 hR' k' hk' => He y0 y1 y2 y3 m' n' (hX.trans e') h0 hR' k' (by omega)) (fun m' e' => Hr m' (hX.trans e'))
def J125_56 (f : Nat) (x1 : Int) (x2 : Int) (m : yM) : Option ((Int × yM) ⊕ ((Int × yM) ⊕ (Unit × yM))) := (J125_61 f x1 x2 1 m)
set_option maxRecDepth 100000 in
theorem tJ125_56 {L : Nat} {xs : Nat → Int32} {Q : xO → yM → Nat → Prop} {k d n : Nat} {c : yS3} {f : Nat} {x1 : Int} {x2 : Int} {m : yM} {j3 j4 j5 j6 : Option Value} (hk : k ≤ f) (gx1 : rg x1) (gx2 : rg x2) (hR : RM c m) (Hn : ∀ (y0 : Int) (z0 z1 z2 : Option Value) (m' : yM) (n' : Nat), J125_56 f x1 x2 m = some (.inl (y0, m')) → rg y0 → RM c m' → ∀ k', k' < k → PW (gZ L xs) k' 125 d 7 [some (.ref 376), some (yI x1), some (yI x2), some (yI y0), z0, z1, z2] [] m' n' Q) (He : ∀ (y0 : Int) (z0 z1 z2 : Option Value) (m' : yM) (n' : Nat), J125_56 f x1 x2 m = some (.inr (.inl (y0, m'))) → rg y0 → RM c m' → ∀ k', k' ≤ k → PW (gZ L xs) k' 125 d 133 [some (.ref 376), some (yI x1), some (yI x2), some (yI y0), z0, z1, z2] [] m' n' Q) (Hr : ∀ m', J125_56 f x1 x2 m = some (.inr (.inr ((), m'))) → RM c m' → ∀ n', Q (.inl none) m' n') : PW (gZ L xs) k 125 d 56 [some (.ref 376), some (yI x1), some (yI x2), j3, j4, j5, j6] [] m n Q := by
  have hX : J125_56 f x1 x2 m = J125_56 f x1 x2 m := rfl
  refine p_iconst 57 c125_56 rfl ?_
  refine p_goto 61 c125_57 rfl ?_
  exact tJ125_61 (f := f) (by omega) gx1 gx2 (rgD rfl) hR (fun y0 y1 y2 y3 m' n' e' h0 hR' k' hk' => Hn y0 y1 y2 y3 m' n' (hX.trans e') h0 hR' k' (by omega)) (fun y0 y1 y2 y3 m' n' e' h0 hR' k' hk' => He y0 y1 y2 y3 m' n' (hX.trans e') h0 hR' k' (by omega)) (fun m' e' => Hr m' (hX.trans e'))
def B125_7 (f : Nat) (x1 : Int) (x2 : Int) (x3 : Int) (m : yM) : Option ((Int × yM) ⊕ ((Int × yM) ⊕ (Unit × yM))) := (if x3 = 0 then (some (.inr (.inl (x3, m)))) else (if F115 m = 0 then (J125_60 f x1 x2 m) else (if m 389 x2.toNat < 48 then (if m 397 x1.toNat = 0 then (J125_56 f x1 x2 m) else (if m 380 (wr ((m 376 14) + 2)).toNat = m 376 4 then (J125_60 f x1 x2 m) else (J125_56 f x1 x2 m))) else (J125_60 f x1 x2 m))))
set_option maxRecDepth 100000 in
theorem tB125_7 {L : Nat} {xs : Nat → Int32} {Q : xO → yM → Nat → Prop} {k d n : Nat} {c : yS3} {f : Nat} {x1 : Int} {x2 : Int} {x3 : Int} {m : yM} {j4 j5 j6 : Option Value} (hk : k ≤ f) (gx1 : rg x1) (gx2 : rg x2) (gx3 : rg x3) (hR : RM c m) (Hn : ∀ (y0 : Int) (z0 z1 z2 : Option Value) (m' : yM) (n' : Nat), B125_7 f x1 x2 x3 m = some (.inl (y0, m')) → rg y0 → RM c m' → ∀ k', k' < k → PW (gZ L xs) k' 125 d 7 [some (.ref 376), some (yI x1), some (yI x2), some (yI y0), z0, z1, z2] [] m' n' Q) (He : ∀ (y0 : Int) (z0 z1 z2 : Option Value) (m' : yM) (n' : Nat), B125_7 f x1 x2 x3 m = some (.inr (.inl (y0, m'))) → rg y0 → RM c m' → ∀ k', k' ≤ k → PW (gZ L xs) k' 125 d 133 [some (.ref 376), some (yI x1), some (yI x2), some (yI y0), z0, z1, z2] [] m' n' Q) (Hr : ∀ m', B125_7 f x1 x2 x3 m = some (.inr (.inr ((), m'))) → RM c m' → ∀ n', Q (.inl none) m' n') : PW (gZ L xs) k 125 d 7 [some (.ref 376), some (yI x1), some (yI x2), some (yI x3), j4, j5, j6] [] m n Q := by
  have hX : B125_7 f x1 x2 x3 m = B125_7 f x1 x2 x3 m := rfl
  refine p_iload 8 c125_7 rfl rfl ?_
  refine p_if 133 11 c125_8 rfl rfl (yz_eq gx3) (fun hb3629 k3630 hk3630 => ?_) (fun hb3629 k3631 hk3631 => ?_)
  · have hX3632 := hX.trans (if_pos hb3629)
    exact He _ _ _ _ _ _ hX3632 gx3 hR _ (by omega)
  · have hX3633 := hX.trans (if_neg hb3629)
    refine p_aload 12 c125_11 rfl rfl ?_
    refine p_cX 15 [.ref 376] [] c125_12 rfl rfl rfl (fun k' hk' d' => d115 hR) (fun hg3636 n3635 k3634 hk3634 => ?_)
    refine p_if 60 18 c125_15 rfl rfl (yz_eq hg3636) (fun hb3637 k3638 hk3638 => ?_) (fun hb3637 k3639 hk3639 => ?_)
    · have hX3640 := hX3633.trans (if_pos hb3637)
      exact tJ125_60 (f := f) (by omega) gx1 gx2 hR (fun y0 y1 y2 y3 m' n' e' h0 hR' k' hk' => Hn y0 y1 y2 y3 m' n' (hX3640.trans e') h0 hR' k' (by omega)) (fun y0 y1 y2 y3 m' n' e' h0 hR' k' hk' => He y0 y1 y2 y3 m' n' (hX3640.trans e') h0 hR' k' (by omega)) (fun m' e' => Hr m' (hX3640.trans e'))
    · have hX3693 := hX3633.trans (if_neg hb3637)
      refine p_aload 19 c125_18 rfl rfl ?_
      refine p_getR 22 c125_19 rfl kf376_26 ?_
      refine p_iload 23 c125_22 rfl rfl ?_
      refine p_iaX 24 (m 389 x2.toNat) c125_23 rfl ka389 gx2 rfl (fun hx3694 => ?_)
      refine p_iconst 26 c125_24 rfl ?_
      refine p_icmp 60 29 c125_26 rfl rfl ((yc_ge (hR.rg _ _) (rgD rfl)).trans Int.not_lt.symm) (fun hb3695 k3696 hk3696 => ?_) (fun hb3695 k3697 hk3697 => ?_)
      · have hX3698 := hX3693.trans (if_neg hb3695)
        exact tJ125_60 (f := f) (by omega) gx1 gx2 hR (fun y0 y1 y2 y3 m' n' e' h0 hR' k' hk' => Hn y0 y1 y2 y3 m' n' (hX3698.trans e') h0 hR' k' (by omega)) (fun y0 y1 y2 y3 m' n' e' h0 hR' k' hk' => He y0 y1 y2 y3 m' n' (hX3698.trans e') h0 hR' k' (by omega)) (fun m' e' => Hr m' (hX3698.trans e'))
      · have hX3699 := hX3693.trans (if_pos (Classical.not_not.mp hb3695))
        refine p_aload 30 c125_29 rfl rfl ?_
        refine p_getR 33 c125_30 rfl kf376_34 ?_
        refine p_iload 34 c125_33 rfl rfl ?_
        refine p_iaX 35 (m 397 x1.toNat) c125_34 rfl ka397 gx1 rfl (fun hx3700 => ?_)
        refine p_if 56 38 c125_35 rfl rfl (yz_eq (hR.rg _ _)) (fun hb3701 k3702 hk3702 => ?_) (fun hb3701 k3703 hk3703 => ?_)
        · have hX3704 := hX3699.trans (if_pos hb3701)
          exact tJ125_56 (f := f) (by omega) gx1 gx2 hR (fun y0 y1 y2 y3 m' n' e' h0 hR' k' hk' => Hn y0 y1 y2 y3 m' n' (hX3704.trans e') h0 hR' k' (by omega)) (fun y0 y1 y2 y3 m' n' e' h0 hR' k' hk' => He y0 y1 y2 y3 m' n' (hX3704.trans e') h0 hR' k' (by omega)) (fun m' e' => Hr m' (hX3704.trans e'))
        · have hX3705 := hX3699.trans (if_neg hb3701)
          refine p_aload 39 c125_38 rfl rfl ?_
          refine p_getR 42 c125_39 rfl kf376_13 ?_
          refine p_aload 43 c125_42 rfl rfl ?_
          refine p_getX 46 (m 376 14) c125_43 rfl kf376_14 rfl ?_
          refine p_iconst 47 c125_46 rfl ?_
          refine p_iadd 48 c125_47 rfl ?_
          refine p_iaX 49 (m 380 (wr ((m 376 14) + 2)).toNat) c125_48 rfl ka380 (rg_wr _) rfl (fun hx3706 => ?_)
          refine p_aload 50 c125_49 rfl rfl ?_
          refine p_getX 53 (m 376 4) c125_50 rfl kf376_4 rfl ?_
          refine p_icmp 60 56 c125_53 rfl rfl (yc_eq (hR.rg _ _) (hR.rg _ _)) (fun hb3707 k3708 hk3708 => ?_) (fun hb3707 k3709 hk3709 => ?_)
          · have hX3710 := hX3705.trans (if_pos hb3707)
            exact tJ125_60 (f := f) (by omega) gx1 gx2 hR (fun y0 y1 y2 y3 m' n' e' h0 hR' k' hk' => Hn y0 y1 y2 y3 m' n' (hX3710.trans e') h0 hR' k' (by omega)) (fun y0 y1 y2 y3 m' n' e' h0 hR' k' hk' => He y0 y1 y2 y3 m' n' (hX3710.trans e') h0 hR' k' (by omega)) (fun m' e' => Hr m' (hX3710.trans e'))
          · have hX3711 := hX3705.trans (if_neg hb3707)
            exact tJ125_56 (f := f) (by omega) gx1 gx2 hR (fun y0 y1 y2 y3 m' n' e' h0 hR' k' hk' => Hn y0 y1 y2 y3 m' n' (hX3711.trans e') h0 hR' k' (by omega)) (fun y0 y1 y2 y3 m' n' e' h0 hR' k' hk' => He y0 y1 y2 y3 m' n' (hX3711.trans e') h0 hR' k' (by omega)) (fun m' e' => Hr m' (hX3711.trans e'))
def F125 (f : Nat) (x1 : Int) (m : yM) : Option yM := (bL (yloop (fun (l : Int) ml => B125_7 f x1 (F96 m) l ml) f 1 m) (fun l3712 m3718 => (some m3718)) (fun _ mr => some mr))
set_option maxRecDepth 100000 in
theorem d125 {L : Nat} {xs : Nat → Int32} {k d n : Nat} {c : yS3} {f : Nat} {x1 : Int} {m : yM} (hk : k ≤ f) (gx1 : rg x1) (hR : RM c m) : PC (gZ L xs) k d 125 [.ref 376, yI x1] m n (qV c (F125 f x1 m)) := by
  have hX : F125 f x1 m = F125 f x1 m := rfl
  have Hr : ∀ m', F125 f x1 m = some m' → RM c m' → ∀ n' : Nat, (qV c (F125 f x1 m)) (.inl none) m' n' := fun m' e h n' => ⟨rfl, h, e⟩
  refine PC.mk [some (.ref 376), some (yI x1), none, none, none, none, none] kn125 rfl ?_
  refine p_aload 1 c125_0 rfl rfl ?_
  refine p_cX 4 [.ref 376] [] c125_1 rfl rfl rfl (fun k' hk' d' => d96 hR) (fun hg3628 n3627 k3626 hk3626 => ?_)
  refine p_istore 5 c125_4 rfl rfl ?_
  refine p_iconst 6 c125_5 rfl ?_
  refine p_istore 7 c125_6 rfl rfl ?_
  refine PW.loop (K := k3626) (pce := 133) (fun (l : Int) ml => B125_7 f x1 (F96 m) l ml) (fun (l : Int) j => [some (.ref 376), some (yI x1), some (yI (F96 m)), some (yI l), j 4, j 5, j 6]) (fun (l : Int) => rg l) (RM c) (fun (r' : Unit) m' => RM c m' → ∀ n' : Nat, (qV c (F125 f x1 m)) (.inl none) m' n') (fun k' hk' l j m' n' hl hI Hn' He' Hr' => tB125_7 (f := f) (by omega) gx1 hg3628 hl hI (fun y0 y1 y2 y3 m2 n2 e h0 hR2 => Hn' y0 (fun q => ([none, none, none, none, y1, y2, y3] : List (Option Value)).getD q none) m2 n2 e h0 hR2) (fun y0 y1 y2 y3 m2 n2 e h0 hR2 => He' y0 (fun q => ([none, none, none, none, y1, y2, y3] : List (Option Value)).getD q none) m2 n2 e h0 hR2) (fun m2 e => Hr' () m2 e)) f k3626 (by omega) (Nat.le_refl _) 1 (fun q => ([some (.ref 376), some (yI x1), some (yI (F96 m)), some (yI 1), none, none, none] : xL).getD q none) _ _ (rgD rfl) hR (fun l3712 j3715 m3718 n3717 e3714 hl3713 hR3719 k3716 hk3716 => ?_) (fun r' m' e' => ?_)
  · have hX3720 := hX.trans (bL_l e3714)
    exact p_return c125_133 (Hr _ hX3720 hR3719 _)
  · exact Hr m' (hX.trans (bL_r e'))
def J123_58 (f : Nat) (x1 : Int) (x3 : Int) (x4 : Int) (x5 : Int) (x6 : Int) : Option (Int ⊕ (Int ⊕ Int)) := (some (.inl (wr (x6 + 1))))
set_option maxRecDepth 100000 in
theorem tJ123_58 {L : Nat} {xs : Nat → Int32} {Q : xO → yM → Nat → Prop} {k d n : Nat} {c : yS3} {f : Nat} {x1 : Int} {x3 : Int} {x4 : Int} {x5 : Int} {x6 : Int} {m : yM} {j2 : Option Value} (hk : k ≤ f) (gx1 : rg x1) (gx3 : rg x3) (gx4 : rg x4) (gx5 : rg x5) (gx6 : rg x6) (hR : RM c m) (Hn : ∀ (y0 : Int) (z0 : Option Value) (n' : Nat), J123_58 f x1 x3 x4 x5 x6 = some (.inl y0) → rg y0 → ∀ k', k' < k → PW (gZ L xs) k' 123 d 11 [some (.ref 376), some (yI x1), z0, some (yI x3), some (yI x4), some (yI x5), some (yI y0)] [] m n' Q) (He : ∀ (y0 : Int) (z0 : Option Value) (n' : Nat), J123_58 f x1 x3 x4 x5 x6 = some (.inr (.inl y0)) → rg y0 → ∀ k', k' ≤ k → PW (gZ L xs) k' 123 d 64 [some (.ref 376), some (yI x1), z0, some (yI x3), some (yI x4), some (yI x5), some (yI y0)] [] m n' Q) (Hr : ∀ r, J123_58 f x1 x3 x4 x5 x6 = some (.inr (.inr r)) → rg r → ∀ n', Q (.inl (some (yI r))) m n') : PW (gZ L xs) k 123 d 58 [some (.ref 376), some (yI x1), j2, some (yI x3), some (yI x4), some (yI x5), some (yI x6)] [] m n Q := by
  have hX : J123_58 f x1 x3 x4 x5 x6 = J123_58 f x1 x3 x4 x5 x6 := rfl
  refine p_iinc 61 c123_58 rfl rfl rfl ?_
  refine p_gotoD 11 c123_61 rfl (fun k3760 hk3760 => ?_)
  exact Hn _ _ _ hX (rg_wr _) _ (by omega)
def B123_11 (f : Nat) (x1 : Int) (x3 : Int) (x4 : Int) (x5 : Int) (x6 : Int) (m : yM) : Option (Int ⊕ (Int ⊕ Int)) := (if x6 < m 384 x1.toNat then (if m 396 (wr ((wr (10 * x1)) + x6)).toNat = x5 then (if m 395 (wr ((wr (10 * x1)) + x6)).toNat = x3 then (some (.inr (.inr x6))) else (J123_58 f x1 x3 x4 x5 x6)) else (J123_58 f x1 x3 x4 x5 x6)) else (some (.inr (.inl x6))))
set_option maxRecDepth 100000 in
theorem tB123_11 {L : Nat} {xs : Nat → Int32} {Q : xO → yM → Nat → Prop} {k d n : Nat} {c : yS3} {f : Nat} {x1 : Int} {x3 : Int} {x4 : Int} {x5 : Int} {x6 : Int} {m : yM} {j2 : Option Value} (hk : k ≤ f) (gx1 : rg x1) (gx3 : rg x3) (gx4 : rg x4) (gx5 : rg x5) (gx6 : rg x6) (hR : RM c m) (Hn : ∀ (y0 : Int) (z0 : Option Value) (n' : Nat), B123_11 f x1 x3 x4 x5 x6 m = some (.inl y0) → rg y0 → ∀ k', k' < k → PW (gZ L xs) k' 123 d 11 [some (.ref 376), some (yI x1), z0, some (yI x3), some (yI x4), some (yI x5), some (yI y0)] [] m n' Q) (He : ∀ (y0 : Int) (z0 : Option Value) (n' : Nat), B123_11 f x1 x3 x4 x5 x6 m = some (.inr (.inl y0)) → rg y0 → ∀ k', k' ≤ k → PW (gZ L xs) k' 123 d 64 [some (.ref 376), some (yI x1), z0, some (yI x3), some (yI x4), some (yI x5), some (yI y0)] [] m n' Q) (Hr : ∀ r, B123_11 f x1 x3 x4 x5 x6 m = some (.inr (.inr r)) → rg r → ∀ n', Q (.inl (some (yI r))) m n') : PW (gZ L xs) k 123 d 11 [some (.ref 376), some (yI x1), j2, some (yI x3), some (yI x4), some (yI x5), some (yI x6)] [] m n Q := by
  have hX : B123_11 f x1 x3 x4 x5 x6 m = B123_11 f x1 x3 x4 x5 x6 m := rfl
  refine p_iload 13 c123_11 rfl rfl ?_
  refine p_aload 14 c123_13 rfl rfl ?_
  refine p_getR 17 c123_14 rfl kf376_21 ?_
  refine p_iload 18 c123_17 rfl rfl ?_
  refine p_iaX 19 (m 384 x1.toNat) c123_18 rfl ka384 gx1 rfl (fun hx3749 => ?_)
  refine p_icmp 64 22 c123_19 rfl rfl ((yc_ge gx6 (hR.rg _ _)).trans Int.not_lt.symm) (fun hb3750 k3751 hk3751 => ?_) (fun hb3750 k3752 hk3752 => ?_)
  · have hX3753 := hX.trans (if_neg hb3750)
    exact He _ _ _ hX3753 gx6 _ (by omega)
  · have hX3754 := hX.trans (if_pos (Classical.not_not.mp hb3750))
    refine p_aload 23 c123_22 rfl rfl ?_
    refine p_getR 26 c123_23 rfl kf376_33 ?_
    refine p_iconst 28 c123_26 rfl ?_
    refine p_iload 29 c123_28 rfl rfl ?_
    refine p_imul 30 c123_29 rfl ?_
    refine p_iload 32 c123_30 rfl rfl ?_
    refine p_iadd 33 c123_32 rfl ?_
    refine p_iaX 34 (m 396 (wr ((wr (10 * x1)) + x6)).toNat) c123_33 rfl ka396 (rg_wr _) rfl (fun hx3755 => ?_)
    refine p_iload 36 c123_34 rfl rfl ?_
    refine p_icmp 58 39 c123_36 rfl rfl (yc_ne (hR.rg _ _) gx5) (fun hb3756 k3757 hk3757 => ?_) (fun hb3756 k3758 hk3758 => ?_)
    · have hX3759 := hX3754.trans (if_neg hb3756)
      exact tJ123_58 (f := f) (by omega) gx1 gx3 gx4 gx5 gx6 hR (fun y0 y1 n' e' h0 k' hk' => Hn y0 y1 n' (hX3759.trans e') h0 k' (by omega)) (fun y0 y1 n' e' h0 k' hk' => He y0 y1 n' (hX3759.trans e') h0 k' (by omega)) (fun r' e' => Hr r' (hX3759.trans e'))
    · have hX3761 := hX3754.trans (if_pos (Classical.not_not.mp hb3756))
      refine p_aload 40 c123_39 rfl rfl ?_
      refine p_getR 43 c123_40 rfl kf376_32 ?_
      refine p_iconst 45 c123_43 rfl ?_
      refine p_iload 46 c123_45 rfl rfl ?_
      refine p_imul 47 c123_46 rfl ?_
      refine p_iload 49 c123_47 rfl rfl ?_
      refine p_iadd 50 c123_49 rfl ?_
      refine p_iaX 51 (m 395 (wr ((wr (10 * x1)) + x6)).toNat) c123_50 rfl ka395 (rg_wr _) rfl (fun hx3762 => ?_)
      refine p_iload 52 c123_51 rfl rfl ?_
      refine p_icmp 58 55 c123_52 rfl rfl (yc_ne (hR.rg _ _) gx3) (fun hb3763 k3764 hk3764 => ?_) (fun hb3763 k3765 hk3765 => ?_)
      · have hX3766 := hX3761.trans (if_neg hb3763)
        exact tJ123_58 (f := f) (by omega) gx1 gx3 gx4 gx5 gx6 hR (fun y0 y1 n' e' h0 k' hk' => Hn y0 y1 n' (hX3766.trans e') h0 k' (by omega)) (fun y0 y1 n' e' h0 k' hk' => He y0 y1 n' (hX3766.trans e') h0 k' (by omega)) (fun r' e' => Hr r' (hX3766.trans e'))
      · have hX3767 := hX3761.trans (if_pos (Classical.not_not.mp hb3763))
        refine p_iload 57 c123_55 rfl rfl ?_
        exact p_ireturn c123_57 (Hr _ hX3767 gx6 _)
def J123_85 (f : Nat) (x1 : Int) (x3 : Int) (x4 : Int) (xs0 : Int) : Option (Int ⊕ (Int ⊕ Int)) := (some (.inl xs0))
set_option maxRecDepth 100000 in
theorem tJ123_85 {L : Nat} {xs : Nat → Int32} {Q : xO → yM → Nat → Prop} {k d n : Nat} {c : yS3} {f : Nat} {x1 : Int} {x3 : Int} {x4 : Int} {xs0 : Int} {m : yM} {j2 j5 j6 : Option Value} (hk : k ≤ f) (gx1 : rg x1) (gx3 : rg x3) (gx4 : rg x4) (gxs0 : rg xs0) (hR : RM c m) (Hn : ∀ (y0 : Int) (z0 z1 : Option Value) (n' : Nat), J123_85 f x1 x3 x4 xs0 = some (.inl y0) → rg y0 → ∀ k', k' < k → PW (gZ L xs) k' 123 d 3 [some (.ref 376), some (yI x1), z0, some (yI x3), some (yI x4), some (yI y0), z1] [] m n' Q) (He : ∀ (y0 : Int) (z0 z1 : Option Value) (n' : Nat), J123_85 f x1 x3 x4 xs0 = some (.inr (.inl y0)) → rg y0 → ∀ k', k' ≤ k → PW (gZ L xs) k' 123 d 90 [some (.ref 376), some (yI x1), z0, some (yI x3), some (yI x4), some (yI y0), z1] [] m n' Q) (Hr : ∀ r, J123_85 f x1 x3 x4 xs0 = some (.inr (.inr r)) → rg r → ∀ n', Q (.inl (some (yI r))) m n') : PW (gZ L xs) k 123 d 85 [some (.ref 376), some (yI x1), j2, some (yI x3), some (yI x4), j5, j6] [yI xs0] m n Q := by
  have hX : J123_85 f x1 x3 x4 xs0 = J123_85 f x1 x3 x4 xs0 := rfl
  refine p_istore 87 c123_85 rfl rfl ?_
  refine p_gotoD 3 c123_87 rfl (fun k3780 hk3780 => ?_)
  exact Hn _ _ _ _ hX gxs0 _ (by omega)
def B123_3 (f : Nat) (x1 : Int) (x3 : Int) (x4 : Int) (x5 : Int) (m : yM) : Option (Int ⊕ (Int ⊕ Int)) := (if x5 < 0 then (some (.inr (.inl x5))) else (bQ (ploop (fun (l : Int) => B123_11 f x1 x3 x4 x5 l m) f 0) (fun l3768 => (if x4 = 0 then (J123_85 f x1 x3 x4 (m 392 (wr ((wr (6 * x1)) + x5)).toNat)) else (J123_85 f x1 x3 x4 ((-1))))) (fun r => some (.inr (.inr r)))))
set_option maxRecDepth 100000 in
theorem tB123_3 {L : Nat} {xs : Nat → Int32} {Q : xO → yM → Nat → Prop} {k d n : Nat} {c : yS3} {f : Nat} {x1 : Int} {x3 : Int} {x4 : Int} {x5 : Int} {m : yM} {j2 j6 : Option Value} (hk : k ≤ f) (gx1 : rg x1) (gx3 : rg x3) (gx4 : rg x4) (gx5 : rg x5) (hR : RM c m) (Hn : ∀ (y0 : Int) (z0 z1 : Option Value) (n' : Nat), B123_3 f x1 x3 x4 x5 m = some (.inl y0) → rg y0 → ∀ k', k' < k → PW (gZ L xs) k' 123 d 3 [some (.ref 376), some (yI x1), z0, some (yI x3), some (yI x4), some (yI y0), z1] [] m n' Q) (He : ∀ (y0 : Int) (z0 z1 : Option Value) (n' : Nat), B123_3 f x1 x3 x4 x5 m = some (.inr (.inl y0)) → rg y0 → ∀ k', k' ≤ k → PW (gZ L xs) k' 123 d 90 [some (.ref 376), some (yI x1), z0, some (yI x3), some (yI x4), some (yI y0), z1] [] m n' Q) (Hr : ∀ r, B123_3 f x1 x3 x4 x5 m = some (.inr (.inr r)) → rg r → ∀ n', Q (.inl (some (yI r))) m n') : PW (gZ L xs) k 123 d 3 [some (.ref 376), some (yI x1), j2, some (yI x3), some (yI x4), some (yI x5), j6] [] m n Q := by
  have hX : B123_3 f x1 x3 x4 x5 m = B123_3 f x1 x3 x4 x5 m := rfl
  refine p_iload 5 c123_3 rfl rfl ?_
  refine p_if 90 8 c123_5 rfl rfl (yz_lt gx5) (fun hb3744 k3745 hk3745 => ?_) (fun hb3744 k3746 hk3746 => ?_)
  · have hX3747 := hX.trans (if_pos hb3744)
    exact He _ _ _ _ hX3747 gx5 _ (by omega)
  · have hX3748 := hX.trans (if_neg hb3744)
    refine p_iconst 9 c123_8 rfl ?_
    refine p_istore 11 c123_9 rfl rfl ?_
    refine PW.ploop (K := k3746) (pce := 64) (fun (l : Int) => B123_11 f x1 x3 x4 x5 l m) (fun (l : Int) j => [some (.ref 376), some (yI x1), j 2, some (yI x3), some (yI x4), some (yI x5), some (yI l)]) (fun (l : Int) => rg l) (fun r' => rg r' → ∀ n' : Nat, Q (.inl (some (yI r'))) m n') (fun k' hk' l j n' hl Hn' He' Hr' => tB123_11 (f := f) (by omega) gx1 gx3 gx4 gx5 hl hR (fun y0 y1 n2 e h0 => Hn' y0 (fun q => ([none, none, y1, none, none, none, none] : List (Option Value)).getD q none) n2 e h0) (fun y0 y1 n2 e h0 => He' y0 (fun q => ([none, none, y1, none, none, none, none] : List (Option Value)).getD q none) n2 e h0) Hr') f k3746 (by omega) (Nat.le_refl _) 0 (fun q => ([some (.ref 376), some (yI x1), j2, some (yI x3), some (yI x4), some (yI x5), some (yI 0)] : xL).getD q none) _ (rgD rfl) (fun l3768 j3771 n3773 e3770 hl3769 k3772 hk3772 => ?_) (fun r' e' => ?_)
    · have hX3774 := hX3748.trans (bQ_l e3770)
      refine p_iload 66 c123_64 rfl rfl ?_
      refine p_if 73 69 c123_66 rfl rfl (yz_eq gx4) (fun hb3775 k3776 hk3776 => ?_) (fun hb3775 k3777 hk3777 => ?_)
      · have hX3778 := hX3774.trans (if_pos hb3775)
        refine p_aload 74 c123_73 rfl rfl ?_
        refine p_getR 77 c123_74 rfl kf376_29 ?_
        refine p_iconst 79 c123_77 rfl ?_
        refine p_iload 80 c123_79 rfl rfl ?_
        refine p_imul 81 c123_80 rfl ?_
        refine p_iload 83 c123_81 rfl rfl ?_
        refine p_iadd 84 c123_83 rfl ?_
        refine p_iaX 85 (m 392 (wr ((wr (6 * x1)) + x5)).toNat) c123_84 rfl ka392 (rg_wr _) rfl (fun hx3779 => ?_)
        exact tJ123_85 (f := f) (by omega) gx1 gx3 gx4 (hR.rg _ _) hR (fun y0 y1 y2 n' e' h0 k' hk' => Hn y0 y1 y2 n' (hX3778.trans e') h0 k' (by omega)) (fun y0 y1 y2 n' e' h0 k' hk' => He y0 y1 y2 n' (hX3778.trans e') h0 k' (by omega)) (fun r' e' => Hr r' (hX3778.trans e'))
      · have hX3781 := hX3774.trans (if_neg hb3775)
        refine p_iconst 70 c123_69 rfl ?_
        refine p_goto 85 c123_70 rfl ?_
        exact tJ123_85 (f := f) (by omega) gx1 gx3 gx4 (rgD rfl) hR (fun y0 y1 y2 n' e' h0 k' hk' => Hn y0 y1 y2 n' (hX3781.trans e') h0 k' (by omega)) (fun y0 y1 y2 n' e' h0 k' hk' => He y0 y1 y2 n' (hX3781.trans e') h0 k' (by omega)) (fun r' e' => Hr r' (hX3781.trans e'))
    · exact Hr r' (hX3748.trans (bQ_r e'))
def F123 (f : Nat) (x1 : Int) (x2 : Int) (x3 : Int) (x4 : Int) (m : yM) : Option Int := (bQ (ploop (fun (l : Int) => B123_3 f x1 x3 x4 l m) f x2) (fun l3782 => (some ((-1)))) (fun r => some r))
set_option maxRecDepth 100000 in
theorem d123 {L : Nat} {xs : Nat → Int32} {k d n : Nat} {c : yS3} {f : Nat} {x1 : Int} {x2 : Int} {x3 : Int} {x4 : Int} {m : yM} (hk : k ≤ f) (gx1 : rg x1) (gx2 : rg x2) (gx3 : rg x3) (gx4 : rg x4) (hR : RM c m) : PC (gZ L xs) k d 123 [.ref 376, yI x1, yI x2, yI x3, yI x4] m n (qO m (F123 f x1 x2 x3 x4 m)) := by
  have hX : F123 f x1 x2 x3 x4 m = F123 f x1 x2 x3 x4 m := rfl
  have Hr : ∀ r, F123 f x1 x2 x3 x4 m = some r → rg r → ∀ n' : Nat, (qO m (F123 f x1 x2 x3 x4 m)) (.inl (some (yI r))) m n' := fun r e h n' => ⟨r, rfl, h, rfl, e⟩
  refine PC.mk [some (.ref 376), some (yI x1), some (yI x2), some (yI x3), some (yI x4), none, none] kn123 rfl ?_
  refine p_iload 1 c123_0 rfl rfl ?_
  refine p_istore 3 c123_1 rfl rfl ?_
  refine PW.ploop (K := k) (pce := 90) (fun (l : Int) => B123_3 f x1 x3 x4 l m) (fun (l : Int) j => [some (.ref 376), some (yI x1), j 2, some (yI x3), some (yI x4), some (yI l), j 6]) (fun (l : Int) => rg l) (fun r' => rg r' → ∀ n' : Nat, (qO m (F123 f x1 x2 x3 x4 m)) (.inl (some (yI r'))) m n') (fun k' hk' l j n' hl Hn' He' Hr' => tB123_3 (f := f) (by omega) gx1 gx3 gx4 hl hR (fun y0 y1 y2 n2 e h0 => Hn' y0 (fun q => ([none, none, y1, none, none, none, y2] : List (Option Value)).getD q none) n2 e h0) (fun y0 y1 y2 n2 e h0 => He' y0 (fun q => ([none, none, y1, none, none, none, y2] : List (Option Value)).getD q none) n2 e h0) Hr') f k (by omega) (Nat.le_refl _) x2 (fun q => ([some (.ref 376), some (yI x1), some (yI x2), some (yI x3), some (yI x4), some (yI x2), none] : xL).getD q none) _ gx2 (fun l3782 j3785 n3787 e3784 hl3783 k3786 hk3786 => ?_) (fun r' e' => ?_)
  · have hX3788 := hX.trans (bQ_l e3784)
    refine p_iconst 91 c123_90 rfl ?_
    exact p_ireturn c123_91 (Hr _ hX3788 (rgD rfl) _)
  · exact Hr r' (hX.trans (bQ_r e'))
def J126_193 (f : Nat) (m : yM) : Option yM := (if m 376 8 < 0 then (bI (F118 f 41 m) (fun r3601 m3603 => (if r3601 = 0 then (some m3603) else (bI (F118 f 123 m3603) (fun r3613 m3615 => (if r3613 = 0 then (some m3615) else (some m3615))))))) else (some m))
set_option maxRecDepth 100000 in
theorem tJ126_193 {L : Nat} {xs : Nat → Int32} {Q : xO → yM → Nat → Prop} {k d n : Nat} {c : yS3} {f : Nat} {m : yM} {j1 j2 j3 j4 j5 j6 : Option Value} (hk : k ≤ f) (hR : RM c m) (Hr : ∀ m', J126_193 f m = some m' → RM c m' → ∀ n', Q (.inl none) m' n') : PW (gZ L xs) k 126 d 193 [some (.ref 376), j1, j2, j3, j4, j5, j6] [] m n Q := by
  have hX : J126_193 f m = J126_193 f m := rfl
  refine p_aload 194 c126_193 rfl rfl ?_
  refine p_getX 197 (m 376 8) c126_194 rfl kf376_8 rfl ?_
  refine p_if 209 200 c126_197 rfl rfl ((yz_ge (hR.rg _ _)).trans Int.not_lt.symm) (fun hb3592 k3593 hk3593 => ?_) (fun hb3592 k3594 hk3594 => ?_)
  · have hX3595 := hX.trans (if_neg hb3592)
    exact p_return c126_209 (Hr _ hX3595 hR _)
  · have hX3596 := hX.trans (if_pos (Classical.not_not.mp hb3592))
    refine p_aload 201 c126_200 rfl rfl ?_
    refine p_iconst 203 c126_201 rfl ?_
    refine p_cS 206 [.ref 376, yI 41] [] c126_203 rfl rfl rfl (fun k' hk' d' => d118 (f := f) (by omega) (rgD rfl) hR) (fun r3601 m3603 hF3599 hg3600 hR3604 n3598 k3597 hk3597 => ?_)
    have hX3602 := hX3596.trans (bI_s hF3599)
    refine p_if 210 209 c126_206 rfl rfl (yz_ne hg3600) (fun hb3605 k3606 hk3606 => ?_) (fun hb3605 k3607 hk3607 => ?_)
    · have hX3608 := hX3602.trans (if_neg hb3605)
      refine p_aload 211 c126_210 rfl rfl ?_
      refine p_iconst 213 c126_211 rfl ?_
      refine p_cS 216 [.ref 376, yI 123] [] c126_213 rfl rfl rfl (fun k' hk' d' => d118 (f := f) (by omega) (rgD rfl) hR3604) (fun r3613 m3615 hF3611 hg3612 hR3616 n3610 k3609 hk3609 => ?_)
      have hX3614 := hX3608.trans (bI_s hF3611)
      refine p_if 220 219 c126_216 rfl rfl (yz_ne hg3612) (fun hb3617 k3618 hk3618 => ?_) (fun hb3617 k3619 hk3619 => ?_)
      · have hX3620 := hX3614.trans (if_neg hb3617)
        exact p_return c126_220 (Hr _ hX3620 hR3616 _)
      · have hX3621 := hX3614.trans (if_pos (Classical.not_not.mp hb3617))
        exact p_return c126_219 (Hr _ hX3621 hR3616 _)
    · have hX3622 := hX3602.trans (if_pos (Classical.not_not.mp hb3605))
      exact p_return c126_209 (Hr _ hX3622 hR3604 _)
def J126_66 (f : Nat) (x1 : Int) (x2 : Int) (xs0 : Int) (m : yM) : Option yM := (bI (F105 f xs0 m) (fun r3523 m3525 => (if r3523 = 0 then (some m3525) else (bI (F124 f ((-1)) (yup (yup (yup (yup m3525 395 (wr ((wr (10 * x1)) + (m3525 384 x1.toNat))).toNat (m 376 4)) 396 (wr ((wr (10 * x1)) + (m3525 384 x1.toNat))).toNat x2) 397 (wr ((wr (10 * x1)) + (m3525 384 x1.toNat))).toNat 0) 399 (wr ((wr (10 * x1)) + (m3525 384 x1.toNat))).toNat (m3525 390 x1.toNat))) (fun r3555 m3557 => (bI (F124 f ((-1)) (yup (yup m3557 376 14 r3555) 398 (wr ((wr (10 * x1)) + (m3525 384 x1.toNat))).toNat r3555)) (fun r3566 m3568 => (bI (F118 f 40 (yup m3568 384 x1.toNat (wr ((m3568 384 x1.toNat) + 1)))) (fun r3577 m3579 => (if r3577 = 0 then (some m3579) else (if F115 m3579 = 0 then (J126_193 f m3579) else (bU (F125 f (wr ((wr (10 * x1)) + (m3525 384 x1.toNat))) m3579) (fun m3725 => (J126_193 f m3725))))))))))))))
set_option maxRecDepth 100000 in
theorem tJ126_66 {L : Nat} {xs : Nat → Int32} {Q : xO → yM → Nat → Prop} {k d n : Nat} {c : yS3} {f : Nat} {x1 : Int} {x2 : Int} {xs0 : Int} {m : yM} {j3 j4 j5 j6 : Option Value} (hk : k ≤ f) (gx1 : rg x1) (gx2 : rg x2) (gxs0 : rg xs0) (hR : RM c m) (Hr : ∀ m', J126_66 f x1 x2 xs0 m = some m' → RM c m' → ∀ n', Q (.inl none) m' n') : PW (gZ L xs) k 126 d 66 [some (.ref 376), some (yI x1), some (yI x2), j3, j4, j5, j6] [yI xs0] m n Q := by
  have hX : J126_66 f x1 x2 xs0 m = J126_66 f x1 x2 xs0 m := rfl
  refine p_istore 67 c126_66 rfl rfl ?_
  refine p_aload 68 c126_67 rfl rfl ?_
  refine p_getX 71 (m 376 4) c126_68 rfl kf376_4 rfl ?_
  refine p_istore 73 c126_71 rfl rfl ?_
  refine p_aload 74 c126_73 rfl rfl ?_
  refine p_iload 75 c126_74 rfl rfl ?_
  refine p_cS 78 [.ref 376, yI xs0] [] c126_75 rfl rfl rfl (fun k' hk' d' => d105 (f := f) (by omega) gxs0 hR) (fun r3523 m3525 hF3521 hg3522 hR3526 n3520 k3519 hk3519 => ?_)
  have hX3524 := hX.trans (bI_s hF3521)
  refine p_if 82 81 c126_78 rfl rfl (yz_ne hg3522) (fun hb3527 k3528 hk3528 => ?_) (fun hb3527 k3529 hk3529 => ?_)
  · have hX3530 := hX3524.trans (if_neg hb3527)
    refine p_iconst 84 c126_82 rfl ?_
    refine p_iload 85 c126_84 rfl rfl ?_
    refine p_imul 86 c126_85 rfl ?_
    refine p_aload 87 c126_86 rfl rfl ?_
    refine p_getR 90 c126_87 rfl kf376_21 ?_
    refine p_iload 91 c126_90 rfl rfl ?_
    refine p_iaX 92 (m3525 384 x1.toNat) c126_91 rfl ka384 gx1 rfl (fun hx3531 => ?_)
    refine p_iadd 93 c126_92 rfl ?_
    refine p_istore 95 c126_93 rfl rfl ?_
    refine p_aload 96 c126_95 rfl rfl ?_
    refine p_getR 99 c126_96 rfl kf376_32 ?_
    refine p_iload 101 c126_99 rfl rfl ?_
    refine p_iload 103 c126_101 rfl rfl ?_
    refine p_iaS 104 c126_103 rfl ka395 (rg_wr _) (m 376 4) (nar0 (hR.rg _ _)) (fun hx3532 => ?_)
    have hR3533 := hR3526.up 395 (wr ((wr (10 * x1)) + (m3525 384 x1.toNat))).toNat (v := m 376 4) (nselA (by decide)) (hR.rg _ _)
    refine p_aload 105 c126_104 rfl rfl ?_
    refine p_getR 108 c126_105 rfl kf376_33 ?_
    refine p_iload 110 c126_108 rfl rfl ?_
    refine p_iload 111 c126_110 rfl rfl ?_
    refine p_iaS 112 c126_111 rfl ka396 (rg_wr _) x2 (nar0 gx2) (fun hx3534 => ?_)
    have hR3535 := hR3533.up 396 (wr ((wr (10 * x1)) + (m3525 384 x1.toNat))).toNat (v := x2) (nselA (by decide)) gx2
    refine p_aload 113 c126_112 rfl rfl ?_
    refine p_getR 116 c126_113 rfl kf376_34 ?_
    refine p_iload 118 c126_116 rfl rfl ?_
    refine p_iconst 119 c126_118 rfl ?_
    refine p_iaS 120 c126_119 rfl ka397 (rg_wr _) 0 (nar0 (rgD rfl)) (fun hx3536 => ?_)
    have hR3537 := hR3535.up 397 (wr ((wr (10 * x1)) + (m3525 384 x1.toNat))).toNat (v := 0) (nselA (by decide)) (rgD rfl)
    refine p_aload 121 c126_120 rfl rfl ?_
    refine p_getR 124 c126_121 rfl kf376_36 ?_
    refine p_iload 126 c126_124 rfl rfl ?_
    refine p_aload 127 c126_126 rfl rfl ?_
    refine p_getR 130 c126_127 rfl kf376_27 ?_
    refine p_iload 131 c126_130 rfl rfl ?_
    refine p_iaX 132 (m3525 390 x1.toNat) c126_131 rfl ka390 gx1 ((yup_na (by decide)).trans ((yup_na (by decide)).trans (yup_na (by decide)))) (fun hx3538 => ?_)
    refine p_iaS 133 c126_132 rfl ka399 (rg_wr _) (m3525 390 x1.toNat) (nar0 (hR3526.rg _ _)) (fun hx3539 => ?_)
    have hR3540 := hR3537.up 399 (wr ((wr (10 * x1)) + (m3525 384 x1.toNat))).toNat (v := m3525 390 x1.toNat) (nselA (by decide)) (hR3526.rg _ _)
    refine p_aload 134 c126_133 rfl rfl ?_
    refine p_aload 135 c126_134 rfl rfl ?_
    refine p_iconst 136 c126_135 rfl ?_
    refine p_cS 139 [.ref 376, yI ((-1))] [.ref 376] c126_136 rfl rfl rfl (fun k' hk' d' => d124 (f := f) (by omega) (rgD rfl) hR3540) (fun r3555 m3557 hF3553 hg3554 hR3558 n3542 k3541 hk3541 => ?_)
    have hX3556 := hX3530.trans (bI_s hF3553)
    refine p_putI 142 c126_139 rfl kf376_14 ?_
    have hR3559 := hR3558.up 376 14 (v := r3555) (nselD rfl) hg3554
    refine p_aload 143 c126_142 rfl rfl ?_
    refine p_getR 146 c126_143 rfl kf376_35 ?_
    refine p_iload 148 c126_146 rfl rfl ?_
    refine p_aload 149 c126_148 rfl rfl ?_
    refine p_getX 152 r3555 c126_149 rfl kf376_14 (yup_eq _ _ _ _) ?_
    refine p_iaS 153 c126_152 rfl ka398 (rg_wr _) r3555 (nar0 hg3554) (fun hx3560 => ?_)
    have hR3561 := hR3559.up 398 (wr ((wr (10 * x1)) + (m3525 384 x1.toNat))).toNat (v := r3555) (nselA (by decide)) hg3554
    refine p_aload 154 c126_153 rfl rfl ?_
    refine p_iconst 155 c126_154 rfl ?_
    refine p_cS 158 [.ref 376, yI ((-1))] [] c126_155 rfl rfl rfl (fun k' hk' d' => d124 (f := f) (by omega) (rgD rfl) hR3561) (fun r3566 m3568 hF3564 hg3565 hR3569 n3563 k3562 hk3562 => ?_)
    have hX3567 := hX3556.trans (bI_s hF3564)
    refine p_istore 160 c126_158 rfl rfl ?_
    refine p_aload 161 c126_160 rfl rfl ?_
    refine p_getR 164 c126_161 rfl kf376_21 ?_
    refine p_iload 165 c126_164 rfl rfl ?_
    refine p_dup2 166 c126_165 rfl ⟨rfl, rfl⟩ ?_
    refine p_iaX 167 (m3568 384 x1.toNat) c126_166 rfl ka384 gx1 rfl (fun hx3570 => ?_)
    refine p_iconst 168 c126_167 rfl ?_
    refine p_iadd 169 c126_168 rfl ?_
    refine p_iaS 170 c126_169 rfl ka384 gx1 (wr ((m3568 384 x1.toNat) + 1)) (nar0 (rg_wr _)) (fun hx3571 => ?_)
    have hR3572 := hR3569.up 384 x1.toNat (v := wr ((m3568 384 x1.toNat) + 1)) (nselA (by decide)) (rg_wr _)
    refine p_aload 171 c126_170 rfl rfl ?_
    refine p_iconst 173 c126_171 rfl ?_
    refine p_cS 176 [.ref 376, yI 40] [] c126_173 rfl rfl rfl (fun k' hk' d' => d118 (f := f) (by omega) (rgD rfl) hR3572) (fun r3577 m3579 hF3575 hg3576 hR3580 n3574 k3573 hk3573 => ?_)
    have hX3578 := hX3567.trans (bI_s hF3575)
    refine p_if 180 179 c126_176 rfl rfl (yz_ne hg3576) (fun hb3581 k3582 hk3582 => ?_) (fun hb3581 k3583 hk3583 => ?_)
    · have hX3584 := hX3578.trans (if_neg hb3581)
      refine p_aload 181 c126_180 rfl rfl ?_
      refine p_cX 184 [.ref 376] [] c126_181 rfl rfl rfl (fun k' hk' d' => d115 hR3580) (fun hg3587 n3586 k3585 hk3585 => ?_)
      refine p_if 193 187 c126_184 rfl rfl (yz_eq hg3587) (fun hb3588 k3589 hk3589 => ?_) (fun hb3588 k3590 hk3590 => ?_)
      · have hX3591 := hX3584.trans (if_pos hb3588)
        exact tJ126_193 (f := f) (by omega) hR3580 (fun m' e' => Hr m' (hX3591.trans e'))
      · have hX3623 := hX3584.trans (if_neg hb3588)
        refine p_aload 188 c126_187 rfl rfl ?_
        refine p_iload 190 c126_188 rfl rfl ?_
        refine p_cV 193 [.ref 376, yI (wr ((wr (10 * x1)) + (m3525 384 x1.toNat)))] [] c126_190 rfl rfl rfl (fun k' hk' d' => d125 (f := f) (by omega) (rg_wr _) hR3580) (fun m3725 hF3721 hR3726 n3625 k3624 hk3624 => ?_)
        have hX3724 := hX3623.trans (bU_s hF3721)
        exact tJ126_193 (f := f) (by omega) hR3726 (fun m' e' => Hr m' (hX3724.trans e'))
    · have hX3727 := hX3578.trans (if_pos (Classical.not_not.mp hb3581))
      exact p_return c126_179 (Hr _ hX3727 hR3580 _)
  · have hX3728 := hX3524.trans (if_pos (Classical.not_not.mp hb3527))
    exact p_return c126_81 (Hr _ hX3728 hR3526 _)
def J126_65 (f : Nat) (x1 : Int) (x2 : Int) (m : yM) : Option yM := (J126_66 f x1 x2 0 m)
set_option maxRecDepth 100000 in
theorem tJ126_65 {L : Nat} {xs : Nat → Int32} {Q : xO → yM → Nat → Prop} {k d n : Nat} {c : yS3} {f : Nat} {x1 : Int} {x2 : Int} {m : yM} {j3 j4 j5 j6 : Option Value} (hk : k ≤ f) (gx1 : rg x1) (gx2 : rg x2) (hR : RM c m) (Hr : ∀ m', J126_65 f x1 x2 m = some m' → RM c m' → ∀ n', Q (.inl none) m' n') : PW (gZ L xs) k 126 d 65 [some (.ref 376), some (yI x1), some (yI x2), j3, j4, j5, j6] [] m n Q := by
  have hX : J126_65 f x1 x2 m = J126_65 f x1 x2 m := rfl
  refine p_iconst 66 c126_65 rfl ?_
  exact tJ126_66 (f := f) (by omega) gx1 gx2 (rgD rfl) hR (fun m' e' => Hr m' (hX.trans e'))
def F126 (f : Nat) (m : yM) : Option yM := (bU (F99 f m) (fun m3510 => (if F115 m3510 = 0 then (J126_65 f (F96 m) (wr ((m 383 (F96 m).toNat) - 1)) m3510) else (if m3510 384 (F96 m).toNat < 10 then (if m3510 389 (F96 m).toNat < 47 then (bP (F123 f (F96 m) (wr ((m 383 (F96 m).toNat) - 1)) (m3510 376 4) 1 m3510) (fun r3791 => (if r3791 < 0 then (J126_66 f (F96 m) (wr ((m 383 (F96 m).toNat) - 1)) 1 m3510) else (J126_65 f (F96 m) (wr ((m 383 (F96 m).toNat) - 1)) m3510)))) else (J126_65 f (F96 m) (wr ((m 383 (F96 m).toNat) - 1)) m3510)) else (J126_65 f (F96 m) (wr ((m 383 (F96 m).toNat) - 1)) m3510)))))
set_option maxRecDepth 100000 in
theorem d126 {L : Nat} {xs : Nat → Int32} {k d n : Nat} {c : yS3} {f : Nat} {m : yM} (hk : k ≤ f) (hR : RM c m) : PC (gZ L xs) k d 126 [.ref 376] m n (qV c (F126 f m)) := by
  have hX : F126 f m = F126 f m := rfl
  have Hr : ∀ m', F126 f m = some m' → RM c m' → ∀ n' : Nat, (qV c (F126 f m)) (.inl none) m' n' := fun m' e h n' => ⟨rfl, h, e⟩
  refine PC.mk [some (.ref 376), none, none, none, none, none, none] kn126 rfl ?_
  refine p_aload 1 c126_0 rfl rfl ?_
  refine p_cX 4 [.ref 376] [] c126_1 rfl rfl rfl (fun k' hk' d' => d96 hR) (fun hg3502 n3501 k3500 hk3500 => ?_)
  refine p_istore 5 c126_4 rfl rfl ?_
  refine p_aload 6 c126_5 rfl rfl ?_
  refine p_getR 9 c126_6 rfl kf376_20 ?_
  refine p_iload 10 c126_9 rfl rfl ?_
  refine p_iaX 11 (m 383 (F96 m).toNat) c126_10 rfl ka383 hg3502 rfl (fun hx3503 => ?_)
  refine p_iconst 12 c126_11 rfl ?_
  refine p_isub 13 c126_12 rfl ?_
  refine p_istore 14 c126_13 rfl rfl ?_
  refine p_aload 15 c126_14 rfl rfl ?_
  refine p_cV 18 [.ref 376] [] c126_15 rfl rfl rfl (fun k' hk' d' => d99 (f := f) (by omega) hR) (fun m3510 hF3506 hR3511 n3505 k3504 hk3504 => ?_)
  have hX3509 := hX.trans (bU_s hF3506)
  refine p_aload 19 c126_18 rfl rfl ?_
  refine p_cX 22 [.ref 376] [] c126_19 rfl rfl rfl (fun k' hk' d' => d115 hR3511) (fun hg3514 n3513 k3512 hk3512 => ?_)
  refine p_if 65 25 c126_22 rfl rfl (yz_eq hg3514) (fun hb3515 k3516 hk3516 => ?_) (fun hb3515 k3517 hk3517 => ?_)
  · have hX3518 := hX3509.trans (if_pos hb3515)
    exact tJ126_65 (f := f) (by omega) hg3502 (rg_wr _) hR3511 (fun m' e' => Hr m' (hX3518.trans e'))
  · have hX3729 := hX3509.trans (if_neg hb3515)
    refine p_aload 26 c126_25 rfl rfl ?_
    refine p_getR 29 c126_26 rfl kf376_21 ?_
    refine p_iload 30 c126_29 rfl rfl ?_
    refine p_iaX 31 (m3510 384 (F96 m).toNat) c126_30 rfl ka384 hg3502 rfl (fun hx3730 => ?_)
    refine p_iconst 33 c126_31 rfl ?_
    refine p_icmp 65 36 c126_33 rfl rfl ((yc_ge (hR3511.rg _ _) (rgD rfl)).trans Int.not_lt.symm) (fun hb3731 k3732 hk3732 => ?_) (fun hb3731 k3733 hk3733 => ?_)
    · have hX3734 := hX3729.trans (if_neg hb3731)
      exact tJ126_65 (f := f) (by omega) hg3502 (rg_wr _) hR3511 (fun m' e' => Hr m' (hX3734.trans e'))
    · have hX3735 := hX3729.trans (if_pos (Classical.not_not.mp hb3731))
      refine p_aload 37 c126_36 rfl rfl ?_
      refine p_getR 40 c126_37 rfl kf376_26 ?_
      refine p_iload 41 c126_40 rfl rfl ?_
      refine p_iaX 42 (m3510 389 (F96 m).toNat) c126_41 rfl ka389 hg3502 rfl (fun hx3736 => ?_)
      refine p_iconst 44 c126_42 rfl ?_
      refine p_icmp 65 47 c126_44 rfl rfl ((yc_ge (hR3511.rg _ _) (rgD rfl)).trans Int.not_lt.symm) (fun hb3737 k3738 hk3738 => ?_) (fun hb3737 k3739 hk3739 => ?_)
      · have hX3740 := hX3735.trans (if_neg hb3737)
        exact tJ126_65 (f := f) (by omega) hg3502 (rg_wr _) hR3511 (fun m' e' => Hr m' (hX3740.trans e'))
      · have hX3741 := hX3735.trans (if_pos (Classical.not_not.mp hb3737))
        refine p_aload 48 c126_47 rfl rfl ?_
        refine p_iload 49 c126_48 rfl rfl ?_
        refine p_iload 50 c126_49 rfl rfl ?_
        refine p_aload 51 c126_50 rfl rfl ?_
        refine p_getX 54 (m3510 376 4) c126_51 rfl kf376_4 rfl ?_
        refine p_iconst 55 c126_54 rfl ?_
        refine p_cO 58 [.ref 376, yI (F96 m), yI (wr ((m 383 (F96 m).toNat) - 1)), yI (m3510 376 4), yI 1] [] c126_55 rfl rfl rfl (fun k' hk' d' => d123 (f := f) (by omega) hg3502 (rg_wr _) (hR3511.rg _ _) (rgD rfl) hR3511) (fun r3791 hF3789 hg3790 n3743 k3742 hk3742 => ?_)
        have hX3792 := hX3741.trans (bP_s hF3789)
        refine p_if 65 61 c126_58 rfl rfl ((yz_ge hg3790).trans Int.not_lt.symm) (fun hb3793 k3794 hk3794 => ?_) (fun hb3793 k3795 hk3795 => ?_)
        · have hX3796 := hX3792.trans (if_neg hb3793)
          exact tJ126_65 (f := f) (by omega) hg3502 (rg_wr _) hR3511 (fun m' e' => Hr m' (hX3796.trans e'))
        · have hX3797 := hX3792.trans (if_pos (Classical.not_not.mp hb3793))
          refine p_iconst 62 c126_61 rfl ?_
          refine p_goto 66 c126_62 rfl ?_
          exact tJ126_66 (f := f) (by omega) hg3502 (rg_wr _) (rgD rfl) hR3511 (fun m' e' => Hr m' (hX3797.trans e'))
def J130_64 (f : Nat) (x1 : Int) (x2 : Int) (x3 : Int) (m : yM) : Option (((Int × Int) × yM) ⊕ (((Int × Int) × yM) ⊕ (Int × yM))) := (some (.inl ((x2, wr (x3 + 1)), m)))
set_option maxRecDepth 100000 in
theorem tJ130_64 {L : Nat} {xs : Nat → Int32} {Q : xO → yM → Nat → Prop} {k d n : Nat} {c : yS3} {f : Nat} {x1 : Int} {x2 : Int} {x3 : Int} {m : yM} (hk : k ≤ f) (gx1 : rg x1) (gx2 : rg x2) (gx3 : rg x3) (hR : RM c m) (Hn : ∀ (y0 y1 : Int) (m' : yM) (n' : Nat), J130_64 f x1 x2 x3 m = some (.inl ((y0, y1), m')) → rg y0 → rg y1 → RM c m' → ∀ k', k' < k → PW (gZ L xs) k' 130 d 32 [some (.ref 376), some (yI x1), some (yI y0), some (yI y1)] [] m' n' Q) (He : ∀ (y0 y1 : Int) (m' : yM) (n' : Nat), J130_64 f x1 x2 x3 m = some (.inr (.inl ((y0, y1), m'))) → rg y0 → rg y1 → RM c m' → ∀ k', k' ≤ k → PW (gZ L xs) k' 130 d 70 [some (.ref 376), some (yI x1), some (yI y0), some (yI y1)] [] m' n' Q) (Hr : ∀ r m', J130_64 f x1 x2 x3 m = some (.inr (.inr (r, m'))) → rg r → RM c m' → ∀ n', Q (.inl (some (yI r))) m' n') : PW (gZ L xs) k 130 d 64 [some (.ref 376), some (yI x1), some (yI x2), some (yI x3)] [] m n Q := by
  have hX : J130_64 f x1 x2 x3 m = J130_64 f x1 x2 x3 m := rfl
  refine p_iinc 67 c130_64 rfl rfl rfl ?_
  refine p_gotoD 32 c130_67 rfl (fun k3897 hk3897 => ?_)
  exact Hn _ _ _ _ hX gx2 (rg_wr _) hR _ (by omega)
def B130_32 (f : Nat) (x1 : Int) (x2 : Int) (x3 : Int) (m : yM) : Option (((Int × Int) × yM) ⊕ (((Int × Int) × yM) ⊕ (Int × yM))) := (if x3 < m 389 x1.toNat then (if F115 m = 0 then (some (.inr (.inl ((x2, x3), m)))) else (if m 380 x3.toNat = m 376 4 then (J130_64 f x1 x3 x3 m) else (J130_64 f x1 x2 x3 m))) else (some (.inr (.inl ((x2, x3), m)))))
set_option maxRecDepth 100000 in
theorem tB130_32 {L : Nat} {xs : Nat → Int32} {Q : xO → yM → Nat → Prop} {k d n : Nat} {c : yS3} {f : Nat} {x1 : Int} {x2 : Int} {x3 : Int} {m : yM} (hk : k ≤ f) (gx1 : rg x1) (gx2 : rg x2) (gx3 : rg x3) (hR : RM c m) (Hn : ∀ (y0 y1 : Int) (m' : yM) (n' : Nat), B130_32 f x1 x2 x3 m = some (.inl ((y0, y1), m')) → rg y0 → rg y1 → RM c m' → ∀ k', k' < k → PW (gZ L xs) k' 130 d 32 [some (.ref 376), some (yI x1), some (yI y0), some (yI y1)] [] m' n' Q) (He : ∀ (y0 y1 : Int) (m' : yM) (n' : Nat), B130_32 f x1 x2 x3 m = some (.inr (.inl ((y0, y1), m'))) → rg y0 → rg y1 → RM c m' → ∀ k', k' ≤ k → PW (gZ L xs) k' 130 d 70 [some (.ref 376), some (yI x1), some (yI y0), some (yI y1)] [] m' n' Q) (Hr : ∀ r m', B130_32 f x1 x2 x3 m = some (.inr (.inr (r, m'))) → rg r → RM c m' → ∀ n', Q (.inl (some (yI r))) m' n') : PW (gZ L xs) k 130 d 32 [some (.ref 376), some (yI x1), some (yI x2), some (yI x3)] [] m n Q := by
  have hX : B130_32 f x1 x2 x3 m = B130_32 f x1 x2 x3 m := rfl
  refine p_iload 33 c130_32 rfl rfl ?_
  refine p_aload 34 c130_33 rfl rfl ?_
  refine p_getR 37 c130_34 rfl kf376_26 ?_
  refine p_iload 38 c130_37 rfl rfl ?_
  refine p_iaX 39 (m 389 x1.toNat) c130_38 rfl ka389 gx1 rfl (fun hx3878 => ?_)
  refine p_icmp 70 42 c130_39 rfl rfl ((yc_ge gx3 (hR.rg _ _)).trans Int.not_lt.symm) (fun hb3879 k3880 hk3880 => ?_) (fun hb3879 k3881 hk3881 => ?_)
  · have hX3882 := hX.trans (if_neg hb3879)
    exact He _ _ _ _ hX3882 gx2 gx3 hR _ (by omega)
  · have hX3883 := hX.trans (if_pos (Classical.not_not.mp hb3879))
    refine p_aload 43 c130_42 rfl rfl ?_
    refine p_cX 46 [.ref 376] [] c130_43 rfl rfl rfl (fun k' hk' d' => d115 hR) (fun hg3886 n3885 k3884 hk3884 => ?_)
    refine p_if 70 49 c130_46 rfl rfl (yz_eq hg3886) (fun hb3887 k3888 hk3888 => ?_) (fun hb3887 k3889 hk3889 => ?_)
    · have hX3890 := hX3883.trans (if_pos hb3887)
      exact He _ _ _ _ hX3890 gx2 gx3 hR _ (by omega)
    · have hX3891 := hX3883.trans (if_neg hb3887)
      refine p_aload 50 c130_49 rfl rfl ?_
      refine p_getR 53 c130_50 rfl kf376_13 ?_
      refine p_iload 54 c130_53 rfl rfl ?_
      refine p_iaX 55 (m 380 x3.toNat) c130_54 rfl ka380 gx3 rfl (fun hx3892 => ?_)
      refine p_aload 56 c130_55 rfl rfl ?_
      refine p_getX 59 (m 376 4) c130_56 rfl kf376_4 rfl ?_
      refine p_icmp 64 62 c130_59 rfl rfl (yc_ne (hR.rg _ _) (hR.rg _ _)) (fun hb3893 k3894 hk3894 => ?_) (fun hb3893 k3895 hk3895 => ?_)
      · have hX3896 := hX3891.trans (if_neg hb3893)
        exact tJ130_64 (f := f) (by omega) gx1 gx2 gx3 hR (fun y0 y1 m' n' e' h0 h1 hR' k' hk' => Hn y0 y1 m' n' (hX3896.trans e') h0 h1 hR' k' (by omega)) (fun y0 y1 m' n' e' h0 h1 hR' k' hk' => He y0 y1 m' n' (hX3896.trans e') h0 h1 hR' k' (by omega)) (fun r' m' e' => Hr r' m' (hX3896.trans e'))
      · have hX3898 := hX3891.trans (if_pos (Classical.not_not.mp hb3893))
        refine p_iload 63 c130_62 rfl rfl ?_
        refine p_istore 64 c130_63 rfl rfl ?_
        exact tJ130_64 (f := f) (by omega) gx1 gx3 gx3 hR (fun y0 y1 m' n' e' h0 h1 hR' k' hk' => Hn y0 y1 m' n' (hX3898.trans e') h0 h1 hR' k' (by omega)) (fun y0 y1 m' n' e' h0 h1 hR' k' hk' => He y0 y1 m' n' (hX3898.trans e') h0 h1 hR' k' (by omega)) (fun r' m' e' => Hr r' m' (hX3898.trans e'))
def J130_115 (f : Nat) (x2 : Int) (x3 : Int) (m : yM) : Option (Int × yM) := (bI (F105 f x3 m) (fun r3923 m3925 => (if r3923 = 0 then (some ((-1), m3925)) else (some (x2, m3925)))))
set_option maxRecDepth 100000 in
theorem tJ130_115 {L : Nat} {xs : Nat → Int32} {Q : xO → yM → Nat → Prop} {k d n : Nat} {c : yS3} {f : Nat} {x2 : Int} {x3 : Int} {m : yM} {j1 : Option Value} (hk : k ≤ f) (gx2 : rg x2) (gx3 : rg x3) (hR : RM c m) (Hr : ∀ r m', J130_115 f x2 x3 m = some (r, m') → rg r → RM c m' → ∀ n', Q (.inl (some (yI r))) m' n') : PW (gZ L xs) k 130 d 115 [some (.ref 376), j1, some (yI x2), some (yI x3)] [] m n Q := by
  have hX : J130_115 f x2 x3 m = J130_115 f x2 x3 m := rfl
  refine p_aload 116 c130_115 rfl rfl ?_
  refine p_iload 117 c130_116 rfl rfl ?_
  refine p_cS 120 [.ref 376, yI x3] [] c130_117 rfl rfl rfl (fun k' hk' d' => d105 (f := f) (by omega) gx3 hR) (fun r3923 m3925 hF3921 hg3922 hR3926 n3920 k3919 hk3919 => ?_)
  have hX3924 := hX.trans (bI_s hF3921)
  refine p_if 127 123 c130_120 rfl rfl (yz_eq hg3922) (fun hb3927 k3928 hk3928 => ?_) (fun hb3927 k3929 hk3929 => ?_)
  · have hX3930 := hX3924.trans (if_pos hb3927)
    refine p_iconst 128 c130_127 rfl ?_
    exact p_ireturn c130_128 (Hr _ _ hX3930 (rgD rfl) hR3926 _)
  · have hX3931 := hX3924.trans (if_neg hb3927)
    refine p_iload 124 c130_123 rfl rfl ?_
    refine p_goto 128 c130_124 rfl ?_
    exact p_ireturn c130_128 (Hr _ _ hX3931 gx2 hR3926 _)
def J130_97 (f : Nat) (x2 : Int) (xs0 : Int) (m : yM) : Option (Int × yM) := (if xs0 = 0 then (J130_115 f x2 xs0 m) else (if x2 < 0 then (bI (F124 f (m 376 4) m) (fun r3942 m3944 => (J130_115 f r3942 xs0 m3944))) else (J130_115 f x2 xs0 m)))
set_option maxRecDepth 100000 in
theorem tJ130_97 {L : Nat} {xs : Nat → Int32} {Q : xO → yM → Nat → Prop} {k d n : Nat} {c : yS3} {f : Nat} {x2 : Int} {xs0 : Int} {m : yM} {j1 j3 : Option Value} (hk : k ≤ f) (gx2 : rg x2) (gxs0 : rg xs0) (hR : RM c m) (Hr : ∀ r m', J130_97 f x2 xs0 m = some (r, m') → rg r → RM c m' → ∀ n', Q (.inl (some (yI r))) m' n') : PW (gZ L xs) k 130 d 97 [some (.ref 376), j1, some (yI x2), j3] [yI xs0] m n Q := by
  have hX : J130_97 f x2 xs0 m = J130_97 f x2 xs0 m := rfl
  refine p_istore 98 c130_97 rfl rfl ?_
  refine p_iload 99 c130_98 rfl rfl ?_
  refine p_if 115 102 c130_99 rfl rfl (yz_eq gxs0) (fun hb3915 k3916 hk3916 => ?_) (fun hb3915 k3917 hk3917 => ?_)
  · have hX3918 := hX.trans (if_pos hb3915)
    exact tJ130_115 (f := f) (by omega) gx2 gxs0 hR (fun r' m' e' => Hr r' m' (hX3918.trans e'))
  · have hX3932 := hX.trans (if_neg hb3915)
    refine p_iload 103 c130_102 rfl rfl ?_
    refine p_if 115 106 c130_103 rfl rfl ((yz_ge gx2).trans Int.not_lt.symm) (fun hb3933 k3934 hk3934 => ?_) (fun hb3933 k3935 hk3935 => ?_)
    · have hX3936 := hX3932.trans (if_neg hb3933)
      exact tJ130_115 (f := f) (by omega) gx2 gxs0 hR (fun r' m' e' => Hr r' m' (hX3936.trans e'))
    · have hX3937 := hX3932.trans (if_pos (Classical.not_not.mp hb3933))
      refine p_aload 107 c130_106 rfl rfl ?_
      refine p_aload 108 c130_107 rfl rfl ?_
      refine p_getX 111 (m 376 4) c130_108 rfl kf376_4 rfl ?_
      refine p_cS 114 [.ref 376, yI (m 376 4)] [] c130_111 rfl rfl rfl (fun k' hk' d' => d124 (f := f) (by omega) (hR.rg _ _) hR) (fun r3942 m3944 hF3940 hg3941 hR3945 n3939 k3938 hk3938 => ?_)
      have hX3943 := hX3937.trans (bI_s hF3940)
      refine p_istore 115 c130_114 rfl rfl ?_
      exact tJ130_115 (f := f) (by omega) hg3941 gxs0 hR3945 (fun r' m' e' => Hr r' m' (hX3943.trans e'))
def J130_96 (f : Nat) (x2 : Int) (m : yM) : Option (Int × yM) := (J130_97 f x2 0 m)
set_option maxRecDepth 100000 in
theorem tJ130_96 {L : Nat} {xs : Nat → Int32} {Q : xO → yM → Nat → Prop} {k d n : Nat} {c : yS3} {f : Nat} {x2 : Int} {m : yM} {j1 j3 : Option Value} (hk : k ≤ f) (gx2 : rg x2) (hR : RM c m) (Hr : ∀ r m', J130_96 f x2 m = some (r, m') → rg r → RM c m' → ∀ n', Q (.inl (some (yI r))) m' n') : PW (gZ L xs) k 130 d 96 [some (.ref 376), j1, some (yI x2), j3] [] m n Q := by
  have hX : J130_96 f x2 m = J130_96 f x2 m := rfl
  refine p_iconst 97 c130_96 rfl ?_
  exact tJ130_97 (f := f) (by omega) gx2 (rgD rfl) hR (fun r' m' e' => Hr r' m' (hX.trans e'))
def J130_92 (f : Nat) (x2 : Int) (m : yM) : Option (Int × yM) := (J130_97 f x2 1 m)
set_option maxRecDepth 100000 in
theorem tJ130_92 {L : Nat} {xs : Nat → Int32} {Q : xO → yM → Nat → Prop} {k d n : Nat} {c : yS3} {f : Nat} {x2 : Int} {m : yM} {j1 j3 : Option Value} (hk : k ≤ f) (gx2 : rg x2) (hR : RM c m) (Hr : ∀ r m', J130_92 f x2 m = some (r, m') → rg r → RM c m' → ∀ n', Q (.inl (some (yI r))) m' n') : PW (gZ L xs) k 130 d 92 [some (.ref 376), j1, some (yI x2), j3] [] m n Q := by
  have hX : J130_92 f x2 m = J130_92 f x2 m := rfl
  refine p_iconst 93 c130_92 rfl ?_
  refine p_goto 97 c130_93 rfl ?_
  exact tJ130_97 (f := f) (by omega) gx2 (rgD rfl) hR (fun r' m' e' => Hr r' m' (hX.trans e'))
def J130_70 (f : Nat) (x1 : Int) (x2 : Int) (m : yM) : Option (Int × yM) := (if F115 m = 0 then (J130_96 f x2 m) else (if x2 < 0 then (if m 389 x1.toNat < 48 then (J130_92 f x2 m) else (J130_96 f x2 m)) else (J130_92 f x2 m)))
set_option maxRecDepth 100000 in
theorem tJ130_70 {L : Nat} {xs : Nat → Int32} {Q : xO → yM → Nat → Prop} {k d n : Nat} {c : yS3} {f : Nat} {x1 : Int} {x2 : Int} {m : yM} {j3 : Option Value} (hk : k ≤ f) (gx1 : rg x1) (gx2 : rg x2) (hR : RM c m) (Hr : ∀ r m', J130_70 f x1 x2 m = some (r, m') → rg r → RM c m' → ∀ n', Q (.inl (some (yI r))) m' n') : PW (gZ L xs) k 130 d 70 [some (.ref 376), some (yI x1), some (yI x2), j3] [] m n Q := by
  have hX : J130_70 f x1 x2 m = J130_70 f x1 x2 m := rfl
  refine p_aload 71 c130_70 rfl rfl ?_
  refine p_cX 74 [.ref 376] [] c130_71 rfl rfl rfl (fun k' hk' d' => d115 hR) (fun hg3910 n3909 k3908 hk3908 => ?_)
  refine p_if 96 77 c130_74 rfl rfl (yz_eq hg3910) (fun hb3911 k3912 hk3912 => ?_) (fun hb3911 k3913 hk3913 => ?_)
  · have hX3914 := hX.trans (if_pos hb3911)
    exact tJ130_96 (f := f) (by omega) gx2 hR (fun r' m' e' => Hr r' m' (hX3914.trans e'))
  · have hX3946 := hX.trans (if_neg hb3911)
    refine p_iload 78 c130_77 rfl rfl ?_
    refine p_if 92 81 c130_78 rfl rfl ((yz_ge gx2).trans Int.not_lt.symm) (fun hb3947 k3948 hk3948 => ?_) (fun hb3947 k3949 hk3949 => ?_)
    · have hX3950 := hX3946.trans (if_neg hb3947)
      exact tJ130_92 (f := f) (by omega) gx2 hR (fun r' m' e' => Hr r' m' (hX3950.trans e'))
    · have hX3951 := hX3946.trans (if_pos (Classical.not_not.mp hb3947))
      refine p_aload 82 c130_81 rfl rfl ?_
      refine p_getR 85 c130_82 rfl kf376_26 ?_
      refine p_iload 86 c130_85 rfl rfl ?_
      refine p_iaX 87 (m 389 x1.toNat) c130_86 rfl ka389 gx1 rfl (fun hx3952 => ?_)
      refine p_iconst 89 c130_87 rfl ?_
      refine p_icmp 96 92 c130_89 rfl rfl ((yc_ge (hR.rg _ _) (rgD rfl)).trans Int.not_lt.symm) (fun hb3953 k3954 hk3954 => ?_) (fun hb3953 k3955 hk3955 => ?_)
      · have hX3956 := hX3951.trans (if_neg hb3953)
        exact tJ130_96 (f := f) (by omega) gx2 hR (fun r' m' e' => Hr r' m' (hX3956.trans e'))
      · have hX3957 := hX3951.trans (if_pos (Classical.not_not.mp hb3953))
        exact tJ130_92 (f := f) (by omega) gx2 hR (fun r' m' e' => Hr r' m' (hX3957.trans e'))
def F130 (f : Nat) (m : yM) : Option (Int × yM) := (if F114 m = 0 then (bL (yloop (fun (l : Int × Int) ml => B130_32 f (F96 m) l.1 l.2 ml) f ((-1), wr ((m 376 14) + 2)) m) (fun l3899 m3905 => (J130_70 f (F96 m) l3899.1 m3905)) (fun r mr => some (r, mr))) else (bU (F99 f m) (fun m3965 => (some (wr ((m3965 376 14) + 1), m3965)))))
set_option maxRecDepth 100000 in
theorem d130 {L : Nat} {xs : Nat → Int32} {k d n : Nat} {c : yS3} {f : Nat} {m : yM} (hk : k ≤ f) (hR : RM c m) : PC (gZ L xs) k d 130 [.ref 376] m n (qS c (F130 f m)) := by
  have hX : F130 f m = F130 f m := rfl
  have Hr : ∀ r m', F130 f m = some (r, m') → rg r → RM c m' → ∀ n' : Nat, (qS c (F130 f m)) (.inl (some (yI r))) m' n' := fun r m' e h1 h2 n' => ⟨r, rfl, h1, h2, e⟩
  refine PC.mk [some (.ref 376), none, none, none] kn130 rfl ?_
  refine p_aload 1 c130_0 rfl rfl ?_
  refine p_cX 4 [.ref 376] [] c130_1 rfl rfl rfl (fun k' hk' d' => d96 hR) (fun hg3870 n3869 k3868 hk3868 => ?_)
  refine p_istore 5 c130_4 rfl rfl ?_
  refine p_aload 6 c130_5 rfl rfl ?_
  refine p_cX 9 [.ref 376] [] c130_6 rfl rfl rfl (fun k' hk' d' => d114 hR) (fun hg3873 n3872 k3871 hk3871 => ?_)
  refine p_if 23 12 c130_9 rfl rfl (yz_eq hg3873) (fun hb3874 k3875 hk3875 => ?_) (fun hb3874 k3876 hk3876 => ?_)
  · have hX3877 := hX.trans (if_pos hb3874)
    refine p_iconst 24 c130_23 rfl ?_
    refine p_istore 25 c130_24 rfl rfl ?_
    refine p_aload 26 c130_25 rfl rfl ?_
    refine p_getX 29 (m 376 14) c130_26 rfl kf376_14 rfl ?_
    refine p_iconst 30 c130_29 rfl ?_
    refine p_iadd 31 c130_30 rfl ?_
    refine p_istore 32 c130_31 rfl rfl ?_
    refine PW.loop (K := k3875) (pce := 70) (fun (l : Int × Int) ml => B130_32 f (F96 m) l.1 l.2 ml) (fun (l : Int × Int) j => [some (.ref 376), some (yI (F96 m)), some (yI l.1), some (yI l.2)]) (fun (l : Int × Int) => rg l.1 ∧ rg l.2) (RM c) (fun r' m' => rg r' → RM c m' → ∀ n' : Nat, (qS c (F130 f m)) (.inl (some (yI r'))) m' n') (fun k' hk' l j m' n' hl hI Hn' He' Hr' => tB130_32 (f := f) (by omega) hg3870 hl.1 hl.2 hI (fun y0 y1 m2 n2 e h0 h1 hR2 => Hn' (y0, y1) (fun q => ([none, none, none, none] : List (Option Value)).getD q none) m2 n2 e ⟨h0, h1⟩ hR2) (fun y0 y1 m2 n2 e h0 h1 hR2 => He' (y0, y1) (fun q => ([none, none, none, none] : List (Option Value)).getD q none) m2 n2 e ⟨h0, h1⟩ hR2) Hr') f k3875 (by omega) (Nat.le_refl _) ((-1), wr ((m 376 14) + 2)) (fun q => ([some (.ref 376), some (yI (F96 m)), some (yI ((-1))), some (yI (wr ((m 376 14) + 2)))] : xL).getD q none) _ _ ⟨(rgD rfl), (rg_wr _)⟩ hR (fun l3899 j3902 m3905 n3904 e3901 hl3900 hR3906 k3903 hk3903 => ?_) (fun r' m' e' => ?_)
    · have hX3907 := hX3877.trans (bL_l e3901)
      exact tJ130_70 (f := f) (by omega) hg3870 hl3900.1 hR3906 (fun r' m' e' => Hr r' m' (hX3907.trans e'))
    · exact Hr r' m' (hX3877.trans (bL_r e'))
  · have hX3958 := hX.trans (if_neg hb3874)
    refine p_aload 13 c130_12 rfl rfl ?_
    refine p_cV 16 [.ref 376] [] c130_13 rfl rfl rfl (fun k' hk' d' => d99 (f := f) (by omega) hR) (fun m3965 hF3961 hR3966 n3960 k3959 hk3959 => ?_)
    have hX3964 := hX3958.trans (bU_s hF3961)
    refine p_aload 17 c130_16 rfl rfl ?_
    refine p_getX 20 (m3965 376 14) c130_17 rfl kf376_14 rfl ?_
    refine p_iconst 21 c130_20 rfl ?_
    refine p_iadd 22 c130_21 rfl ?_
    exact p_ireturn c130_22 (Hr _ _ hX3964 (rg_wr _) hR3966 _)
