/-! CONTRACTS: the model, statements. Printed by wip/whole/gen97.py -/
set_option maxRecDepth 100000 in
theorem t138_0 {L : Nat} {xs : Nat → Int32} {d nn : Nat} {m : yM} (hT : Ty gT m) (hl : m 376 6 ≤ m 376 1) (hn : m 376 18 = 1) (h8 : m 376 8 < 0) (hX : XS 0 m) (h84 : 1 ≤ m 384 0) (h90 : m 390 0 ≤ 100) (h3 : m 376 3 ≠ 0) : YC (gZ L xs) (d + 7) 138 [.ref 376] m nn (qU (fun m' n' => n' = nn ∧ Ty gT m' ∧ Fr wSt0 m m' ∧ m' 376 6 ≤ m' 376 1 ∧ (0 ≤ m' 376 8 ∨ (m' 376 8 < 0 ∧ mu m' < mu m ∧ m' 390 0 = m 390 0 + 1 ∧ XS 0 m')))) := by
  have tb8 := hT.atp 376 8 (-1) 320 rfl
  have tc384 := hT.atp 384 0 0 10 rfl
  have tc386 := hT.atp 386 0 0 12 rfl
  have tc387 := hT.atp 387 0 0 8 rfl
  have tc388 := hT.atp 388 0 0 12 rfl
  have tc389 := hT.atp 389 0 0 48 rfl
  have tc390 := hT.atp 390 0 0 125 rfl
  have hsc := hX.2.2.2.2.2
  have hCV := hX.2.2.2.2.2.2.2.1
  refine YC.mkB [some (.ref 376), none, none] kn138 rfl rfl ?_
  have hF : Fr wSt0 m m := Fr.rf
  refine y_aload 1 c138_0 rfl rfl rfl ?_
  have tb7346 := hT.atp 376 3 0 3 rfl
  refine y_callP 4 [.ref 376] [] c138_1 rfl rfl rfl rfl rfl (ycanO km115 ko376) (t115 hT) (fun r7347 hr7347 => ?_)
  refine y_istore 5 c138_4 rfl rfl ?_
  refine y_aload 6 c138_5 rfl rfl rfl ?_
  refine y_callP 9 [.ref 376] [] c138_6 rfl rfl rfl rfl rfl (ycanO km113 ko376) (t113 hT) (fun r7348 hr7348 => ?_)
  refine y_if 41 12 c138_9 rfl rfl (yz_eq (by omega)) (fun hb7349 => ?_) (fun hb7349 => ?_)
  · refine y_aload 42 c138_41 rfl rfl rfl ?_
    have tb7351 := hT.atp 376 1 0 320 rfl
    have tb7352 := hT.atp 376 6 0 320 rfl
    have tb7353 := hT.atp 376 8 ((-1)) 320 rfl
    have tb7354 := hT.atp 376 18 0 1 rfl
    refine y_callIB 45 [.ref 376] [] c138_42 rfl rfl rfl rfl rfl (ycanO km130 ko376) (t130_0 hT (by omega) (by omega) (by omega)) (fun rq7350 mq7350 nq7350 hq7350 => ?_)
    obtain ⟨rfl, hTq7350, hFq7350, hq7350⟩ := hq7350
    have x1q7350 : mq7350 376 1 = m 376 1 := (hFq7350 376 1 rfl)
    have hF7355 := hF.tr hFq7350 wVr0_wSt0
    refine y_istore 46 c138_45 rfl rfl ?_
    refine y_aload 47 c138_46 rfl rfl rfl ?_
    refine y_getX 50 (mq7350 376 8) c138_47 rfl kf376_8 rfl ?_
    have tb7356 := hTq7350.atp 376 8 ((-1)) 320 rfl
    refine y_if 54 53 c138_50 rfl rfl (yz_lt (by omega)) (fun hb7357 => ?_) (fun hb7357 => ?_)
    · refine y_aload 55 c138_54 rfl rfl rfl ?_
      refine y_iconst 57 c138_55 rfl ?_
      have tb7358 := hTq7350.atp 376 3 0 3 rfl
      refine y_callP 60 [.ref 376, yI 46] [] c138_57 rfl rfl rfl rfl rfl (ycanO km117 ko376) (t117 hTq7350 (by omega)) (fun r7359 hr7359 => ?_)
      refine y_if 71 63 c138_60 rfl rfl (yz_eq (by omega)) (fun hb7360 => ?_) (fun hb7360 => ?_)
      · refine y_aload 72 c138_71 rfl rfl rfl ?_
        refine y_iload 73 c138_72 rfl rfl ?_
        refine y_if 89 76 c138_73 rfl rfl (yz_eq (by omega)) (fun hb7361 => ?_) (fun hb7361 => ?_)
        · refine y_iconst 90 c138_89 rfl ?_
          have es7363 : mq7350 376 1 = m 376 1 := (hFq7350 376 1 rfl)
          have tb7364 := hTq7350.atp 376 6 0 320 rfl
          refine y_callIB 93 [.ref 376, yI 0] [] c138_90 rfl rfl rfl rfl rfl (ycanO km105 ko376) (t105 (g := 0) hTq7350 (by omega) (by omega)) (fun rq7362 mq7362 nq7362 hq7362 => ?_)
          obtain ⟨rfl, hTq7362, hFq7362, hq7362⟩ := hq7362
          have x1q7362 : mq7362 376 1 = m 376 1 := ((hFq7362 376 1 rfl).trans (hFq7350 376 1 rfl))
          have hF7365 := hF7355.tr hFq7362 wNw_wSt0
          refine y_if 101 96 c138_93 rfl rfl (yz_eq (by omega)) (fun hb7366 => ?_) (fun hb7366 => ?_)
          · refine y_aload 102 c138_101 rfl rfl rfl ?_
            refine y_getX 105 (mq7362 376 8) c138_102 rfl kf376_8 rfl ?_
            have tb7367 := hTq7362.atp 376 8 ((-1)) 320 rfl
            refine y_if 118 108 c138_105 rfl rfl (yz_ge (by omega)) (fun hb7368 => ?_) (fun hb7368 => ?_)
            · have es7369 : mq7362 376 1 = m 376 1 := ((hFq7362 376 1 rfl).trans (hFq7350 376 1 rfl))
              have tb7370 := hTq7362.atp 376 3 0 3 rfl
              have tb7371 := hTq7362.atp 376 6 0 320 rfl
              exact y_retU c138_118 ⟨rfl, hTq7362, hF7365, by omega, Or.inl (by omega)⟩
            · refine y_aload 109 c138_108 rfl rfl rfl ?_
              refine y_iconst 111 c138_109 rfl ?_
              have es7373 : mq7362 376 1 = m 376 1 := ((hFq7362 376 1 rfl).trans (hFq7350 376 1 rfl))
              have tb7374 := hTq7362.atp 376 3 0 3 rfl
              have tb7375 := hTq7362.atp 376 6 0 320 rfl
              refine y_callIB 114 [.ref 376, yI 59] [] c138_111 rfl rfl rfl rfl rfl (ycanO km118 ko376) (t118 hTq7362 (by omega) (by omega)) (fun rq7372 mq7372 nq7372 hq7372 => ?_)
              obtain ⟨rfl, hTq7372, hFq7372, hq7372⟩ := hq7372
              have x1q7372 : mq7372 376 1 = m 376 1 := ((hFq7372 376 1 rfl).trans ((hFq7362 376 1 rfl).trans (hFq7350 376 1 rfl)))
              have hF7376 := hF7365.tr hFq7372 wNw_wSt0
              refine y_if 118 117 c138_114 rfl rfl (yz_ne (by omega)) (fun hb7377 => ?_) (fun hb7377 => ?_)
              · have es7378 : mq7372 376 1 = m 376 1 := ((hFq7372 376 1 rfl).trans ((hFq7362 376 1 rfl).trans (hFq7350 376 1 rfl)))
                have tb7379 := hTq7372.atp 376 3 0 3 rfl
                have tb7380 := hTq7372.atp 376 6 0 320 rfl
                have tb7381 := hTq7372.atp 376 8 ((-1)) 320 rfl
                exact y_retU c138_118 ⟨rfl, hTq7372, hF7376, by omega, Or.inl (by omega)⟩
              · have es7382 : mq7372 376 1 = m 376 1 := ((hFq7372 376 1 rfl).trans ((hFq7362 376 1 rfl).trans (hFq7350 376 1 rfl)))
                have tb7383 := hTq7372.atp 376 3 0 3 rfl
                have tb7384 := hTq7372.atp 376 6 0 320 rfl
                have tb7385 := hTq7372.atp 376 8 ((-1)) 320 rfl
                exact y_retU c138_117 ⟨rfl, hTq7372, hF7376, by omega, Or.inl (by omega)⟩
          · refine y_aload 97 c138_96 rfl rfl rfl ?_
            refine y_iload 98 c138_97 rfl rfl ?_
            have es7387 : mq7362 376 1 = m 376 1 := ((hFq7362 376 1 rfl).trans (hFq7350 376 1 rfl))
            have tb7388 := hTq7362.atp 376 3 0 3 rfl
            have tb7389 := hTq7362.atp 376 6 0 320 rfl
            have tb7390 := hTq7362.atp 376 8 ((-1)) 320 rfl
            have es7391 : mq7362 376 18 = m 376 18 := ((hFq7362 376 18 rfl).trans (hFq7350 376 18 rfl))
            have es7392 : mq7362 390 0 = m 390 0 := ((hFq7362 390 0 rfl).trans (hFq7350 390 0 rfl))
            have es7393 : mq7362 386 0 = m 386 0 := ((hFq7362 386 0 rfl).trans (hFq7350 386 0 rfl))
            have es7394 : mq7362 387 0 = m 387 0 := ((hFq7362 387 0 rfl).trans (hFq7350 387 0 rfl))
            have es7395 : mq7362 388 0 = m 388 0 := ((hFq7362 388 0 rfl).trans (hFq7350 388 0 rfl))
            have es7396 : mq7362 376 17 = m 376 17 := ((hFq7362 376 17 rfl).trans (hFq7350 376 17 rfl))
            have tb7397 := hT.atp 376 17 0 20 rfl
            have es7398 : mq7362 384 0 = m 384 0 := ((hFq7362 384 0 rfl).trans (hFq7350 384 0 rfl))
            refine y_callUB 101 [.ref 376, yI rq7350] [] c138_98 rfl rfl rfl rfl rfl (ycanO km137 ko376) (t137_0 hTq7362 (by omega) (by omega) (by omega) ((hX.fw hFq7350 wVr0_X).fw hFq7362 wNw_X) (by omega) (by omega) (by omega)) (fun mq7386 nq7386 hq7386 => ?_)
            obtain ⟨rfl, hTq7386, hFq7386, hlq7386, hq7386⟩ := hq7386
            have hAq7386 : 0 ≤ mq7386 376 8 ∨ (mq7386 376 8 < 0 ∧ mu mq7386 ≤ mu mq7362 ∧ mq7386 390 0 = m 390 0 + 1) := by rcases hq7386 with q | q; exact Or.inl q; exact Or.inr ⟨q.1, by omega, by omega⟩
            have x1q7386 : mq7386 376 1 = m 376 1 := ((hFq7386 376 1 rfl).trans ((hFq7362 376 1 rfl).trans (hFq7350 376 1 rfl)))
            have hF7399 := hF7365.tr hFq7386 (fun _ _ e => e)
            refine y_aload 102 c138_101 rfl rfl rfl ?_
            refine y_getX 105 (mq7386 376 8) c138_102 rfl kf376_8 rfl ?_
            have tb7400 := hTq7386.atp 376 8 ((-1)) 320 rfl
            refine y_if 118 108 c138_105 rfl rfl (yz_ge (by omega)) (fun hb7401 => ?_) (fun hb7401 => ?_)
            · have es7402 : mq7386 376 1 = m 376 1 := ((hFq7386 376 1 rfl).trans ((hFq7362 376 1 rfl).trans (hFq7350 376 1 rfl)))
              have tb7403 := hTq7386.atp 376 3 0 3 rfl
              have tb7404 := hTq7386.atp 376 6 0 320 rfl
              have tb7405 := hTq7386.atp 390 0 0 125 rfl
              have tb7406 := hTq7386.atp 386 0 0 12 rfl
              have tb7407 := hTq7386.atp 387 0 0 8 rfl
              have tb7408 := hTq7386.atp 388 0 0 12 rfl
              have tb7409 := hTq7386.atp 376 17 0 20 rfl
              have es7410 : mq7386 384 0 = m 384 0 := ((hFq7386 384 0 rfl).trans ((hFq7362 384 0 rfl).trans (hFq7350 384 0 rfl)))
              exact y_retU c138_118 ⟨rfl, hTq7386, hF7399, by omega, (by first | exact Or.inl (by omega) | exact Or.inr ⟨by omega, by omega, by omega, (hq7386.resolve_left (by omega)).2.2.2⟩ | (by_cases hq : 0 ≤ mq7386 376 8 <;> first | exact Or.inl (by omega) | exact Or.inr ⟨by omega, by omega, by omega, (hq7386.resolve_left (by omega)).2.2.2⟩))⟩
            · refine y_aload 109 c138_108 rfl rfl rfl ?_
              refine y_iconst 111 c138_109 rfl ?_
              have es7412 : mq7386 376 1 = m 376 1 := ((hFq7386 376 1 rfl).trans ((hFq7362 376 1 rfl).trans (hFq7350 376 1 rfl)))
              have tb7413 := hTq7386.atp 376 3 0 3 rfl
              have tb7414 := hTq7386.atp 376 6 0 320 rfl
              refine y_callIB 114 [.ref 376, yI 59] [] c138_111 rfl rfl rfl rfl rfl (ycanO km118 ko376) (t118 hTq7386 (by omega) (by omega)) (fun rq7411 mq7411 nq7411 hq7411 => ?_)
              obtain ⟨rfl, hTq7411, hFq7411, hq7411⟩ := hq7411
              have x1q7411 : mq7411 376 1 = m 376 1 := ((hFq7411 376 1 rfl).trans ((hFq7386 376 1 rfl).trans ((hFq7362 376 1 rfl).trans (hFq7350 376 1 rfl))))
              have hF7415 := hF7399.tr hFq7411 wNw_wSt0
              refine y_if 118 117 c138_114 rfl rfl (yz_ne (by omega)) (fun hb7416 => ?_) (fun hb7416 => ?_)
              · have es7417 : mq7411 376 1 = m 376 1 := ((hFq7411 376 1 rfl).trans ((hFq7386 376 1 rfl).trans ((hFq7362 376 1 rfl).trans (hFq7350 376 1 rfl))))
                have tb7418 := hTq7411.atp 376 3 0 3 rfl
                have tb7419 := hTq7411.atp 376 6 0 320 rfl
                have tb7420 := hTq7411.atp 376 8 ((-1)) 320 rfl
                have es7421 : mq7411 390 0 = mq7386 390 0 := (hFq7411 390 0 rfl)
                have tb7422 := hTq7386.atp 390 0 0 125 rfl
                have es7423 : mq7411 386 0 = mq7386 386 0 := (hFq7411 386 0 rfl)
                have tb7424 := hTq7386.atp 386 0 0 12 rfl
                have es7425 : mq7411 387 0 = mq7386 387 0 := (hFq7411 387 0 rfl)
                have tb7426 := hTq7386.atp 387 0 0 8 rfl
                have es7427 : mq7411 388 0 = mq7386 388 0 := (hFq7411 388 0 rfl)
                have tb7428 := hTq7386.atp 388 0 0 12 rfl
                have es7429 : mq7411 376 17 = mq7386 376 17 := (hFq7411 376 17 rfl)
                have tb7430 := hTq7386.atp 376 17 0 20 rfl
                have es7431 : mq7411 384 0 = m 384 0 := ((hFq7411 384 0 rfl).trans ((hFq7386 384 0 rfl).trans ((hFq7362 384 0 rfl).trans (hFq7350 384 0 rfl))))
                exact y_retU c138_118 ⟨rfl, hTq7411, hF7415, by omega, (by first | exact Or.inl (by omega) | exact Or.inr ⟨by omega, by omega, by omega, (XS.fw (hq7386.resolve_left (by omega)).2.2.2 hFq7411 wNw_X)⟩ | (by_cases hq : 0 ≤ mq7411 376 8 <;> first | exact Or.inl (by omega) | exact Or.inr ⟨by omega, by omega, by omega, (XS.fw (hq7386.resolve_left (by omega)).2.2.2 hFq7411 wNw_X)⟩))⟩
              · have es7432 : mq7411 376 1 = m 376 1 := ((hFq7411 376 1 rfl).trans ((hFq7386 376 1 rfl).trans ((hFq7362 376 1 rfl).trans (hFq7350 376 1 rfl))))
                have tb7433 := hTq7411.atp 376 3 0 3 rfl
                have tb7434 := hTq7411.atp 376 6 0 320 rfl
                have tb7435 := hTq7411.atp 376 8 ((-1)) 320 rfl
                have es7436 : mq7411 390 0 = mq7386 390 0 := (hFq7411 390 0 rfl)
                have tb7437 := hTq7386.atp 390 0 0 125 rfl
                have es7438 : mq7411 386 0 = mq7386 386 0 := (hFq7411 386 0 rfl)
                have tb7439 := hTq7386.atp 386 0 0 12 rfl
                have es7440 : mq7411 387 0 = mq7386 387 0 := (hFq7411 387 0 rfl)
                have tb7441 := hTq7386.atp 387 0 0 8 rfl
                have es7442 : mq7411 388 0 = mq7386 388 0 := (hFq7411 388 0 rfl)
                have tb7443 := hTq7386.atp 388 0 0 12 rfl
                have es7444 : mq7411 376 17 = mq7386 376 17 := (hFq7411 376 17 rfl)
                have tb7445 := hTq7386.atp 376 17 0 20 rfl
                have es7446 : mq7411 384 0 = m 384 0 := ((hFq7411 384 0 rfl).trans ((hFq7386 384 0 rfl).trans ((hFq7362 384 0 rfl).trans (hFq7350 384 0 rfl))))
                exact y_retU c138_117 ⟨rfl, hTq7411, hF7415, by omega, (by first | exact Or.inl (by omega) | exact Or.inr ⟨by omega, by omega, by omega, (XS.fw (hq7386.resolve_left (by omega)).2.2.2 hFq7411 wNw_X)⟩ | (by_cases hq : 0 ≤ mq7411 376 8 <;> first | exact Or.inl (by omega) | exact Or.inr ⟨by omega, by omega, by omega, (XS.fw (hq7386.resolve_left (by omega)).2.2.2 hFq7411 wNw_X)⟩))⟩
        · refine y_aload 77 c138_76 rfl rfl rfl ?_
          refine y_iconst 79 c138_77 rfl ?_
          refine y_callP 82 [.ref 376, yI 61] [.ref 376] c138_79 rfl rfl rfl rfl rfl (ycanO km117 ko376) (t117 hTq7350 (by omega)) (fun r7447 hr7447 => ?_)
          refine y_if 89 85 c138_82 rfl rfl (yz_eq (by omega)) (fun hb7448 => ?_) (fun hb7448 => ?_)
          · refine y_iconst 90 c138_89 rfl ?_
            have es7450 : mq7350 376 1 = m 376 1 := (hFq7350 376 1 rfl)
            have tb7451 := hTq7350.atp 376 6 0 320 rfl
            refine y_callIB 93 [.ref 376, yI 0] [] c138_90 rfl rfl rfl rfl rfl (ycanO km105 ko376) (t105 (g := 0) hTq7350 (by omega) (by omega)) (fun rq7449 mq7449 nq7449 hq7449 => ?_)
            obtain ⟨rfl, hTq7449, hFq7449, hq7449⟩ := hq7449
            have x1q7449 : mq7449 376 1 = m 376 1 := ((hFq7449 376 1 rfl).trans (hFq7350 376 1 rfl))
            have hF7452 := hF7355.tr hFq7449 wNw_wSt0
            refine y_if 101 96 c138_93 rfl rfl (yz_eq (by omega)) (fun hb7453 => ?_) (fun hb7453 => ?_)
            · refine y_aload 102 c138_101 rfl rfl rfl ?_
              refine y_getX 105 (mq7449 376 8) c138_102 rfl kf376_8 rfl ?_
              have tb7454 := hTq7449.atp 376 8 ((-1)) 320 rfl
              refine y_if 118 108 c138_105 rfl rfl (yz_ge (by omega)) (fun hb7455 => ?_) (fun hb7455 => ?_)
              · have es7456 : mq7449 376 1 = m 376 1 := ((hFq7449 376 1 rfl).trans (hFq7350 376 1 rfl))
                have tb7457 := hTq7449.atp 376 3 0 3 rfl
                have tb7458 := hTq7449.atp 376 6 0 320 rfl
                exact y_retU c138_118 ⟨rfl, hTq7449, hF7452, by omega, Or.inl (by omega)⟩
              · refine y_aload 109 c138_108 rfl rfl rfl ?_
                refine y_iconst 111 c138_109 rfl ?_
                have es7460 : mq7449 376 1 = m 376 1 := ((hFq7449 376 1 rfl).trans (hFq7350 376 1 rfl))
                have tb7461 := hTq7449.atp 376 3 0 3 rfl
                have tb7462 := hTq7449.atp 376 6 0 320 rfl
                refine y_callIB 114 [.ref 376, yI 59] [] c138_111 rfl rfl rfl rfl rfl (ycanO km118 ko376) (t118 hTq7449 (by omega) (by omega)) (fun rq7459 mq7459 nq7459 hq7459 => ?_)
                obtain ⟨rfl, hTq7459, hFq7459, hq7459⟩ := hq7459
                have x1q7459 : mq7459 376 1 = m 376 1 := ((hFq7459 376 1 rfl).trans ((hFq7449 376 1 rfl).trans (hFq7350 376 1 rfl)))
                have hF7463 := hF7452.tr hFq7459 wNw_wSt0
                refine y_if 118 117 c138_114 rfl rfl (yz_ne (by omega)) (fun hb7464 => ?_) (fun hb7464 => ?_)
                · have es7465 : mq7459 376 1 = m 376 1 := ((hFq7459 376 1 rfl).trans ((hFq7449 376 1 rfl).trans (hFq7350 376 1 rfl)))
                  have tb7466 := hTq7459.atp 376 3 0 3 rfl
                  have tb7467 := hTq7459.atp 376 6 0 320 rfl
                  have tb7468 := hTq7459.atp 376 8 ((-1)) 320 rfl
                  exact y_retU c138_118 ⟨rfl, hTq7459, hF7463, by omega, Or.inl (by omega)⟩
                · have es7469 : mq7459 376 1 = m 376 1 := ((hFq7459 376 1 rfl).trans ((hFq7449 376 1 rfl).trans (hFq7350 376 1 rfl)))
                  have tb7470 := hTq7459.atp 376 3 0 3 rfl
                  have tb7471 := hTq7459.atp 376 6 0 320 rfl
                  have tb7472 := hTq7459.atp 376 8 ((-1)) 320 rfl
                  exact y_retU c138_117 ⟨rfl, hTq7459, hF7463, by omega, Or.inl (by omega)⟩
            · refine y_aload 97 c138_96 rfl rfl rfl ?_
              refine y_iload 98 c138_97 rfl rfl ?_
              have es7474 : mq7449 376 1 = m 376 1 := ((hFq7449 376 1 rfl).trans (hFq7350 376 1 rfl))
              have tb7475 := hTq7449.atp 376 3 0 3 rfl
              have tb7476 := hTq7449.atp 376 6 0 320 rfl
              have tb7477 := hTq7449.atp 376 8 ((-1)) 320 rfl
              have es7478 : mq7449 376 18 = m 376 18 := ((hFq7449 376 18 rfl).trans (hFq7350 376 18 rfl))
              have es7479 : mq7449 390 0 = m 390 0 := ((hFq7449 390 0 rfl).trans (hFq7350 390 0 rfl))
              have es7480 : mq7449 386 0 = m 386 0 := ((hFq7449 386 0 rfl).trans (hFq7350 386 0 rfl))
              have es7481 : mq7449 387 0 = m 387 0 := ((hFq7449 387 0 rfl).trans (hFq7350 387 0 rfl))
              have es7482 : mq7449 388 0 = m 388 0 := ((hFq7449 388 0 rfl).trans (hFq7350 388 0 rfl))
              have es7483 : mq7449 376 17 = m 376 17 := ((hFq7449 376 17 rfl).trans (hFq7350 376 17 rfl))
              have tb7484 := hT.atp 376 17 0 20 rfl
              have es7485 : mq7449 384 0 = m 384 0 := ((hFq7449 384 0 rfl).trans (hFq7350 384 0 rfl))
              refine y_callUB 101 [.ref 376, yI rq7350] [] c138_98 rfl rfl rfl rfl rfl (ycanO km137 ko376) (t137_0 hTq7449 (by omega) (by omega) (by omega) ((hX.fw hFq7350 wVr0_X).fw hFq7449 wNw_X) (by omega) (by omega) (by omega)) (fun mq7473 nq7473 hq7473 => ?_)
              obtain ⟨rfl, hTq7473, hFq7473, hlq7473, hq7473⟩ := hq7473
              have hAq7473 : 0 ≤ mq7473 376 8 ∨ (mq7473 376 8 < 0 ∧ mu mq7473 ≤ mu mq7449 ∧ mq7473 390 0 = m 390 0 + 1) := by rcases hq7473 with q | q; exact Or.inl q; exact Or.inr ⟨q.1, by omega, by omega⟩
              have x1q7473 : mq7473 376 1 = m 376 1 := ((hFq7473 376 1 rfl).trans ((hFq7449 376 1 rfl).trans (hFq7350 376 1 rfl)))
              have hF7486 := hF7452.tr hFq7473 (fun _ _ e => e)
              refine y_aload 102 c138_101 rfl rfl rfl ?_
              refine y_getX 105 (mq7473 376 8) c138_102 rfl kf376_8 rfl ?_
              have tb7487 := hTq7473.atp 376 8 ((-1)) 320 rfl
              refine y_if 118 108 c138_105 rfl rfl (yz_ge (by omega)) (fun hb7488 => ?_) (fun hb7488 => ?_)
              · have es7489 : mq7473 376 1 = m 376 1 := ((hFq7473 376 1 rfl).trans ((hFq7449 376 1 rfl).trans (hFq7350 376 1 rfl)))
                have tb7490 := hTq7473.atp 376 3 0 3 rfl
                have tb7491 := hTq7473.atp 376 6 0 320 rfl
                have tb7492 := hTq7473.atp 390 0 0 125 rfl
                have tb7493 := hTq7473.atp 386 0 0 12 rfl
                have tb7494 := hTq7473.atp 387 0 0 8 rfl
                have tb7495 := hTq7473.atp 388 0 0 12 rfl
                have tb7496 := hTq7473.atp 376 17 0 20 rfl
                have es7497 : mq7473 384 0 = m 384 0 := ((hFq7473 384 0 rfl).trans ((hFq7449 384 0 rfl).trans (hFq7350 384 0 rfl)))
                exact y_retU c138_118 ⟨rfl, hTq7473, hF7486, by omega, (by first | exact Or.inl (by omega) | exact Or.inr ⟨by omega, by omega, by omega, (hq7473.resolve_left (by omega)).2.2.2⟩ | (by_cases hq : 0 ≤ mq7473 376 8 <;> first | exact Or.inl (by omega) | exact Or.inr ⟨by omega, by omega, by omega, (hq7473.resolve_left (by omega)).2.2.2⟩))⟩
              · refine y_aload 109 c138_108 rfl rfl rfl ?_
                refine y_iconst 111 c138_109 rfl ?_
                have es7499 : mq7473 376 1 = m 376 1 := ((hFq7473 376 1 rfl).trans ((hFq7449 376 1 rfl).trans (hFq7350 376 1 rfl)))
                have tb7500 := hTq7473.atp 376 3 0 3 rfl
                have tb7501 := hTq7473.atp 376 6 0 320 rfl
                refine y_callIB 114 [.ref 376, yI 59] [] c138_111 rfl rfl rfl rfl rfl (ycanO km118 ko376) (t118 hTq7473 (by omega) (by omega)) (fun rq7498 mq7498 nq7498 hq7498 => ?_)
                obtain ⟨rfl, hTq7498, hFq7498, hq7498⟩ := hq7498
                have x1q7498 : mq7498 376 1 = m 376 1 := ((hFq7498 376 1 rfl).trans ((hFq7473 376 1 rfl).trans ((hFq7449 376 1 rfl).trans (hFq7350 376 1 rfl))))
                have hF7502 := hF7486.tr hFq7498 wNw_wSt0
                refine y_if 118 117 c138_114 rfl rfl (yz_ne (by omega)) (fun hb7503 => ?_) (fun hb7503 => ?_)
                · have es7504 : mq7498 376 1 = m 376 1 := ((hFq7498 376 1 rfl).trans ((hFq7473 376 1 rfl).trans ((hFq7449 376 1 rfl).trans (hFq7350 376 1 rfl))))
                  have tb7505 := hTq7498.atp 376 3 0 3 rfl
                  have tb7506 := hTq7498.atp 376 6 0 320 rfl
                  have tb7507 := hTq7498.atp 376 8 ((-1)) 320 rfl
                  have es7508 : mq7498 390 0 = mq7473 390 0 := (hFq7498 390 0 rfl)
                  have tb7509 := hTq7473.atp 390 0 0 125 rfl
                  have es7510 : mq7498 386 0 = mq7473 386 0 := (hFq7498 386 0 rfl)
                  have tb7511 := hTq7473.atp 386 0 0 12 rfl
                  have es7512 : mq7498 387 0 = mq7473 387 0 := (hFq7498 387 0 rfl)
                  have tb7513 := hTq7473.atp 387 0 0 8 rfl
                  have es7514 : mq7498 388 0 = mq7473 388 0 := (hFq7498 388 0 rfl)
                  have tb7515 := hTq7473.atp 388 0 0 12 rfl
                  have es7516 : mq7498 376 17 = mq7473 376 17 := (hFq7498 376 17 rfl)
                  have tb7517 := hTq7473.atp 376 17 0 20 rfl
                  have es7518 : mq7498 384 0 = m 384 0 := ((hFq7498 384 0 rfl).trans ((hFq7473 384 0 rfl).trans ((hFq7449 384 0 rfl).trans (hFq7350 384 0 rfl))))
                  exact y_retU c138_118 ⟨rfl, hTq7498, hF7502, by omega, (by first | exact Or.inl (by omega) | exact Or.inr ⟨by omega, by omega, by omega, (XS.fw (hq7473.resolve_left (by omega)).2.2.2 hFq7498 wNw_X)⟩ | (by_cases hq : 0 ≤ mq7498 376 8 <;> first | exact Or.inl (by omega) | exact Or.inr ⟨by omega, by omega, by omega, (XS.fw (hq7473.resolve_left (by omega)).2.2.2 hFq7498 wNw_X)⟩))⟩
                · have es7519 : mq7498 376 1 = m 376 1 := ((hFq7498 376 1 rfl).trans ((hFq7473 376 1 rfl).trans ((hFq7449 376 1 rfl).trans (hFq7350 376 1 rfl))))
                  have tb7520 := hTq7498.atp 376 3 0 3 rfl
                  have tb7521 := hTq7498.atp 376 6 0 320 rfl
                  have tb7522 := hTq7498.atp 376 8 ((-1)) 320 rfl
                  have es7523 : mq7498 390 0 = mq7473 390 0 := (hFq7498 390 0 rfl)
                  have tb7524 := hTq7473.atp 390 0 0 125 rfl
                  have es7525 : mq7498 386 0 = mq7473 386 0 := (hFq7498 386 0 rfl)
                  have tb7526 := hTq7473.atp 386 0 0 12 rfl
                  have es7527 : mq7498 387 0 = mq7473 387 0 := (hFq7498 387 0 rfl)
                  have tb7528 := hTq7473.atp 387 0 0 8 rfl
                  have es7529 : mq7498 388 0 = mq7473 388 0 := (hFq7498 388 0 rfl)
                  have tb7530 := hTq7473.atp 388 0 0 12 rfl
                  have es7531 : mq7498 376 17 = mq7473 376 17 := (hFq7498 376 17 rfl)
                  have tb7532 := hTq7473.atp 376 17 0 20 rfl
                  have es7533 : mq7498 384 0 = m 384 0 := ((hFq7498 384 0 rfl).trans ((hFq7473 384 0 rfl).trans ((hFq7449 384 0 rfl).trans (hFq7350 384 0 rfl))))
                  exact y_retU c138_117 ⟨rfl, hTq7498, hF7502, by omega, (by first | exact Or.inl (by omega) | exact Or.inr ⟨by omega, by omega, by omega, (XS.fw (hq7473.resolve_left (by omega)).2.2.2 hFq7498 wNw_X)⟩ | (by_cases hq : 0 ≤ mq7498 376 8 <;> first | exact Or.inl (by omega) | exact Or.inr ⟨by omega, by omega, by omega, (XS.fw (hq7473.resolve_left (by omega)).2.2.2 hFq7498 wNw_X)⟩))⟩
          · refine y_iconst 86 c138_85 rfl ?_
            refine y_goto 90 c138_86 rfl ?_
            have es7535 : mq7350 376 1 = m 376 1 := (hFq7350 376 1 rfl)
            have tb7536 := hTq7350.atp 376 6 0 320 rfl
            refine y_callIB 93 [.ref 376, yI 1] [] c138_90 rfl rfl rfl rfl rfl (ycanO km105 ko376) (t105 (g := 1) hTq7350 (by omega) (by omega)) (fun rq7534 mq7534 nq7534 hq7534 => ?_)
            obtain ⟨rfl, hTq7534, hFq7534, hq7534⟩ := hq7534
            have x1q7534 : mq7534 376 1 = m 376 1 := ((hFq7534 376 1 rfl).trans (hFq7350 376 1 rfl))
            have hF7537 := hF7355.tr hFq7534 wNw_wSt0
            refine y_if 101 96 c138_93 rfl rfl (yz_eq (by omega)) (fun hb7538 => ?_) (fun hb7538 => ?_)
            · refine y_aload 102 c138_101 rfl rfl rfl ?_
              refine y_getX 105 (mq7534 376 8) c138_102 rfl kf376_8 rfl ?_
              have tb7539 := hTq7534.atp 376 8 ((-1)) 320 rfl
              refine y_if 118 108 c138_105 rfl rfl (yz_ge (by omega)) (fun hb7540 => ?_) (fun hb7540 => ?_)
              · have es7541 : mq7534 376 1 = m 376 1 := ((hFq7534 376 1 rfl).trans (hFq7350 376 1 rfl))
                have tb7542 := hTq7534.atp 376 3 0 3 rfl
                have tb7543 := hTq7534.atp 376 6 0 320 rfl
                exact y_retU c138_118 ⟨rfl, hTq7534, hF7537, by omega, Or.inl (by omega)⟩
              · refine y_aload 109 c138_108 rfl rfl rfl ?_
                refine y_iconst 111 c138_109 rfl ?_
                have es7545 : mq7534 376 1 = m 376 1 := ((hFq7534 376 1 rfl).trans (hFq7350 376 1 rfl))
                have tb7546 := hTq7534.atp 376 3 0 3 rfl
                have tb7547 := hTq7534.atp 376 6 0 320 rfl
                refine y_callIB 114 [.ref 376, yI 59] [] c138_111 rfl rfl rfl rfl rfl (ycanO km118 ko376) (t118 hTq7534 (by omega) (by omega)) (fun rq7544 mq7544 nq7544 hq7544 => ?_)
                obtain ⟨rfl, hTq7544, hFq7544, hq7544⟩ := hq7544
                have x1q7544 : mq7544 376 1 = m 376 1 := ((hFq7544 376 1 rfl).trans ((hFq7534 376 1 rfl).trans (hFq7350 376 1 rfl)))
                have hF7548 := hF7537.tr hFq7544 wNw_wSt0
                refine y_if 118 117 c138_114 rfl rfl (yz_ne (by omega)) (fun hb7549 => ?_) (fun hb7549 => ?_)
                · have es7550 : mq7544 376 1 = m 376 1 := ((hFq7544 376 1 rfl).trans ((hFq7534 376 1 rfl).trans (hFq7350 376 1 rfl)))
                  have tb7551 := hTq7544.atp 376 3 0 3 rfl
                  have tb7552 := hTq7544.atp 376 6 0 320 rfl
                  have tb7553 := hTq7544.atp 376 8 ((-1)) 320 rfl
                  exact y_retU c138_118 ⟨rfl, hTq7544, hF7548, by omega, Or.inl (by omega)⟩
                · have es7554 : mq7544 376 1 = m 376 1 := ((hFq7544 376 1 rfl).trans ((hFq7534 376 1 rfl).trans (hFq7350 376 1 rfl)))
                  have tb7555 := hTq7544.atp 376 3 0 3 rfl
                  have tb7556 := hTq7544.atp 376 6 0 320 rfl
                  have tb7557 := hTq7544.atp 376 8 ((-1)) 320 rfl
                  exact y_retU c138_117 ⟨rfl, hTq7544, hF7548, by omega, Or.inl (by omega)⟩
            · refine y_aload 97 c138_96 rfl rfl rfl ?_
              refine y_iload 98 c138_97 rfl rfl ?_
              have es7559 : mq7534 376 1 = m 376 1 := ((hFq7534 376 1 rfl).trans (hFq7350 376 1 rfl))
              have tb7560 := hTq7534.atp 376 3 0 3 rfl
              have tb7561 := hTq7534.atp 376 6 0 320 rfl
              have tb7562 := hTq7534.atp 376 8 ((-1)) 320 rfl
              have es7563 : mq7534 376 18 = m 376 18 := ((hFq7534 376 18 rfl).trans (hFq7350 376 18 rfl))
              have es7564 : mq7534 390 0 = m 390 0 := ((hFq7534 390 0 rfl).trans (hFq7350 390 0 rfl))
              have es7565 : mq7534 386 0 = m 386 0 := ((hFq7534 386 0 rfl).trans (hFq7350 386 0 rfl))
              have es7566 : mq7534 387 0 = m 387 0 := ((hFq7534 387 0 rfl).trans (hFq7350 387 0 rfl))
              have es7567 : mq7534 388 0 = m 388 0 := ((hFq7534 388 0 rfl).trans (hFq7350 388 0 rfl))
              have es7568 : mq7534 376 17 = m 376 17 := ((hFq7534 376 17 rfl).trans (hFq7350 376 17 rfl))
              have tb7569 := hT.atp 376 17 0 20 rfl
              have es7570 : mq7534 384 0 = m 384 0 := ((hFq7534 384 0 rfl).trans (hFq7350 384 0 rfl))
              refine y_callUB 101 [.ref 376, yI rq7350] [] c138_98 rfl rfl rfl rfl rfl (ycanO km137 ko376) (t137_0 hTq7534 (by omega) (by omega) (by omega) ((hX.fw hFq7350 wVr0_X).fw hFq7534 wNw_X) (by omega) (by omega) (by omega)) (fun mq7558 nq7558 hq7558 => ?_)
              obtain ⟨rfl, hTq7558, hFq7558, hlq7558, hq7558⟩ := hq7558
              have hAq7558 : 0 ≤ mq7558 376 8 ∨ (mq7558 376 8 < 0 ∧ mu mq7558 ≤ mu mq7534 ∧ mq7558 390 0 = m 390 0 + 1) := by rcases hq7558 with q | q; exact Or.inl q; exact Or.inr ⟨q.1, by omega, by omega⟩
              have x1q7558 : mq7558 376 1 = m 376 1 := ((hFq7558 376 1 rfl).trans ((hFq7534 376 1 rfl).trans (hFq7350 376 1 rfl)))
              have hF7571 := hF7537.tr hFq7558 (fun _ _ e => e)
              refine y_aload 102 c138_101 rfl rfl rfl ?_
              refine y_getX 105 (mq7558 376 8) c138_102 rfl kf376_8 rfl ?_
              have tb7572 := hTq7558.atp 376 8 ((-1)) 320 rfl
              refine y_if 118 108 c138_105 rfl rfl (yz_ge (by omega)) (fun hb7573 => ?_) (fun hb7573 => ?_)
              · have es7574 : mq7558 376 1 = m 376 1 := ((hFq7558 376 1 rfl).trans ((hFq7534 376 1 rfl).trans (hFq7350 376 1 rfl)))
                have tb7575 := hTq7558.atp 376 3 0 3 rfl
                have tb7576 := hTq7558.atp 376 6 0 320 rfl
                have tb7577 := hTq7558.atp 390 0 0 125 rfl
                have tb7578 := hTq7558.atp 386 0 0 12 rfl
                have tb7579 := hTq7558.atp 387 0 0 8 rfl
                have tb7580 := hTq7558.atp 388 0 0 12 rfl
                have tb7581 := hTq7558.atp 376 17 0 20 rfl
                have es7582 : mq7558 384 0 = m 384 0 := ((hFq7558 384 0 rfl).trans ((hFq7534 384 0 rfl).trans (hFq7350 384 0 rfl)))
                exact y_retU c138_118 ⟨rfl, hTq7558, hF7571, by omega, (by first | exact Or.inl (by omega) | exact Or.inr ⟨by omega, by omega, by omega, (hq7558.resolve_left (by omega)).2.2.2⟩ | (by_cases hq : 0 ≤ mq7558 376 8 <;> first | exact Or.inl (by omega) | exact Or.inr ⟨by omega, by omega, by omega, (hq7558.resolve_left (by omega)).2.2.2⟩))⟩
              · refine y_aload 109 c138_108 rfl rfl rfl ?_
                refine y_iconst 111 c138_109 rfl ?_
                have es7584 : mq7558 376 1 = m 376 1 := ((hFq7558 376 1 rfl).trans ((hFq7534 376 1 rfl).trans (hFq7350 376 1 rfl)))
                have tb7585 := hTq7558.atp 376 3 0 3 rfl
                have tb7586 := hTq7558.atp 376 6 0 320 rfl
                refine y_callIB 114 [.ref 376, yI 59] [] c138_111 rfl rfl rfl rfl rfl (ycanO km118 ko376) (t118 hTq7558 (by omega) (by omega)) (fun rq7583 mq7583 nq7583 hq7583 => ?_)
                obtain ⟨rfl, hTq7583, hFq7583, hq7583⟩ := hq7583
                have x1q7583 : mq7583 376 1 = m 376 1 := ((hFq7583 376 1 rfl).trans ((hFq7558 376 1 rfl).trans ((hFq7534 376 1 rfl).trans (hFq7350 376 1 rfl))))
                have hF7587 := hF7571.tr hFq7583 wNw_wSt0
                refine y_if 118 117 c138_114 rfl rfl (yz_ne (by omega)) (fun hb7588 => ?_) (fun hb7588 => ?_)
                · have es7589 : mq7583 376 1 = m 376 1 := ((hFq7583 376 1 rfl).trans ((hFq7558 376 1 rfl).trans ((hFq7534 376 1 rfl).trans (hFq7350 376 1 rfl))))
                  have tb7590 := hTq7583.atp 376 3 0 3 rfl
                  have tb7591 := hTq7583.atp 376 6 0 320 rfl
                  have tb7592 := hTq7583.atp 376 8 ((-1)) 320 rfl
                  have es7593 : mq7583 390 0 = mq7558 390 0 := (hFq7583 390 0 rfl)
                  have tb7594 := hTq7558.atp 390 0 0 125 rfl
                  have es7595 : mq7583 386 0 = mq7558 386 0 := (hFq7583 386 0 rfl)
                  have tb7596 := hTq7558.atp 386 0 0 12 rfl
                  have es7597 : mq7583 387 0 = mq7558 387 0 := (hFq7583 387 0 rfl)
                  have tb7598 := hTq7558.atp 387 0 0 8 rfl
                  have es7599 : mq7583 388 0 = mq7558 388 0 := (hFq7583 388 0 rfl)
                  have tb7600 := hTq7558.atp 388 0 0 12 rfl
                  have es7601 : mq7583 376 17 = mq7558 376 17 := (hFq7583 376 17 rfl)
                  have tb7602 := hTq7558.atp 376 17 0 20 rfl
                  have es7603 : mq7583 384 0 = m 384 0 := ((hFq7583 384 0 rfl).trans ((hFq7558 384 0 rfl).trans ((hFq7534 384 0 rfl).trans (hFq7350 384 0 rfl))))
                  exact y_retU c138_118 ⟨rfl, hTq7583, hF7587, by omega, (by first | exact Or.inl (by omega) | exact Or.inr ⟨by omega, by omega, by omega, (XS.fw (hq7558.resolve_left (by omega)).2.2.2 hFq7583 wNw_X)⟩ | (by_cases hq : 0 ≤ mq7583 376 8 <;> first | exact Or.inl (by omega) | exact Or.inr ⟨by omega, by omega, by omega, (XS.fw (hq7558.resolve_left (by omega)).2.2.2 hFq7583 wNw_X)⟩))⟩
                · have es7604 : mq7583 376 1 = m 376 1 := ((hFq7583 376 1 rfl).trans ((hFq7558 376 1 rfl).trans ((hFq7534 376 1 rfl).trans (hFq7350 376 1 rfl))))
                  have tb7605 := hTq7583.atp 376 3 0 3 rfl
                  have tb7606 := hTq7583.atp 376 6 0 320 rfl
                  have tb7607 := hTq7583.atp 376 8 ((-1)) 320 rfl
                  have es7608 : mq7583 390 0 = mq7558 390 0 := (hFq7583 390 0 rfl)
                  have tb7609 := hTq7558.atp 390 0 0 125 rfl
                  have es7610 : mq7583 386 0 = mq7558 386 0 := (hFq7583 386 0 rfl)
                  have tb7611 := hTq7558.atp 386 0 0 12 rfl
                  have es7612 : mq7583 387 0 = mq7558 387 0 := (hFq7583 387 0 rfl)
                  have tb7613 := hTq7558.atp 387 0 0 8 rfl
                  have es7614 : mq7583 388 0 = mq7558 388 0 := (hFq7583 388 0 rfl)
                  have tb7615 := hTq7558.atp 388 0 0 12 rfl
                  have es7616 : mq7583 376 17 = mq7558 376 17 := (hFq7583 376 17 rfl)
                  have tb7617 := hTq7558.atp 376 17 0 20 rfl
                  have es7618 : mq7583 384 0 = m 384 0 := ((hFq7583 384 0 rfl).trans ((hFq7558 384 0 rfl).trans ((hFq7534 384 0 rfl).trans (hFq7350 384 0 rfl))))
                  exact y_retU c138_117 ⟨rfl, hTq7583, hF7587, by omega, (by first | exact Or.inl (by omega) | exact Or.inr ⟨by omega, by omega, by omega, (XS.fw (hq7558.resolve_left (by omega)).2.2.2 hFq7583 wNw_X)⟩ | (by_cases hq : 0 ≤ mq7583 376 8 <;> first | exact Or.inl (by omega) | exact Or.inr ⟨by omega, by omega, by omega, (XS.fw (hq7558.resolve_left (by omega)).2.2.2 hFq7583 wNw_X)⟩))⟩
      · refine y_aload 64 c138_63 rfl rfl rfl ?_
        refine y_iload 65 c138_64 rfl rfl ?_
        have es7620 : mq7350 376 1 = m 376 1 := (hFq7350 376 1 rfl)
        have tb7621 := hTq7350.atp 376 6 0 320 rfl
        have es7622 : mq7350 376 18 = m 376 18 := (hFq7350 376 18 rfl)
        have es7623 : mq7350 390 0 = m 390 0 := (hFq7350 390 0 rfl)
        have es7624 : mq7350 386 0 = m 386 0 := (hFq7350 386 0 rfl)
        have es7625 : mq7350 387 0 = m 387 0 := (hFq7350 387 0 rfl)
        have es7626 : mq7350 388 0 = m 388 0 := (hFq7350 388 0 rfl)
        have es7627 : mq7350 376 17 = m 376 17 := (hFq7350 376 17 rfl)
        have tb7628 := hT.atp 376 17 0 20 rfl
        have es7629 : mq7350 384 0 = m 384 0 := (hFq7350 384 0 rfl)
        refine y_callUB 68 [.ref 376, yI rq7350] [] c138_65 rfl rfl rfl rfl rfl (ycanO km133 ko376) (t133_0 hTq7350 (by omega) (by omega) (by omega) (hX.fw hFq7350 wVr0_X) (by omega) (by omega) (by omega)) (fun mq7619 nq7619 hq7619 => ?_)
        obtain ⟨rfl, hTq7619, hFq7619, hlq7619, hq7619⟩ := hq7619
        have hAq7619 : 0 ≤ mq7619 376 8 ∨ (mq7619 376 8 < 0 ∧ mu mq7619 ≤ mu mq7350 ∧ mq7619 390 0 = m 390 0 + 1) := by rcases hq7619 with q | q; exact Or.inl q; exact Or.inr ⟨q.1, by omega, by omega⟩
        have x1q7619 : mq7619 376 1 = m 376 1 := ((hFq7619 376 1 rfl).trans (hFq7350 376 1 rfl))
        have hF7630 := hF7355.tr hFq7619 (fun _ _ e => e)
        refine y_goto 101 c138_68 rfl ?_
        refine y_aload 102 c138_101 rfl rfl rfl ?_
        refine y_getX 105 (mq7619 376 8) c138_102 rfl kf376_8 rfl ?_
        have tb7631 := hTq7619.atp 376 8 ((-1)) 320 rfl
        refine y_if 118 108 c138_105 rfl rfl (yz_ge (by omega)) (fun hb7632 => ?_) (fun hb7632 => ?_)
        · have es7633 : mq7619 376 1 = m 376 1 := ((hFq7619 376 1 rfl).trans (hFq7350 376 1 rfl))
          have tb7634 := hTq7619.atp 376 3 0 3 rfl
          have tb7635 := hTq7619.atp 376 6 0 320 rfl
          have tb7636 := hTq7619.atp 390 0 0 125 rfl
          have tb7637 := hTq7619.atp 386 0 0 12 rfl
          have tb7638 := hTq7619.atp 387 0 0 8 rfl
          have tb7639 := hTq7619.atp 388 0 0 12 rfl
          have tb7640 := hTq7619.atp 376 17 0 20 rfl
          have es7641 : mq7619 384 0 = m 384 0 := ((hFq7619 384 0 rfl).trans (hFq7350 384 0 rfl))
          exact y_retU c138_118 ⟨rfl, hTq7619, hF7630, by omega, (by first | exact Or.inl (by omega) | exact Or.inr ⟨by omega, by omega, by omega, (hq7619.resolve_left (by omega)).2.2.2⟩ | (by_cases hq : 0 ≤ mq7619 376 8 <;> first | exact Or.inl (by omega) | exact Or.inr ⟨by omega, by omega, by omega, (hq7619.resolve_left (by omega)).2.2.2⟩))⟩
        · refine y_aload 109 c138_108 rfl rfl rfl ?_
          refine y_iconst 111 c138_109 rfl ?_
          have es7643 : mq7619 376 1 = m 376 1 := ((hFq7619 376 1 rfl).trans (hFq7350 376 1 rfl))
          have tb7644 := hTq7619.atp 376 3 0 3 rfl
          have tb7645 := hTq7619.atp 376 6 0 320 rfl
          refine y_callIB 114 [.ref 376, yI 59] [] c138_111 rfl rfl rfl rfl rfl (ycanO km118 ko376) (t118 hTq7619 (by omega) (by omega)) (fun rq7642 mq7642 nq7642 hq7642 => ?_)
          obtain ⟨rfl, hTq7642, hFq7642, hq7642⟩ := hq7642
          have x1q7642 : mq7642 376 1 = m 376 1 := ((hFq7642 376 1 rfl).trans ((hFq7619 376 1 rfl).trans (hFq7350 376 1 rfl)))
          have hF7646 := hF7630.tr hFq7642 wNw_wSt0
          refine y_if 118 117 c138_114 rfl rfl (yz_ne (by omega)) (fun hb7647 => ?_) (fun hb7647 => ?_)
          · have es7648 : mq7642 376 1 = m 376 1 := ((hFq7642 376 1 rfl).trans ((hFq7619 376 1 rfl).trans (hFq7350 376 1 rfl)))
            have tb7649 := hTq7642.atp 376 3 0 3 rfl
            have tb7650 := hTq7642.atp 376 6 0 320 rfl
            have tb7651 := hTq7642.atp 376 8 ((-1)) 320 rfl
            have es7652 : mq7642 390 0 = mq7619 390 0 := (hFq7642 390 0 rfl)
            have tb7653 := hTq7619.atp 390 0 0 125 rfl
            have es7654 : mq7642 386 0 = mq7619 386 0 := (hFq7642 386 0 rfl)
            have tb7655 := hTq7619.atp 386 0 0 12 rfl
            have es7656 : mq7642 387 0 = mq7619 387 0 := (hFq7642 387 0 rfl)
            have tb7657 := hTq7619.atp 387 0 0 8 rfl
            have es7658 : mq7642 388 0 = mq7619 388 0 := (hFq7642 388 0 rfl)
            have tb7659 := hTq7619.atp 388 0 0 12 rfl
            have es7660 : mq7642 376 17 = mq7619 376 17 := (hFq7642 376 17 rfl)
            have tb7661 := hTq7619.atp 376 17 0 20 rfl
            have es7662 : mq7642 384 0 = m 384 0 := ((hFq7642 384 0 rfl).trans ((hFq7619 384 0 rfl).trans (hFq7350 384 0 rfl)))
            exact y_retU c138_118 ⟨rfl, hTq7642, hF7646, by omega, (by first | exact Or.inl (by omega) | exact Or.inr ⟨by omega, by omega, by omega, (XS.fw (hq7619.resolve_left (by omega)).2.2.2 hFq7642 wNw_X)⟩ | (by_cases hq : 0 ≤ mq7642 376 8 <;> first | exact Or.inl (by omega) | exact Or.inr ⟨by omega, by omega, by omega, (XS.fw (hq7619.resolve_left (by omega)).2.2.2 hFq7642 wNw_X)⟩))⟩
          · have es7663 : mq7642 376 1 = m 376 1 := ((hFq7642 376 1 rfl).trans ((hFq7619 376 1 rfl).trans (hFq7350 376 1 rfl)))
            have tb7664 := hTq7642.atp 376 3 0 3 rfl
            have tb7665 := hTq7642.atp 376 6 0 320 rfl
            have tb7666 := hTq7642.atp 376 8 ((-1)) 320 rfl
            have es7667 : mq7642 390 0 = mq7619 390 0 := (hFq7642 390 0 rfl)
            have tb7668 := hTq7619.atp 390 0 0 125 rfl
            have es7669 : mq7642 386 0 = mq7619 386 0 := (hFq7642 386 0 rfl)
            have tb7670 := hTq7619.atp 386 0 0 12 rfl
            have es7671 : mq7642 387 0 = mq7619 387 0 := (hFq7642 387 0 rfl)
            have tb7672 := hTq7619.atp 387 0 0 8 rfl
            have es7673 : mq7642 388 0 = mq7619 388 0 := (hFq7642 388 0 rfl)
            have tb7674 := hTq7619.atp 388 0 0 12 rfl
            have es7675 : mq7642 376 17 = mq7619 376 17 := (hFq7642 376 17 rfl)
            have tb7676 := hTq7619.atp 376 17 0 20 rfl
            have es7677 : mq7642 384 0 = m 384 0 := ((hFq7642 384 0 rfl).trans ((hFq7619 384 0 rfl).trans (hFq7350 384 0 rfl)))
            exact y_retU c138_117 ⟨rfl, hTq7642, hF7646, by omega, (by first | exact Or.inl (by omega) | exact Or.inr ⟨by omega, by omega, by omega, (XS.fw (hq7619.resolve_left (by omega)).2.2.2 hFq7642 wNw_X)⟩ | (by_cases hq : 0 ≤ mq7642 376 8 <;> first | exact Or.inl (by omega) | exact Or.inr ⟨by omega, by omega, by omega, (XS.fw (hq7619.resolve_left (by omega)).2.2.2 hFq7642 wNw_X)⟩))⟩
    · have es7678 : mq7350 376 1 = m 376 1 := (hFq7350 376 1 rfl)
      have tb7679 := hTq7350.atp 376 3 0 3 rfl
      have tb7680 := hTq7350.atp 376 6 0 320 rfl
      exact y_retU c138_53 ⟨rfl, hTq7350, hF7355, by omega, Or.inl (by omega)⟩
  · refine y_aload 13 c138_12 rfl rfl rfl ?_
    have tb7682 := hT.atp 376 1 0 320 rfl
    have tb7683 := hT.atp 376 6 0 320 rfl
    have tb7684 := hT.atp 376 8 ((-1)) 320 rfl
    refine y_callUB 16 [.ref 376] [] c138_13 rfl rfl rfl rfl rfl (ycanO km99 ko376) (t99u hT (by omega)) (fun mq7681 nq7681 hq7681 => ?_)
    obtain ⟨rfl, hTq7681, hFq7681, hq7681⟩ := hq7681
    have x1q7681 : mq7681 376 1 = m 376 1 := (hFq7681 376 1 rfl)
    have hF7685 := hF.tr hFq7681 wNx_wSt0
    refine y_aload 17 c138_16 rfl rfl rfl ?_
    have es7687 : mq7681 376 1 = m 376 1 := (hFq7681 376 1 rfl)
    have tb7688 := hTq7681.atp 376 3 0 3 rfl
    have tb7689 := hTq7681.atp 376 6 0 320 rfl
    have es7690 : mq7681 376 8 = m 376 8 := (hFq7681 376 8 rfl)
    have es7691 : mq7681 376 18 = m 376 18 := (hFq7681 376 18 rfl)
    have tb7692 := hT.atp 376 18 0 1 rfl
    refine y_callIB 20 [.ref 376] [] c138_17 rfl rfl rfl rfl rfl (ycanO km130 ko376) (t130_0 hTq7681 (by omega) (by omega) (by omega)) (fun rq7686 mq7686 nq7686 hq7686 => ?_)
    obtain ⟨rfl, hTq7686, hFq7686, hq7686⟩ := hq7686
    have x1q7686 : mq7686 376 1 = m 376 1 := ((hFq7686 376 1 rfl).trans (hFq7681 376 1 rfl))
    have hF7693 := hF7685.tr hFq7686 wVr0_wSt0
    refine y_istore 21 c138_20 rfl rfl ?_
    refine y_aload 22 c138_21 rfl rfl rfl ?_
    refine y_getX 25 (mq7686 376 8) c138_22 rfl kf376_8 rfl ?_
    have tb7694 := hTq7686.atp 376 8 ((-1)) 320 rfl
    refine y_if 38 28 c138_25 rfl rfl (yz_ge (by omega)) (fun hb7695 => ?_) (fun hb7695 => ?_)
    · refine y_goto 101 c138_38 rfl ?_
      refine y_aload 102 c138_101 rfl rfl rfl ?_
      refine y_getX 105 (mq7686 376 8) c138_102 rfl kf376_8 rfl ?_
      refine y_if 118 108 c138_105 rfl rfl (yz_ge (by omega)) (fun hb7696 => ?_) (fun hb7696 => ?_)
      · have es7697 : mq7686 376 1 = m 376 1 := ((hFq7686 376 1 rfl).trans (hFq7681 376 1 rfl))
        have tb7698 := hTq7686.atp 376 3 0 3 rfl
        have tb7699 := hTq7686.atp 376 6 0 320 rfl
        exact y_retU c138_118 ⟨rfl, hTq7686, hF7693, by omega, Or.inl (by omega)⟩
      · exfalso; omega
    · refine y_aload 29 c138_28 rfl rfl rfl ?_
      refine y_iconst 31 c138_29 rfl ?_
      refine y_iload 32 c138_31 rfl rfl ?_
      refine y_iconst 33 c138_32 rfl ?_
      refine y_iconst 34 c138_33 rfl ?_
      have es7701 : mq7686 376 1 = m 376 1 := ((hFq7686 376 1 rfl).trans (hFq7681 376 1 rfl))
      have tb7702 := hTq7686.atp 376 3 0 3 rfl
      have tb7703 := hTq7686.atp 376 6 0 320 rfl
      have es7704 : mq7686 376 18 = m 376 18 := ((hFq7686 376 18 rfl).trans (hFq7681 376 18 rfl))
      have es7705 : mq7686 390 0 = m 390 0 := ((hFq7686 390 0 rfl).trans (hFq7681 390 0 rfl))
      have es7706 : mq7686 386 0 = m 386 0 := ((hFq7686 386 0 rfl).trans (hFq7681 386 0 rfl))
      have es7707 : mq7686 387 0 = m 387 0 := ((hFq7686 387 0 rfl).trans (hFq7681 387 0 rfl))
      have es7708 : mq7686 388 0 = m 388 0 := ((hFq7686 388 0 rfl).trans (hFq7681 388 0 rfl))
      have es7709 : mq7686 376 17 = m 376 17 := ((hFq7686 376 17 rfl).trans (hFq7681 376 17 rfl))
      have tb7710 := hT.atp 376 17 0 20 rfl
      have es7711 : mq7686 384 0 = m 384 0 := ((hFq7686 384 0 rfl).trans (hFq7681 384 0 rfl))
      refine y_callIB 37 [.ref 376, yI 6, yI rq7686, yI 0, yI 0] [] c138_34 rfl rfl rfl rfl rfl (ycanO km127 ko376) (t127_0 hTq7686 (by omega) (by omega) (by omega) (by omega) (by omega) (by omega)) (fun rq7700 mq7700 nq7700 hq7700 => ?_)
      obtain ⟨rfl, hTq7700, hFq7700, hq7700, hE⟩ := hq7700
      unfold EM at hE
      rw [show mq7686 390 0 = m 390 0 from ((hFq7686 390 0 rfl).trans (hFq7681 390 0 rfl))] at hE
      obtain ⟨k1, k2, k3, k4, k5, k6, k7⟩ := hE
      have k8 : ∀ q, q < 1000 * 0 + 8 * (m 390 0).toNat ∨ 1000 * 0 + 8 * (m 390 0).toNat + 8 ≤ q → mq7700 403 q = m 403 q := fun q hq => (k7 q hq).trans (((hFq7686 403 q rfl).trans (hFq7681 403 q rfl)))
      have x1q7700 : mq7700 376 1 = m 376 1 := ((hFq7700 376 1 rfl).trans ((hFq7686 376 1 rfl).trans (hFq7681 376 1 rfl)))
      have hF7712 := hF7693.tr hFq7700 wEm0_wSt0
      refine y_istore 38 c138_37 rfl rfl ?_
      refine y_goto 101 c138_38 rfl ?_
      refine y_aload 102 c138_101 rfl rfl rfl ?_
      refine y_getX 105 (mq7686 376 8) c138_102 rfl kf376_8 (hFq7700 376 8 rfl) ?_
      refine y_top ((-1)) (by omega) ?_
      refine y_if 118 108 c138_105 rfl rfl (yz_ge (by omega)) (fun hb7713 => ?_) (fun hb7713 => ?_)
      · exfalso; omega
      · refine y_aload 109 c138_108 rfl rfl rfl ?_
        refine y_iconst 111 c138_109 rfl ?_
        have es7715 : mq7700 376 1 = m 376 1 := ((hFq7700 376 1 rfl).trans ((hFq7686 376 1 rfl).trans (hFq7681 376 1 rfl)))
        have es7716 : mq7700 376 3 = mq7686 376 3 := (hFq7700 376 3 rfl)
        have es7717 : mq7700 376 6 = mq7686 376 6 := (hFq7700 376 6 rfl)
        have es7718 : mq7700 376 8 = mq7686 376 8 := (hFq7700 376 8 rfl)
        have em7719 : mu mq7700 = mu mq7686 := mu_fr (hFq7700 376 1 rfl) (hFq7700 376 3 rfl) (hFq7700 376 6 rfl)
        refine y_callIB 114 [.ref 376, yI 59] [] c138_111 rfl rfl rfl rfl rfl (ycanO km118 ko376) (t118 hTq7700 (by omega) (by omega)) (fun rq7714 mq7714 nq7714 hq7714 => ?_)
        obtain ⟨rfl, hTq7714, hFq7714, hq7714⟩ := hq7714
        have x1q7714 : mq7714 376 1 = m 376 1 := ((hFq7714 376 1 rfl).trans ((hFq7700 376 1 rfl).trans ((hFq7686 376 1 rfl).trans (hFq7681 376 1 rfl))))
        have hF7720 := hF7712.tr hFq7714 wNw_wSt0
        refine y_if 118 117 c138_114 rfl rfl (yz_ne (by omega)) (fun hb7721 => ?_) (fun hb7721 => ?_)
        · have es7722 : mq7714 376 1 = m 376 1 := ((hFq7714 376 1 rfl).trans ((hFq7700 376 1 rfl).trans ((hFq7686 376 1 rfl).trans (hFq7681 376 1 rfl))))
          have tb7723 := hTq7714.atp 376 3 0 3 rfl
          have tb7724 := hTq7714.atp 376 6 0 320 rfl
          have tb7725 := hTq7714.atp 376 8 ((-1)) 320 rfl
          have es7726 : mq7714 390 0 = mq7700 390 0 := (hFq7714 390 0 rfl)
          have tb7727 := hTq7700.atp 390 0 0 125 rfl
          have es7728 : mq7714 386 0 = m 386 0 := ((hFq7714 386 0 rfl).trans ((hFq7700 386 0 rfl).trans ((hFq7686 386 0 rfl).trans (hFq7681 386 0 rfl))))
          have es7729 : mq7714 387 0 = m 387 0 := ((hFq7714 387 0 rfl).trans ((hFq7700 387 0 rfl).trans ((hFq7686 387 0 rfl).trans (hFq7681 387 0 rfl))))
          have es7730 : mq7714 388 0 = m 388 0 := ((hFq7714 388 0 rfl).trans ((hFq7700 388 0 rfl).trans ((hFq7686 388 0 rfl).trans (hFq7681 388 0 rfl))))
          have es7731 : mq7714 376 17 = m 376 17 := ((hFq7714 376 17 rfl).trans ((hFq7700 376 17 rfl).trans ((hFq7686 376 17 rfl).trans (hFq7681 376 17 rfl))))
          have es7732 : mq7714 384 0 = m 384 0 := ((hFq7714 384 0 rfl).trans ((hFq7700 384 0 rfl).trans ((hFq7686 384 0 rfl).trans (hFq7681 384 0 rfl))))
          have f0 : mq7714 403 (1000 * 0 + 8 * (m 390 0).toNat) = _ := ((hFq7714 403 _ rfl)).trans k2
          have f1 : mq7714 403 (1000 * 0 + 8 * (m 390 0).toNat + 1) = _ := ((hFq7714 403 _ rfl)).trans k3
          have f2 : mq7714 403 (1000 * 0 + 8 * (m 390 0).toNat + 2) = _ := ((hFq7714 403 _ rfl)).trans k4
          have f3 : mq7714 403 (1000 * 0 + 8 * (m 390 0).toNat + 3) = _ := ((hFq7714 403 _ rfl)).trans k5
          have f4 : mq7714 403 (1000 * 0 + 8 * (m 390 0).toNat + 4) = _ := ((hFq7714 403 _ rfl)).trans k6
          have hw : OW mq7714 (1000 * 0 + 8 * (m 390 0).toNat) := by unfold OW; omega
          have hx : XS 0 mq7714 := XS.add hX (by omega) (fun a q ha => hF7720 a q (wSt0_Y a q ha)) (fun q hq => ((hFq7714 403 q rfl)).trans (k8 q hq)) hw (by omega) (by omega) (by omega) (by omega) (by omega) (by omega) (by omega) (fun c hc => by rw [show mq7714 401 (8 * 0 + c) = m 401 (8 * 0 + c) from ((hFq7714 401 _ rfl).trans ((hFq7700 401 _ rfl).trans ((hFq7686 401 _ rfl).trans (hFq7681 401 _ rfl))))]; exact hCV c (by omega)) (by omega) (by omega)
          exact y_retU c138_118 ⟨rfl, hTq7714, hF7720, by omega, by first | exact Or.inl (by omega) | exact Or.inr ⟨by omega, by omega, by omega, hx⟩⟩
        · have es7733 : mq7714 376 1 = m 376 1 := ((hFq7714 376 1 rfl).trans ((hFq7700 376 1 rfl).trans ((hFq7686 376 1 rfl).trans (hFq7681 376 1 rfl))))
          have tb7734 := hTq7714.atp 376 3 0 3 rfl
          have tb7735 := hTq7714.atp 376 6 0 320 rfl
          have tb7736 := hTq7714.atp 376 8 ((-1)) 320 rfl
          have es7737 : mq7714 390 0 = mq7700 390 0 := (hFq7714 390 0 rfl)
          have tb7738 := hTq7700.atp 390 0 0 125 rfl
          have es7739 : mq7714 386 0 = m 386 0 := ((hFq7714 386 0 rfl).trans ((hFq7700 386 0 rfl).trans ((hFq7686 386 0 rfl).trans (hFq7681 386 0 rfl))))
          have es7740 : mq7714 387 0 = m 387 0 := ((hFq7714 387 0 rfl).trans ((hFq7700 387 0 rfl).trans ((hFq7686 387 0 rfl).trans (hFq7681 387 0 rfl))))
          have es7741 : mq7714 388 0 = m 388 0 := ((hFq7714 388 0 rfl).trans ((hFq7700 388 0 rfl).trans ((hFq7686 388 0 rfl).trans (hFq7681 388 0 rfl))))
          have es7742 : mq7714 376 17 = m 376 17 := ((hFq7714 376 17 rfl).trans ((hFq7700 376 17 rfl).trans ((hFq7686 376 17 rfl).trans (hFq7681 376 17 rfl))))
          have es7743 : mq7714 384 0 = m 384 0 := ((hFq7714 384 0 rfl).trans ((hFq7700 384 0 rfl).trans ((hFq7686 384 0 rfl).trans (hFq7681 384 0 rfl))))
          have f0 : mq7714 403 (1000 * 0 + 8 * (m 390 0).toNat) = _ := ((hFq7714 403 _ rfl)).trans k2
          have f1 : mq7714 403 (1000 * 0 + 8 * (m 390 0).toNat + 1) = _ := ((hFq7714 403 _ rfl)).trans k3
          have f2 : mq7714 403 (1000 * 0 + 8 * (m 390 0).toNat + 2) = _ := ((hFq7714 403 _ rfl)).trans k4
          have f3 : mq7714 403 (1000 * 0 + 8 * (m 390 0).toNat + 3) = _ := ((hFq7714 403 _ rfl)).trans k5
          have f4 : mq7714 403 (1000 * 0 + 8 * (m 390 0).toNat + 4) = _ := ((hFq7714 403 _ rfl)).trans k6
          have hw : OW mq7714 (1000 * 0 + 8 * (m 390 0).toNat) := by unfold OW; omega
          have hx : XS 0 mq7714 := XS.add hX (by omega) (fun a q ha => hF7720 a q (wSt0_Y a q ha)) (fun q hq => ((hFq7714 403 q rfl)).trans (k8 q hq)) hw (by omega) (by omega) (by omega) (by omega) (by omega) (by omega) (by omega) (fun c hc => by rw [show mq7714 401 (8 * 0 + c) = m 401 (8 * 0 + c) from ((hFq7714 401 _ rfl).trans ((hFq7700 401 _ rfl).trans ((hFq7686 401 _ rfl).trans (hFq7681 401 _ rfl))))]; exact hCV c (by omega)) (by omega) (by omega)
          exact y_retU c138_117 ⟨rfl, hTq7714, hF7720, by omega, by first | exact Or.inl (by omega) | exact Or.inr ⟨by omega, by omega, by omega, hx⟩⟩
set_option maxRecDepth 100000 in
theorem t138_1 {L : Nat} {xs : Nat → Int32} {d nn : Nat} {m : yM} (hT : Ty gT m) (hl : m 376 6 ≤ m 376 1) (hn : m 376 18 = 0) (h8 : m 376 8 < 0) (hX : XS 1 m) (h84 : 1 ≤ m 384 1) (h90 : m 390 1 ≤ 100) (h3 : m 376 3 ≠ 0) : YC (gZ L xs) (d + 7) 138 [.ref 376] m nn (qU (fun m' n' => n' = nn ∧ Ty gT m' ∧ Fr wSt1 m m' ∧ m' 376 6 ≤ m' 376 1 ∧ (0 ≤ m' 376 8 ∨ (m' 376 8 < 0 ∧ mu m' < mu m ∧ m' 390 1 = m 390 1 + 1 ∧ XS 1 m')))) := by
  have tb8 := hT.atp 376 8 (-1) 320 rfl
  have tc384 := hT.atp 384 1 0 10 rfl
  have tc386 := hT.atp 386 1 0 12 rfl
  have tc387 := hT.atp 387 1 0 8 rfl
  have tc388 := hT.atp 388 1 0 12 rfl
  have tc389 := hT.atp 389 1 0 48 rfl
  have tc390 := hT.atp 390 1 0 125 rfl
  have hsc := hX.2.2.2.2.2
  have hCV := hX.2.2.2.2.2.2.2.1
  refine YC.mkB [some (.ref 376), none, none] kn138 rfl rfl ?_
  have hF : Fr wSt1 m m := Fr.rf
  refine y_aload 1 c138_0 rfl rfl rfl ?_
  have tb8550 := hT.atp 376 3 0 3 rfl
  refine y_callP 4 [.ref 376] [] c138_1 rfl rfl rfl rfl rfl (ycanO km115 ko376) (t115 hT) (fun r8551 hr8551 => ?_)
  refine y_istore 5 c138_4 rfl rfl ?_
  refine y_aload 6 c138_5 rfl rfl rfl ?_
  refine y_callP 9 [.ref 376] [] c138_6 rfl rfl rfl rfl rfl (ycanO km113 ko376) (t113 hT) (fun r8552 hr8552 => ?_)
  refine y_if 41 12 c138_9 rfl rfl (yz_eq (by omega)) (fun hb8553 => ?_) (fun hb8553 => ?_)
  · refine y_aload 42 c138_41 rfl rfl rfl ?_
    have tb8555 := hT.atp 376 1 0 320 rfl
    have tb8556 := hT.atp 376 6 0 320 rfl
    have tb8557 := hT.atp 376 8 ((-1)) 320 rfl
    have tb8558 := hT.atp 376 18 0 1 rfl
    refine y_callIB 45 [.ref 376] [] c138_42 rfl rfl rfl rfl rfl (ycanO km130 ko376) (t130_1 hT (by omega) (by omega) (by omega)) (fun rq8554 mq8554 nq8554 hq8554 => ?_)
    obtain ⟨rfl, hTq8554, hFq8554, hq8554⟩ := hq8554
    have x1q8554 : mq8554 376 1 = m 376 1 := (hFq8554 376 1 rfl)
    have hF8559 := hF.tr hFq8554 wVr1_wSt1
    refine y_istore 46 c138_45 rfl rfl ?_
    refine y_aload 47 c138_46 rfl rfl rfl ?_
    refine y_getX 50 (mq8554 376 8) c138_47 rfl kf376_8 rfl ?_
    have tb8560 := hTq8554.atp 376 8 ((-1)) 320 rfl
    refine y_if 54 53 c138_50 rfl rfl (yz_lt (by omega)) (fun hb8561 => ?_) (fun hb8561 => ?_)
    · refine y_aload 55 c138_54 rfl rfl rfl ?_
      refine y_iconst 57 c138_55 rfl ?_
      have tb8562 := hTq8554.atp 376 3 0 3 rfl
      refine y_callP 60 [.ref 376, yI 46] [] c138_57 rfl rfl rfl rfl rfl (ycanO km117 ko376) (t117 hTq8554 (by omega)) (fun r8563 hr8563 => ?_)
      refine y_if 71 63 c138_60 rfl rfl (yz_eq (by omega)) (fun hb8564 => ?_) (fun hb8564 => ?_)
      · refine y_aload 72 c138_71 rfl rfl rfl ?_
        refine y_iload 73 c138_72 rfl rfl ?_
        refine y_if 89 76 c138_73 rfl rfl (yz_eq (by omega)) (fun hb8565 => ?_) (fun hb8565 => ?_)
        · refine y_iconst 90 c138_89 rfl ?_
          have es8567 : mq8554 376 1 = m 376 1 := (hFq8554 376 1 rfl)
          have tb8568 := hTq8554.atp 376 6 0 320 rfl
          refine y_callIB 93 [.ref 376, yI 0] [] c138_90 rfl rfl rfl rfl rfl (ycanO km105 ko376) (t105 (g := 0) hTq8554 (by omega) (by omega)) (fun rq8566 mq8566 nq8566 hq8566 => ?_)
          obtain ⟨rfl, hTq8566, hFq8566, hq8566⟩ := hq8566
          have x1q8566 : mq8566 376 1 = m 376 1 := ((hFq8566 376 1 rfl).trans (hFq8554 376 1 rfl))
          have hF8569 := hF8559.tr hFq8566 wNw_wSt1
          refine y_if 101 96 c138_93 rfl rfl (yz_eq (by omega)) (fun hb8570 => ?_) (fun hb8570 => ?_)
          · refine y_aload 102 c138_101 rfl rfl rfl ?_
            refine y_getX 105 (mq8566 376 8) c138_102 rfl kf376_8 rfl ?_
            have tb8571 := hTq8566.atp 376 8 ((-1)) 320 rfl
            refine y_if 118 108 c138_105 rfl rfl (yz_ge (by omega)) (fun hb8572 => ?_) (fun hb8572 => ?_)
            · have es8573 : mq8566 376 1 = m 376 1 := ((hFq8566 376 1 rfl).trans (hFq8554 376 1 rfl))
              have tb8574 := hTq8566.atp 376 3 0 3 rfl
              have tb8575 := hTq8566.atp 376 6 0 320 rfl
              exact y_retU c138_118 ⟨rfl, hTq8566, hF8569, by omega, Or.inl (by omega)⟩
            · refine y_aload 109 c138_108 rfl rfl rfl ?_
              refine y_iconst 111 c138_109 rfl ?_
              have es8577 : mq8566 376 1 = m 376 1 := ((hFq8566 376 1 rfl).trans (hFq8554 376 1 rfl))
              have tb8578 := hTq8566.atp 376 3 0 3 rfl
              have tb8579 := hTq8566.atp 376 6 0 320 rfl
              refine y_callIB 114 [.ref 376, yI 59] [] c138_111 rfl rfl rfl rfl rfl (ycanO km118 ko376) (t118 hTq8566 (by omega) (by omega)) (fun rq8576 mq8576 nq8576 hq8576 => ?_)
              obtain ⟨rfl, hTq8576, hFq8576, hq8576⟩ := hq8576
              have x1q8576 : mq8576 376 1 = m 376 1 := ((hFq8576 376 1 rfl).trans ((hFq8566 376 1 rfl).trans (hFq8554 376 1 rfl)))
              have hF8580 := hF8569.tr hFq8576 wNw_wSt1
              refine y_if 118 117 c138_114 rfl rfl (yz_ne (by omega)) (fun hb8581 => ?_) (fun hb8581 => ?_)
              · have es8582 : mq8576 376 1 = m 376 1 := ((hFq8576 376 1 rfl).trans ((hFq8566 376 1 rfl).trans (hFq8554 376 1 rfl)))
                have tb8583 := hTq8576.atp 376 3 0 3 rfl
                have tb8584 := hTq8576.atp 376 6 0 320 rfl
                have tb8585 := hTq8576.atp 376 8 ((-1)) 320 rfl
                exact y_retU c138_118 ⟨rfl, hTq8576, hF8580, by omega, Or.inl (by omega)⟩
              · have es8586 : mq8576 376 1 = m 376 1 := ((hFq8576 376 1 rfl).trans ((hFq8566 376 1 rfl).trans (hFq8554 376 1 rfl)))
                have tb8587 := hTq8576.atp 376 3 0 3 rfl
                have tb8588 := hTq8576.atp 376 6 0 320 rfl
                have tb8589 := hTq8576.atp 376 8 ((-1)) 320 rfl
                exact y_retU c138_117 ⟨rfl, hTq8576, hF8580, by omega, Or.inl (by omega)⟩
          · refine y_aload 97 c138_96 rfl rfl rfl ?_
            refine y_iload 98 c138_97 rfl rfl ?_
            have es8591 : mq8566 376 1 = m 376 1 := ((hFq8566 376 1 rfl).trans (hFq8554 376 1 rfl))
            have tb8592 := hTq8566.atp 376 3 0 3 rfl
            have tb8593 := hTq8566.atp 376 6 0 320 rfl
            have tb8594 := hTq8566.atp 376 8 ((-1)) 320 rfl
            have es8595 : mq8566 376 18 = m 376 18 := ((hFq8566 376 18 rfl).trans (hFq8554 376 18 rfl))
            have es8596 : mq8566 390 1 = m 390 1 := ((hFq8566 390 1 rfl).trans (hFq8554 390 1 rfl))
            have es8597 : mq8566 386 1 = m 386 1 := ((hFq8566 386 1 rfl).trans (hFq8554 386 1 rfl))
            have es8598 : mq8566 387 1 = m 387 1 := ((hFq8566 387 1 rfl).trans (hFq8554 387 1 rfl))
            have es8599 : mq8566 388 1 = m 388 1 := ((hFq8566 388 1 rfl).trans (hFq8554 388 1 rfl))
            have es8600 : mq8566 376 17 = m 376 17 := ((hFq8566 376 17 rfl).trans (hFq8554 376 17 rfl))
            have tb8601 := hT.atp 376 17 0 20 rfl
            have es8602 : mq8566 384 1 = m 384 1 := ((hFq8566 384 1 rfl).trans (hFq8554 384 1 rfl))
            refine y_callUB 101 [.ref 376, yI rq8554] [] c138_98 rfl rfl rfl rfl rfl (ycanO km137 ko376) (t137_1 hTq8566 (by omega) (by omega) (by omega) ((hX.fw hFq8554 wVr1_X).fw hFq8566 wNw_X) (by omega) (by omega) (by omega)) (fun mq8590 nq8590 hq8590 => ?_)
            obtain ⟨rfl, hTq8590, hFq8590, hlq8590, hq8590⟩ := hq8590
            have hAq8590 : 0 ≤ mq8590 376 8 ∨ (mq8590 376 8 < 0 ∧ mu mq8590 ≤ mu mq8566 ∧ mq8590 390 1 = m 390 1 + 1) := by rcases hq8590 with q | q; exact Or.inl q; exact Or.inr ⟨q.1, by omega, by omega⟩
            have x1q8590 : mq8590 376 1 = m 376 1 := ((hFq8590 376 1 rfl).trans ((hFq8566 376 1 rfl).trans (hFq8554 376 1 rfl)))
            have hF8603 := hF8569.tr hFq8590 (fun _ _ e => e)
            refine y_aload 102 c138_101 rfl rfl rfl ?_
            refine y_getX 105 (mq8590 376 8) c138_102 rfl kf376_8 rfl ?_
            have tb8604 := hTq8590.atp 376 8 ((-1)) 320 rfl
            refine y_if 118 108 c138_105 rfl rfl (yz_ge (by omega)) (fun hb8605 => ?_) (fun hb8605 => ?_)
            · have es8606 : mq8590 376 1 = m 376 1 := ((hFq8590 376 1 rfl).trans ((hFq8566 376 1 rfl).trans (hFq8554 376 1 rfl)))
              have tb8607 := hTq8590.atp 376 3 0 3 rfl
              have tb8608 := hTq8590.atp 376 6 0 320 rfl
              have tb8609 := hTq8590.atp 390 1 0 125 rfl
              have tb8610 := hTq8590.atp 386 1 0 12 rfl
              have tb8611 := hTq8590.atp 387 1 0 8 rfl
              have tb8612 := hTq8590.atp 388 1 0 12 rfl
              have tb8613 := hTq8590.atp 376 17 0 20 rfl
              have es8614 : mq8590 384 1 = m 384 1 := ((hFq8590 384 1 rfl).trans ((hFq8566 384 1 rfl).trans (hFq8554 384 1 rfl)))
              exact y_retU c138_118 ⟨rfl, hTq8590, hF8603, by omega, (by first | exact Or.inl (by omega) | exact Or.inr ⟨by omega, by omega, by omega, (hq8590.resolve_left (by omega)).2.2.2⟩ | (by_cases hq : 0 ≤ mq8590 376 8 <;> first | exact Or.inl (by omega) | exact Or.inr ⟨by omega, by omega, by omega, (hq8590.resolve_left (by omega)).2.2.2⟩))⟩
            · refine y_aload 109 c138_108 rfl rfl rfl ?_
              refine y_iconst 111 c138_109 rfl ?_
              have es8616 : mq8590 376 1 = m 376 1 := ((hFq8590 376 1 rfl).trans ((hFq8566 376 1 rfl).trans (hFq8554 376 1 rfl)))
              have tb8617 := hTq8590.atp 376 3 0 3 rfl
              have tb8618 := hTq8590.atp 376 6 0 320 rfl
              refine y_callIB 114 [.ref 376, yI 59] [] c138_111 rfl rfl rfl rfl rfl (ycanO km118 ko376) (t118 hTq8590 (by omega) (by omega)) (fun rq8615 mq8615 nq8615 hq8615 => ?_)
              obtain ⟨rfl, hTq8615, hFq8615, hq8615⟩ := hq8615
              have x1q8615 : mq8615 376 1 = m 376 1 := ((hFq8615 376 1 rfl).trans ((hFq8590 376 1 rfl).trans ((hFq8566 376 1 rfl).trans (hFq8554 376 1 rfl))))
              have hF8619 := hF8603.tr hFq8615 wNw_wSt1
              refine y_if 118 117 c138_114 rfl rfl (yz_ne (by omega)) (fun hb8620 => ?_) (fun hb8620 => ?_)
              · have es8621 : mq8615 376 1 = m 376 1 := ((hFq8615 376 1 rfl).trans ((hFq8590 376 1 rfl).trans ((hFq8566 376 1 rfl).trans (hFq8554 376 1 rfl))))
                have tb8622 := hTq8615.atp 376 3 0 3 rfl
                have tb8623 := hTq8615.atp 376 6 0 320 rfl
                have tb8624 := hTq8615.atp 376 8 ((-1)) 320 rfl
                have es8625 : mq8615 390 1 = mq8590 390 1 := (hFq8615 390 1 rfl)
                have tb8626 := hTq8590.atp 390 1 0 125 rfl
                have es8627 : mq8615 386 1 = mq8590 386 1 := (hFq8615 386 1 rfl)
                have tb8628 := hTq8590.atp 386 1 0 12 rfl
                have es8629 : mq8615 387 1 = mq8590 387 1 := (hFq8615 387 1 rfl)
                have tb8630 := hTq8590.atp 387 1 0 8 rfl
                have es8631 : mq8615 388 1 = mq8590 388 1 := (hFq8615 388 1 rfl)
                have tb8632 := hTq8590.atp 388 1 0 12 rfl
                have es8633 : mq8615 376 17 = mq8590 376 17 := (hFq8615 376 17 rfl)
                have tb8634 := hTq8590.atp 376 17 0 20 rfl
                have es8635 : mq8615 384 1 = m 384 1 := ((hFq8615 384 1 rfl).trans ((hFq8590 384 1 rfl).trans ((hFq8566 384 1 rfl).trans (hFq8554 384 1 rfl))))
                exact y_retU c138_118 ⟨rfl, hTq8615, hF8619, by omega, (by first | exact Or.inl (by omega) | exact Or.inr ⟨by omega, by omega, by omega, (XS.fw (hq8590.resolve_left (by omega)).2.2.2 hFq8615 wNw_X)⟩ | (by_cases hq : 0 ≤ mq8615 376 8 <;> first | exact Or.inl (by omega) | exact Or.inr ⟨by omega, by omega, by omega, (XS.fw (hq8590.resolve_left (by omega)).2.2.2 hFq8615 wNw_X)⟩))⟩
              · have es8636 : mq8615 376 1 = m 376 1 := ((hFq8615 376 1 rfl).trans ((hFq8590 376 1 rfl).trans ((hFq8566 376 1 rfl).trans (hFq8554 376 1 rfl))))
                have tb8637 := hTq8615.atp 376 3 0 3 rfl
                have tb8638 := hTq8615.atp 376 6 0 320 rfl
                have tb8639 := hTq8615.atp 376 8 ((-1)) 320 rfl
                have es8640 : mq8615 390 1 = mq8590 390 1 := (hFq8615 390 1 rfl)
                have tb8641 := hTq8590.atp 390 1 0 125 rfl
                have es8642 : mq8615 386 1 = mq8590 386 1 := (hFq8615 386 1 rfl)
                have tb8643 := hTq8590.atp 386 1 0 12 rfl
                have es8644 : mq8615 387 1 = mq8590 387 1 := (hFq8615 387 1 rfl)
                have tb8645 := hTq8590.atp 387 1 0 8 rfl
                have es8646 : mq8615 388 1 = mq8590 388 1 := (hFq8615 388 1 rfl)
                have tb8647 := hTq8590.atp 388 1 0 12 rfl
                have es8648 : mq8615 376 17 = mq8590 376 17 := (hFq8615 376 17 rfl)
                have tb8649 := hTq8590.atp 376 17 0 20 rfl
                have es8650 : mq8615 384 1 = m 384 1 := ((hFq8615 384 1 rfl).trans ((hFq8590 384 1 rfl).trans ((hFq8566 384 1 rfl).trans (hFq8554 384 1 rfl))))
                exact y_retU c138_117 ⟨rfl, hTq8615, hF8619, by omega, (by first | exact Or.inl (by omega) | exact Or.inr ⟨by omega, by omega, by omega, (XS.fw (hq8590.resolve_left (by omega)).2.2.2 hFq8615 wNw_X)⟩ | (by_cases hq : 0 ≤ mq8615 376 8 <;> first | exact Or.inl (by omega) | exact Or.inr ⟨by omega, by omega, by omega, (XS.fw (hq8590.resolve_left (by omega)).2.2.2 hFq8615 wNw_X)⟩))⟩
        · refine y_aload 77 c138_76 rfl rfl rfl ?_
          refine y_iconst 79 c138_77 rfl ?_
          refine y_callP 82 [.ref 376, yI 61] [.ref 376] c138_79 rfl rfl rfl rfl rfl (ycanO km117 ko376) (t117 hTq8554 (by omega)) (fun r8651 hr8651 => ?_)
          refine y_if 89 85 c138_82 rfl rfl (yz_eq (by omega)) (fun hb8652 => ?_) (fun hb8652 => ?_)
          · refine y_iconst 90 c138_89 rfl ?_
            have es8654 : mq8554 376 1 = m 376 1 := (hFq8554 376 1 rfl)
            have tb8655 := hTq8554.atp 376 6 0 320 rfl
            refine y_callIB 93 [.ref 376, yI 0] [] c138_90 rfl rfl rfl rfl rfl (ycanO km105 ko376) (t105 (g := 0) hTq8554 (by omega) (by omega)) (fun rq8653 mq8653 nq8653 hq8653 => ?_)
            obtain ⟨rfl, hTq8653, hFq8653, hq8653⟩ := hq8653
            have x1q8653 : mq8653 376 1 = m 376 1 := ((hFq8653 376 1 rfl).trans (hFq8554 376 1 rfl))
            have hF8656 := hF8559.tr hFq8653 wNw_wSt1
            refine y_if 101 96 c138_93 rfl rfl (yz_eq (by omega)) (fun hb8657 => ?_) (fun hb8657 => ?_)
            · refine y_aload 102 c138_101 rfl rfl rfl ?_
              refine y_getX 105 (mq8653 376 8) c138_102 rfl kf376_8 rfl ?_
              have tb8658 := hTq8653.atp 376 8 ((-1)) 320 rfl
              refine y_if 118 108 c138_105 rfl rfl (yz_ge (by omega)) (fun hb8659 => ?_) (fun hb8659 => ?_)
              · have es8660 : mq8653 376 1 = m 376 1 := ((hFq8653 376 1 rfl).trans (hFq8554 376 1 rfl))
                have tb8661 := hTq8653.atp 376 3 0 3 rfl
                have tb8662 := hTq8653.atp 376 6 0 320 rfl
                exact y_retU c138_118 ⟨rfl, hTq8653, hF8656, by omega, Or.inl (by omega)⟩
              · refine y_aload 109 c138_108 rfl rfl rfl ?_
                refine y_iconst 111 c138_109 rfl ?_
                have es8664 : mq8653 376 1 = m 376 1 := ((hFq8653 376 1 rfl).trans (hFq8554 376 1 rfl))
                have tb8665 := hTq8653.atp 376 3 0 3 rfl
                have tb8666 := hTq8653.atp 376 6 0 320 rfl
                refine y_callIB 114 [.ref 376, yI 59] [] c138_111 rfl rfl rfl rfl rfl (ycanO km118 ko376) (t118 hTq8653 (by omega) (by omega)) (fun rq8663 mq8663 nq8663 hq8663 => ?_)
                obtain ⟨rfl, hTq8663, hFq8663, hq8663⟩ := hq8663
                have x1q8663 : mq8663 376 1 = m 376 1 := ((hFq8663 376 1 rfl).trans ((hFq8653 376 1 rfl).trans (hFq8554 376 1 rfl)))
                have hF8667 := hF8656.tr hFq8663 wNw_wSt1
                refine y_if 118 117 c138_114 rfl rfl (yz_ne (by omega)) (fun hb8668 => ?_) (fun hb8668 => ?_)
                · have es8669 : mq8663 376 1 = m 376 1 := ((hFq8663 376 1 rfl).trans ((hFq8653 376 1 rfl).trans (hFq8554 376 1 rfl)))
                  have tb8670 := hTq8663.atp 376 3 0 3 rfl
                  have tb8671 := hTq8663.atp 376 6 0 320 rfl
                  have tb8672 := hTq8663.atp 376 8 ((-1)) 320 rfl
                  exact y_retU c138_118 ⟨rfl, hTq8663, hF8667, by omega, Or.inl (by omega)⟩
                · have es8673 : mq8663 376 1 = m 376 1 := ((hFq8663 376 1 rfl).trans ((hFq8653 376 1 rfl).trans (hFq8554 376 1 rfl)))
                  have tb8674 := hTq8663.atp 376 3 0 3 rfl
                  have tb8675 := hTq8663.atp 376 6 0 320 rfl
                  have tb8676 := hTq8663.atp 376 8 ((-1)) 320 rfl
                  exact y_retU c138_117 ⟨rfl, hTq8663, hF8667, by omega, Or.inl (by omega)⟩
            · refine y_aload 97 c138_96 rfl rfl rfl ?_
              refine y_iload 98 c138_97 rfl rfl ?_
              have es8678 : mq8653 376 1 = m 376 1 := ((hFq8653 376 1 rfl).trans (hFq8554 376 1 rfl))
              have tb8679 := hTq8653.atp 376 3 0 3 rfl
              have tb8680 := hTq8653.atp 376 6 0 320 rfl
              have tb8681 := hTq8653.atp 376 8 ((-1)) 320 rfl
              have es8682 : mq8653 376 18 = m 376 18 := ((hFq8653 376 18 rfl).trans (hFq8554 376 18 rfl))
              have es8683 : mq8653 390 1 = m 390 1 := ((hFq8653 390 1 rfl).trans (hFq8554 390 1 rfl))
              have es8684 : mq8653 386 1 = m 386 1 := ((hFq8653 386 1 rfl).trans (hFq8554 386 1 rfl))
              have es8685 : mq8653 387 1 = m 387 1 := ((hFq8653 387 1 rfl).trans (hFq8554 387 1 rfl))
              have es8686 : mq8653 388 1 = m 388 1 := ((hFq8653 388 1 rfl).trans (hFq8554 388 1 rfl))
              have es8687 : mq8653 376 17 = m 376 17 := ((hFq8653 376 17 rfl).trans (hFq8554 376 17 rfl))
              have tb8688 := hT.atp 376 17 0 20 rfl
              have es8689 : mq8653 384 1 = m 384 1 := ((hFq8653 384 1 rfl).trans (hFq8554 384 1 rfl))
              refine y_callUB 101 [.ref 376, yI rq8554] [] c138_98 rfl rfl rfl rfl rfl (ycanO km137 ko376) (t137_1 hTq8653 (by omega) (by omega) (by omega) ((hX.fw hFq8554 wVr1_X).fw hFq8653 wNw_X) (by omega) (by omega) (by omega)) (fun mq8677 nq8677 hq8677 => ?_)
              obtain ⟨rfl, hTq8677, hFq8677, hlq8677, hq8677⟩ := hq8677
              have hAq8677 : 0 ≤ mq8677 376 8 ∨ (mq8677 376 8 < 0 ∧ mu mq8677 ≤ mu mq8653 ∧ mq8677 390 1 = m 390 1 + 1) := by rcases hq8677 with q | q; exact Or.inl q; exact Or.inr ⟨q.1, by omega, by omega⟩
              have x1q8677 : mq8677 376 1 = m 376 1 := ((hFq8677 376 1 rfl).trans ((hFq8653 376 1 rfl).trans (hFq8554 376 1 rfl)))
              have hF8690 := hF8656.tr hFq8677 (fun _ _ e => e)
              refine y_aload 102 c138_101 rfl rfl rfl ?_
              refine y_getX 105 (mq8677 376 8) c138_102 rfl kf376_8 rfl ?_
              have tb8691 := hTq8677.atp 376 8 ((-1)) 320 rfl
              refine y_if 118 108 c138_105 rfl rfl (yz_ge (by omega)) (fun hb8692 => ?_) (fun hb8692 => ?_)
              · have es8693 : mq8677 376 1 = m 376 1 := ((hFq8677 376 1 rfl).trans ((hFq8653 376 1 rfl).trans (hFq8554 376 1 rfl)))
                have tb8694 := hTq8677.atp 376 3 0 3 rfl
                have tb8695 := hTq8677.atp 376 6 0 320 rfl
                have tb8696 := hTq8677.atp 390 1 0 125 rfl
                have tb8697 := hTq8677.atp 386 1 0 12 rfl
                have tb8698 := hTq8677.atp 387 1 0 8 rfl
                have tb8699 := hTq8677.atp 388 1 0 12 rfl
                have tb8700 := hTq8677.atp 376 17 0 20 rfl
                have es8701 : mq8677 384 1 = m 384 1 := ((hFq8677 384 1 rfl).trans ((hFq8653 384 1 rfl).trans (hFq8554 384 1 rfl)))
                exact y_retU c138_118 ⟨rfl, hTq8677, hF8690, by omega, (by first | exact Or.inl (by omega) | exact Or.inr ⟨by omega, by omega, by omega, (hq8677.resolve_left (by omega)).2.2.2⟩ | (by_cases hq : 0 ≤ mq8677 376 8 <;> first | exact Or.inl (by omega) | exact Or.inr ⟨by omega, by omega, by omega, (hq8677.resolve_left (by omega)).2.2.2⟩))⟩
              · refine y_aload 109 c138_108 rfl rfl rfl ?_
                refine y_iconst 111 c138_109 rfl ?_
                have es8703 : mq8677 376 1 = m 376 1 := ((hFq8677 376 1 rfl).trans ((hFq8653 376 1 rfl).trans (hFq8554 376 1 rfl)))
                have tb8704 := hTq8677.atp 376 3 0 3 rfl
                have tb8705 := hTq8677.atp 376 6 0 320 rfl
                refine y_callIB 114 [.ref 376, yI 59] [] c138_111 rfl rfl rfl rfl rfl (ycanO km118 ko376) (t118 hTq8677 (by omega) (by omega)) (fun rq8702 mq8702 nq8702 hq8702 => ?_)
                obtain ⟨rfl, hTq8702, hFq8702, hq8702⟩ := hq8702
                have x1q8702 : mq8702 376 1 = m 376 1 := ((hFq8702 376 1 rfl).trans ((hFq8677 376 1 rfl).trans ((hFq8653 376 1 rfl).trans (hFq8554 376 1 rfl))))
                have hF8706 := hF8690.tr hFq8702 wNw_wSt1
                refine y_if 118 117 c138_114 rfl rfl (yz_ne (by omega)) (fun hb8707 => ?_) (fun hb8707 => ?_)
                · have es8708 : mq8702 376 1 = m 376 1 := ((hFq8702 376 1 rfl).trans ((hFq8677 376 1 rfl).trans ((hFq8653 376 1 rfl).trans (hFq8554 376 1 rfl))))
                  have tb8709 := hTq8702.atp 376 3 0 3 rfl
                  have tb8710 := hTq8702.atp 376 6 0 320 rfl
                  have tb8711 := hTq8702.atp 376 8 ((-1)) 320 rfl
                  have es8712 : mq8702 390 1 = mq8677 390 1 := (hFq8702 390 1 rfl)
                  have tb8713 := hTq8677.atp 390 1 0 125 rfl
                  have es8714 : mq8702 386 1 = mq8677 386 1 := (hFq8702 386 1 rfl)
                  have tb8715 := hTq8677.atp 386 1 0 12 rfl
                  have es8716 : mq8702 387 1 = mq8677 387 1 := (hFq8702 387 1 rfl)
                  have tb8717 := hTq8677.atp 387 1 0 8 rfl
                  have es8718 : mq8702 388 1 = mq8677 388 1 := (hFq8702 388 1 rfl)
                  have tb8719 := hTq8677.atp 388 1 0 12 rfl
                  have es8720 : mq8702 376 17 = mq8677 376 17 := (hFq8702 376 17 rfl)
                  have tb8721 := hTq8677.atp 376 17 0 20 rfl
                  have es8722 : mq8702 384 1 = m 384 1 := ((hFq8702 384 1 rfl).trans ((hFq8677 384 1 rfl).trans ((hFq8653 384 1 rfl).trans (hFq8554 384 1 rfl))))
                  exact y_retU c138_118 ⟨rfl, hTq8702, hF8706, by omega, (by first | exact Or.inl (by omega) | exact Or.inr ⟨by omega, by omega, by omega, (XS.fw (hq8677.resolve_left (by omega)).2.2.2 hFq8702 wNw_X)⟩ | (by_cases hq : 0 ≤ mq8702 376 8 <;> first | exact Or.inl (by omega) | exact Or.inr ⟨by omega, by omega, by omega, (XS.fw (hq8677.resolve_left (by omega)).2.2.2 hFq8702 wNw_X)⟩))⟩
                · have es8723 : mq8702 376 1 = m 376 1 := ((hFq8702 376 1 rfl).trans ((hFq8677 376 1 rfl).trans ((hFq8653 376 1 rfl).trans (hFq8554 376 1 rfl))))
                  have tb8724 := hTq8702.atp 376 3 0 3 rfl
                  have tb8725 := hTq8702.atp 376 6 0 320 rfl
                  have tb8726 := hTq8702.atp 376 8 ((-1)) 320 rfl
                  have es8727 : mq8702 390 1 = mq8677 390 1 := (hFq8702 390 1 rfl)
                  have tb8728 := hTq8677.atp 390 1 0 125 rfl
                  have es8729 : mq8702 386 1 = mq8677 386 1 := (hFq8702 386 1 rfl)
                  have tb8730 := hTq8677.atp 386 1 0 12 rfl
                  have es8731 : mq8702 387 1 = mq8677 387 1 := (hFq8702 387 1 rfl)
                  have tb8732 := hTq8677.atp 387 1 0 8 rfl
                  have es8733 : mq8702 388 1 = mq8677 388 1 := (hFq8702 388 1 rfl)
                  have tb8734 := hTq8677.atp 388 1 0 12 rfl
                  have es8735 : mq8702 376 17 = mq8677 376 17 := (hFq8702 376 17 rfl)
                  have tb8736 := hTq8677.atp 376 17 0 20 rfl
                  have es8737 : mq8702 384 1 = m 384 1 := ((hFq8702 384 1 rfl).trans ((hFq8677 384 1 rfl).trans ((hFq8653 384 1 rfl).trans (hFq8554 384 1 rfl))))
                  exact y_retU c138_117 ⟨rfl, hTq8702, hF8706, by omega, (by first | exact Or.inl (by omega) | exact Or.inr ⟨by omega, by omega, by omega, (XS.fw (hq8677.resolve_left (by omega)).2.2.2 hFq8702 wNw_X)⟩ | (by_cases hq : 0 ≤ mq8702 376 8 <;> first | exact Or.inl (by omega) | exact Or.inr ⟨by omega, by omega, by omega, (XS.fw (hq8677.resolve_left (by omega)).2.2.2 hFq8702 wNw_X)⟩))⟩
          · refine y_iconst 86 c138_85 rfl ?_
            refine y_goto 90 c138_86 rfl ?_
            have es8739 : mq8554 376 1 = m 376 1 := (hFq8554 376 1 rfl)
            have tb8740 := hTq8554.atp 376 6 0 320 rfl
            refine y_callIB 93 [.ref 376, yI 1] [] c138_90 rfl rfl rfl rfl rfl (ycanO km105 ko376) (t105 (g := 1) hTq8554 (by omega) (by omega)) (fun rq8738 mq8738 nq8738 hq8738 => ?_)
            obtain ⟨rfl, hTq8738, hFq8738, hq8738⟩ := hq8738
            have x1q8738 : mq8738 376 1 = m 376 1 := ((hFq8738 376 1 rfl).trans (hFq8554 376 1 rfl))
            have hF8741 := hF8559.tr hFq8738 wNw_wSt1
            refine y_if 101 96 c138_93 rfl rfl (yz_eq (by omega)) (fun hb8742 => ?_) (fun hb8742 => ?_)
            · refine y_aload 102 c138_101 rfl rfl rfl ?_
              refine y_getX 105 (mq8738 376 8) c138_102 rfl kf376_8 rfl ?_
              have tb8743 := hTq8738.atp 376 8 ((-1)) 320 rfl
              refine y_if 118 108 c138_105 rfl rfl (yz_ge (by omega)) (fun hb8744 => ?_) (fun hb8744 => ?_)
              · have es8745 : mq8738 376 1 = m 376 1 := ((hFq8738 376 1 rfl).trans (hFq8554 376 1 rfl))
                have tb8746 := hTq8738.atp 376 3 0 3 rfl
                have tb8747 := hTq8738.atp 376 6 0 320 rfl
                exact y_retU c138_118 ⟨rfl, hTq8738, hF8741, by omega, Or.inl (by omega)⟩
              · refine y_aload 109 c138_108 rfl rfl rfl ?_
                refine y_iconst 111 c138_109 rfl ?_
                have es8749 : mq8738 376 1 = m 376 1 := ((hFq8738 376 1 rfl).trans (hFq8554 376 1 rfl))
                have tb8750 := hTq8738.atp 376 3 0 3 rfl
                have tb8751 := hTq8738.atp 376 6 0 320 rfl
                refine y_callIB 114 [.ref 376, yI 59] [] c138_111 rfl rfl rfl rfl rfl (ycanO km118 ko376) (t118 hTq8738 (by omega) (by omega)) (fun rq8748 mq8748 nq8748 hq8748 => ?_)
                obtain ⟨rfl, hTq8748, hFq8748, hq8748⟩ := hq8748
                have x1q8748 : mq8748 376 1 = m 376 1 := ((hFq8748 376 1 rfl).trans ((hFq8738 376 1 rfl).trans (hFq8554 376 1 rfl)))
                have hF8752 := hF8741.tr hFq8748 wNw_wSt1
                refine y_if 118 117 c138_114 rfl rfl (yz_ne (by omega)) (fun hb8753 => ?_) (fun hb8753 => ?_)
                · have es8754 : mq8748 376 1 = m 376 1 := ((hFq8748 376 1 rfl).trans ((hFq8738 376 1 rfl).trans (hFq8554 376 1 rfl)))
                  have tb8755 := hTq8748.atp 376 3 0 3 rfl
                  have tb8756 := hTq8748.atp 376 6 0 320 rfl
                  have tb8757 := hTq8748.atp 376 8 ((-1)) 320 rfl
                  exact y_retU c138_118 ⟨rfl, hTq8748, hF8752, by omega, Or.inl (by omega)⟩
                · have es8758 : mq8748 376 1 = m 376 1 := ((hFq8748 376 1 rfl).trans ((hFq8738 376 1 rfl).trans (hFq8554 376 1 rfl)))
                  have tb8759 := hTq8748.atp 376 3 0 3 rfl
                  have tb8760 := hTq8748.atp 376 6 0 320 rfl
                  have tb8761 := hTq8748.atp 376 8 ((-1)) 320 rfl
                  exact y_retU c138_117 ⟨rfl, hTq8748, hF8752, by omega, Or.inl (by omega)⟩
            · refine y_aload 97 c138_96 rfl rfl rfl ?_
              refine y_iload 98 c138_97 rfl rfl ?_
              have es8763 : mq8738 376 1 = m 376 1 := ((hFq8738 376 1 rfl).trans (hFq8554 376 1 rfl))
              have tb8764 := hTq8738.atp 376 3 0 3 rfl
              have tb8765 := hTq8738.atp 376 6 0 320 rfl
              have tb8766 := hTq8738.atp 376 8 ((-1)) 320 rfl
              have es8767 : mq8738 376 18 = m 376 18 := ((hFq8738 376 18 rfl).trans (hFq8554 376 18 rfl))
              have es8768 : mq8738 390 1 = m 390 1 := ((hFq8738 390 1 rfl).trans (hFq8554 390 1 rfl))
              have es8769 : mq8738 386 1 = m 386 1 := ((hFq8738 386 1 rfl).trans (hFq8554 386 1 rfl))
              have es8770 : mq8738 387 1 = m 387 1 := ((hFq8738 387 1 rfl).trans (hFq8554 387 1 rfl))
              have es8771 : mq8738 388 1 = m 388 1 := ((hFq8738 388 1 rfl).trans (hFq8554 388 1 rfl))
              have es8772 : mq8738 376 17 = m 376 17 := ((hFq8738 376 17 rfl).trans (hFq8554 376 17 rfl))
              have tb8773 := hT.atp 376 17 0 20 rfl
              have es8774 : mq8738 384 1 = m 384 1 := ((hFq8738 384 1 rfl).trans (hFq8554 384 1 rfl))
              refine y_callUB 101 [.ref 376, yI rq8554] [] c138_98 rfl rfl rfl rfl rfl (ycanO km137 ko376) (t137_1 hTq8738 (by omega) (by omega) (by omega) ((hX.fw hFq8554 wVr1_X).fw hFq8738 wNw_X) (by omega) (by omega) (by omega)) (fun mq8762 nq8762 hq8762 => ?_)
              obtain ⟨rfl, hTq8762, hFq8762, hlq8762, hq8762⟩ := hq8762
              have hAq8762 : 0 ≤ mq8762 376 8 ∨ (mq8762 376 8 < 0 ∧ mu mq8762 ≤ mu mq8738 ∧ mq8762 390 1 = m 390 1 + 1) := by rcases hq8762 with q | q; exact Or.inl q; exact Or.inr ⟨q.1, by omega, by omega⟩
              have x1q8762 : mq8762 376 1 = m 376 1 := ((hFq8762 376 1 rfl).trans ((hFq8738 376 1 rfl).trans (hFq8554 376 1 rfl)))
              have hF8775 := hF8741.tr hFq8762 (fun _ _ e => e)
              refine y_aload 102 c138_101 rfl rfl rfl ?_
              refine y_getX 105 (mq8762 376 8) c138_102 rfl kf376_8 rfl ?_
              have tb8776 := hTq8762.atp 376 8 ((-1)) 320 rfl
              refine y_if 118 108 c138_105 rfl rfl (yz_ge (by omega)) (fun hb8777 => ?_) (fun hb8777 => ?_)
              · have es8778 : mq8762 376 1 = m 376 1 := ((hFq8762 376 1 rfl).trans ((hFq8738 376 1 rfl).trans (hFq8554 376 1 rfl)))
                have tb8779 := hTq8762.atp 376 3 0 3 rfl
                have tb8780 := hTq8762.atp 376 6 0 320 rfl
                have tb8781 := hTq8762.atp 390 1 0 125 rfl
                have tb8782 := hTq8762.atp 386 1 0 12 rfl
                have tb8783 := hTq8762.atp 387 1 0 8 rfl
                have tb8784 := hTq8762.atp 388 1 0 12 rfl
                have tb8785 := hTq8762.atp 376 17 0 20 rfl
                have es8786 : mq8762 384 1 = m 384 1 := ((hFq8762 384 1 rfl).trans ((hFq8738 384 1 rfl).trans (hFq8554 384 1 rfl)))
                exact y_retU c138_118 ⟨rfl, hTq8762, hF8775, by omega, (by first | exact Or.inl (by omega) | exact Or.inr ⟨by omega, by omega, by omega, (hq8762.resolve_left (by omega)).2.2.2⟩ | (by_cases hq : 0 ≤ mq8762 376 8 <;> first | exact Or.inl (by omega) | exact Or.inr ⟨by omega, by omega, by omega, (hq8762.resolve_left (by omega)).2.2.2⟩))⟩
              · refine y_aload 109 c138_108 rfl rfl rfl ?_
                refine y_iconst 111 c138_109 rfl ?_
                have es8788 : mq8762 376 1 = m 376 1 := ((hFq8762 376 1 rfl).trans ((hFq8738 376 1 rfl).trans (hFq8554 376 1 rfl)))
                have tb8789 := hTq8762.atp 376 3 0 3 rfl
                have tb8790 := hTq8762.atp 376 6 0 320 rfl
                refine y_callIB 114 [.ref 376, yI 59] [] c138_111 rfl rfl rfl rfl rfl (ycanO km118 ko376) (t118 hTq8762 (by omega) (by omega)) (fun rq8787 mq8787 nq8787 hq8787 => ?_)
                obtain ⟨rfl, hTq8787, hFq8787, hq8787⟩ := hq8787
                have x1q8787 : mq8787 376 1 = m 376 1 := ((hFq8787 376 1 rfl).trans ((hFq8762 376 1 rfl).trans ((hFq8738 376 1 rfl).trans (hFq8554 376 1 rfl))))
                have hF8791 := hF8775.tr hFq8787 wNw_wSt1
                refine y_if 118 117 c138_114 rfl rfl (yz_ne (by omega)) (fun hb8792 => ?_) (fun hb8792 => ?_)
                · have es8793 : mq8787 376 1 = m 376 1 := ((hFq8787 376 1 rfl).trans ((hFq8762 376 1 rfl).trans ((hFq8738 376 1 rfl).trans (hFq8554 376 1 rfl))))
                  have tb8794 := hTq8787.atp 376 3 0 3 rfl
                  have tb8795 := hTq8787.atp 376 6 0 320 rfl
                  have tb8796 := hTq8787.atp 376 8 ((-1)) 320 rfl
                  have es8797 : mq8787 390 1 = mq8762 390 1 := (hFq8787 390 1 rfl)
                  have tb8798 := hTq8762.atp 390 1 0 125 rfl
                  have es8799 : mq8787 386 1 = mq8762 386 1 := (hFq8787 386 1 rfl)
                  have tb8800 := hTq8762.atp 386 1 0 12 rfl
                  have es8801 : mq8787 387 1 = mq8762 387 1 := (hFq8787 387 1 rfl)
                  have tb8802 := hTq8762.atp 387 1 0 8 rfl
                  have es8803 : mq8787 388 1 = mq8762 388 1 := (hFq8787 388 1 rfl)
                  have tb8804 := hTq8762.atp 388 1 0 12 rfl
                  have es8805 : mq8787 376 17 = mq8762 376 17 := (hFq8787 376 17 rfl)
                  have tb8806 := hTq8762.atp 376 17 0 20 rfl
                  have es8807 : mq8787 384 1 = m 384 1 := ((hFq8787 384 1 rfl).trans ((hFq8762 384 1 rfl).trans ((hFq8738 384 1 rfl).trans (hFq8554 384 1 rfl))))
                  exact y_retU c138_118 ⟨rfl, hTq8787, hF8791, by omega, (by first | exact Or.inl (by omega) | exact Or.inr ⟨by omega, by omega, by omega, (XS.fw (hq8762.resolve_left (by omega)).2.2.2 hFq8787 wNw_X)⟩ | (by_cases hq : 0 ≤ mq8787 376 8 <;> first | exact Or.inl (by omega) | exact Or.inr ⟨by omega, by omega, by omega, (XS.fw (hq8762.resolve_left (by omega)).2.2.2 hFq8787 wNw_X)⟩))⟩
                · have es8808 : mq8787 376 1 = m 376 1 := ((hFq8787 376 1 rfl).trans ((hFq8762 376 1 rfl).trans ((hFq8738 376 1 rfl).trans (hFq8554 376 1 rfl))))
                  have tb8809 := hTq8787.atp 376 3 0 3 rfl
                  have tb8810 := hTq8787.atp 376 6 0 320 rfl
                  have tb8811 := hTq8787.atp 376 8 ((-1)) 320 rfl
                  have es8812 : mq8787 390 1 = mq8762 390 1 := (hFq8787 390 1 rfl)
                  have tb8813 := hTq8762.atp 390 1 0 125 rfl
                  have es8814 : mq8787 386 1 = mq8762 386 1 := (hFq8787 386 1 rfl)
                  have tb8815 := hTq8762.atp 386 1 0 12 rfl
                  have es8816 : mq8787 387 1 = mq8762 387 1 := (hFq8787 387 1 rfl)
                  have tb8817 := hTq8762.atp 387 1 0 8 rfl
                  have es8818 : mq8787 388 1 = mq8762 388 1 := (hFq8787 388 1 rfl)
                  have tb8819 := hTq8762.atp 388 1 0 12 rfl
                  have es8820 : mq8787 376 17 = mq8762 376 17 := (hFq8787 376 17 rfl)
                  have tb8821 := hTq8762.atp 376 17 0 20 rfl
                  have es8822 : mq8787 384 1 = m 384 1 := ((hFq8787 384 1 rfl).trans ((hFq8762 384 1 rfl).trans ((hFq8738 384 1 rfl).trans (hFq8554 384 1 rfl))))
                  exact y_retU c138_117 ⟨rfl, hTq8787, hF8791, by omega, (by first | exact Or.inl (by omega) | exact Or.inr ⟨by omega, by omega, by omega, (XS.fw (hq8762.resolve_left (by omega)).2.2.2 hFq8787 wNw_X)⟩ | (by_cases hq : 0 ≤ mq8787 376 8 <;> first | exact Or.inl (by omega) | exact Or.inr ⟨by omega, by omega, by omega, (XS.fw (hq8762.resolve_left (by omega)).2.2.2 hFq8787 wNw_X)⟩))⟩
      · refine y_aload 64 c138_63 rfl rfl rfl ?_
        refine y_iload 65 c138_64 rfl rfl ?_
        have es8824 : mq8554 376 1 = m 376 1 := (hFq8554 376 1 rfl)
        have tb8825 := hTq8554.atp 376 6 0 320 rfl
        have es8826 : mq8554 376 18 = m 376 18 := (hFq8554 376 18 rfl)
        have es8827 : mq8554 390 1 = m 390 1 := (hFq8554 390 1 rfl)
        have es8828 : mq8554 386 1 = m 386 1 := (hFq8554 386 1 rfl)
        have es8829 : mq8554 387 1 = m 387 1 := (hFq8554 387 1 rfl)
        have es8830 : mq8554 388 1 = m 388 1 := (hFq8554 388 1 rfl)
        have es8831 : mq8554 376 17 = m 376 17 := (hFq8554 376 17 rfl)
        have tb8832 := hT.atp 376 17 0 20 rfl
        have es8833 : mq8554 384 1 = m 384 1 := (hFq8554 384 1 rfl)
        refine y_callUB 68 [.ref 376, yI rq8554] [] c138_65 rfl rfl rfl rfl rfl (ycanO km133 ko376) (t133_1 hTq8554 (by omega) (by omega) (by omega) (hX.fw hFq8554 wVr1_X) (by omega) (by omega) (by omega)) (fun mq8823 nq8823 hq8823 => ?_)
        obtain ⟨rfl, hTq8823, hFq8823, hlq8823, hq8823⟩ := hq8823
        have hAq8823 : 0 ≤ mq8823 376 8 ∨ (mq8823 376 8 < 0 ∧ mu mq8823 ≤ mu mq8554 ∧ mq8823 390 1 = m 390 1 + 1) := by rcases hq8823 with q | q; exact Or.inl q; exact Or.inr ⟨q.1, by omega, by omega⟩
        have x1q8823 : mq8823 376 1 = m 376 1 := ((hFq8823 376 1 rfl).trans (hFq8554 376 1 rfl))
        have hF8834 := hF8559.tr hFq8823 (fun _ _ e => e)
        refine y_goto 101 c138_68 rfl ?_
        refine y_aload 102 c138_101 rfl rfl rfl ?_
        refine y_getX 105 (mq8823 376 8) c138_102 rfl kf376_8 rfl ?_
        have tb8835 := hTq8823.atp 376 8 ((-1)) 320 rfl
        refine y_if 118 108 c138_105 rfl rfl (yz_ge (by omega)) (fun hb8836 => ?_) (fun hb8836 => ?_)
        · have es8837 : mq8823 376 1 = m 376 1 := ((hFq8823 376 1 rfl).trans (hFq8554 376 1 rfl))
          have tb8838 := hTq8823.atp 376 3 0 3 rfl
          have tb8839 := hTq8823.atp 376 6 0 320 rfl
          have tb8840 := hTq8823.atp 390 1 0 125 rfl
          have tb8841 := hTq8823.atp 386 1 0 12 rfl
          have tb8842 := hTq8823.atp 387 1 0 8 rfl
          have tb8843 := hTq8823.atp 388 1 0 12 rfl
          have tb8844 := hTq8823.atp 376 17 0 20 rfl
          have es8845 : mq8823 384 1 = m 384 1 := ((hFq8823 384 1 rfl).trans (hFq8554 384 1 rfl))
          exact y_retU c138_118 ⟨rfl, hTq8823, hF8834, by omega, (by first | exact Or.inl (by omega) | exact Or.inr ⟨by omega, by omega, by omega, (hq8823.resolve_left (by omega)).2.2.2⟩ | (by_cases hq : 0 ≤ mq8823 376 8 <;> first | exact Or.inl (by omega) | exact Or.inr ⟨by omega, by omega, by omega, (hq8823.resolve_left (by omega)).2.2.2⟩))⟩
        · refine y_aload 109 c138_108 rfl rfl rfl ?_
          refine y_iconst 111 c138_109 rfl ?_
          have es8847 : mq8823 376 1 = m 376 1 := ((hFq8823 376 1 rfl).trans (hFq8554 376 1 rfl))
          have tb8848 := hTq8823.atp 376 3 0 3 rfl
          have tb8849 := hTq8823.atp 376 6 0 320 rfl
          refine y_callIB 114 [.ref 376, yI 59] [] c138_111 rfl rfl rfl rfl rfl (ycanO km118 ko376) (t118 hTq8823 (by omega) (by omega)) (fun rq8846 mq8846 nq8846 hq8846 => ?_)
          obtain ⟨rfl, hTq8846, hFq8846, hq8846⟩ := hq8846
          have x1q8846 : mq8846 376 1 = m 376 1 := ((hFq8846 376 1 rfl).trans ((hFq8823 376 1 rfl).trans (hFq8554 376 1 rfl)))
          have hF8850 := hF8834.tr hFq8846 wNw_wSt1
          refine y_if 118 117 c138_114 rfl rfl (yz_ne (by omega)) (fun hb8851 => ?_) (fun hb8851 => ?_)
          · have es8852 : mq8846 376 1 = m 376 1 := ((hFq8846 376 1 rfl).trans ((hFq8823 376 1 rfl).trans (hFq8554 376 1 rfl)))
            have tb8853 := hTq8846.atp 376 3 0 3 rfl
            have tb8854 := hTq8846.atp 376 6 0 320 rfl
            have tb8855 := hTq8846.atp 376 8 ((-1)) 320 rfl
            have es8856 : mq8846 390 1 = mq8823 390 1 := (hFq8846 390 1 rfl)
            have tb8857 := hTq8823.atp 390 1 0 125 rfl
            have es8858 : mq8846 386 1 = mq8823 386 1 := (hFq8846 386 1 rfl)
            have tb8859 := hTq8823.atp 386 1 0 12 rfl
            have es8860 : mq8846 387 1 = mq8823 387 1 := (hFq8846 387 1 rfl)
            have tb8861 := hTq8823.atp 387 1 0 8 rfl
            have es8862 : mq8846 388 1 = mq8823 388 1 := (hFq8846 388 1 rfl)
            have tb8863 := hTq8823.atp 388 1 0 12 rfl
            have es8864 : mq8846 376 17 = mq8823 376 17 := (hFq8846 376 17 rfl)
            have tb8865 := hTq8823.atp 376 17 0 20 rfl
            have es8866 : mq8846 384 1 = m 384 1 := ((hFq8846 384 1 rfl).trans ((hFq8823 384 1 rfl).trans (hFq8554 384 1 rfl)))
            exact y_retU c138_118 ⟨rfl, hTq8846, hF8850, by omega, (by first | exact Or.inl (by omega) | exact Or.inr ⟨by omega, by omega, by omega, (XS.fw (hq8823.resolve_left (by omega)).2.2.2 hFq8846 wNw_X)⟩ | (by_cases hq : 0 ≤ mq8846 376 8 <;> first | exact Or.inl (by omega) | exact Or.inr ⟨by omega, by omega, by omega, (XS.fw (hq8823.resolve_left (by omega)).2.2.2 hFq8846 wNw_X)⟩))⟩
          · have es8867 : mq8846 376 1 = m 376 1 := ((hFq8846 376 1 rfl).trans ((hFq8823 376 1 rfl).trans (hFq8554 376 1 rfl)))
            have tb8868 := hTq8846.atp 376 3 0 3 rfl
            have tb8869 := hTq8846.atp 376 6 0 320 rfl
            have tb8870 := hTq8846.atp 376 8 ((-1)) 320 rfl
            have es8871 : mq8846 390 1 = mq8823 390 1 := (hFq8846 390 1 rfl)
            have tb8872 := hTq8823.atp 390 1 0 125 rfl
            have es8873 : mq8846 386 1 = mq8823 386 1 := (hFq8846 386 1 rfl)
            have tb8874 := hTq8823.atp 386 1 0 12 rfl
            have es8875 : mq8846 387 1 = mq8823 387 1 := (hFq8846 387 1 rfl)
            have tb8876 := hTq8823.atp 387 1 0 8 rfl
            have es8877 : mq8846 388 1 = mq8823 388 1 := (hFq8846 388 1 rfl)
            have tb8878 := hTq8823.atp 388 1 0 12 rfl
            have es8879 : mq8846 376 17 = mq8823 376 17 := (hFq8846 376 17 rfl)
            have tb8880 := hTq8823.atp 376 17 0 20 rfl
            have es8881 : mq8846 384 1 = m 384 1 := ((hFq8846 384 1 rfl).trans ((hFq8823 384 1 rfl).trans (hFq8554 384 1 rfl)))
            exact y_retU c138_117 ⟨rfl, hTq8846, hF8850, by omega, (by first | exact Or.inl (by omega) | exact Or.inr ⟨by omega, by omega, by omega, (XS.fw (hq8823.resolve_left (by omega)).2.2.2 hFq8846 wNw_X)⟩ | (by_cases hq : 0 ≤ mq8846 376 8 <;> first | exact Or.inl (by omega) | exact Or.inr ⟨by omega, by omega, by omega, (XS.fw (hq8823.resolve_left (by omega)).2.2.2 hFq8846 wNw_X)⟩))⟩
    · have es8882 : mq8554 376 1 = m 376 1 := (hFq8554 376 1 rfl)
      have tb8883 := hTq8554.atp 376 3 0 3 rfl
      have tb8884 := hTq8554.atp 376 6 0 320 rfl
      exact y_retU c138_53 ⟨rfl, hTq8554, hF8559, by omega, Or.inl (by omega)⟩
  · refine y_aload 13 c138_12 rfl rfl rfl ?_
    have tb8886 := hT.atp 376 1 0 320 rfl
    have tb8887 := hT.atp 376 6 0 320 rfl
    have tb8888 := hT.atp 376 8 ((-1)) 320 rfl
    refine y_callUB 16 [.ref 376] [] c138_13 rfl rfl rfl rfl rfl (ycanO km99 ko376) (t99u hT (by omega)) (fun mq8885 nq8885 hq8885 => ?_)
    obtain ⟨rfl, hTq8885, hFq8885, hq8885⟩ := hq8885
    have x1q8885 : mq8885 376 1 = m 376 1 := (hFq8885 376 1 rfl)
    have hF8889 := hF.tr hFq8885 wNx_wSt1
    refine y_aload 17 c138_16 rfl rfl rfl ?_
    have es8891 : mq8885 376 1 = m 376 1 := (hFq8885 376 1 rfl)
    have tb8892 := hTq8885.atp 376 3 0 3 rfl
    have tb8893 := hTq8885.atp 376 6 0 320 rfl
    have es8894 : mq8885 376 8 = m 376 8 := (hFq8885 376 8 rfl)
    have es8895 : mq8885 376 18 = m 376 18 := (hFq8885 376 18 rfl)
    have tb8896 := hT.atp 376 18 0 1 rfl
    refine y_callIB 20 [.ref 376] [] c138_17 rfl rfl rfl rfl rfl (ycanO km130 ko376) (t130_1 hTq8885 (by omega) (by omega) (by omega)) (fun rq8890 mq8890 nq8890 hq8890 => ?_)
    obtain ⟨rfl, hTq8890, hFq8890, hq8890⟩ := hq8890
    have x1q8890 : mq8890 376 1 = m 376 1 := ((hFq8890 376 1 rfl).trans (hFq8885 376 1 rfl))
    have hF8897 := hF8889.tr hFq8890 wVr1_wSt1
    refine y_istore 21 c138_20 rfl rfl ?_
    refine y_aload 22 c138_21 rfl rfl rfl ?_
    refine y_getX 25 (mq8890 376 8) c138_22 rfl kf376_8 rfl ?_
    have tb8898 := hTq8890.atp 376 8 ((-1)) 320 rfl
    refine y_if 38 28 c138_25 rfl rfl (yz_ge (by omega)) (fun hb8899 => ?_) (fun hb8899 => ?_)
    · refine y_goto 101 c138_38 rfl ?_
      refine y_aload 102 c138_101 rfl rfl rfl ?_
      refine y_getX 105 (mq8890 376 8) c138_102 rfl kf376_8 rfl ?_
      refine y_if 118 108 c138_105 rfl rfl (yz_ge (by omega)) (fun hb8900 => ?_) (fun hb8900 => ?_)
      · have es8901 : mq8890 376 1 = m 376 1 := ((hFq8890 376 1 rfl).trans (hFq8885 376 1 rfl))
        have tb8902 := hTq8890.atp 376 3 0 3 rfl
        have tb8903 := hTq8890.atp 376 6 0 320 rfl
        exact y_retU c138_118 ⟨rfl, hTq8890, hF8897, by omega, Or.inl (by omega)⟩
      · exfalso; omega
    · refine y_aload 29 c138_28 rfl rfl rfl ?_
      refine y_iconst 31 c138_29 rfl ?_
      refine y_iload 32 c138_31 rfl rfl ?_
      refine y_iconst 33 c138_32 rfl ?_
      refine y_iconst 34 c138_33 rfl ?_
      have es8905 : mq8890 376 1 = m 376 1 := ((hFq8890 376 1 rfl).trans (hFq8885 376 1 rfl))
      have tb8906 := hTq8890.atp 376 3 0 3 rfl
      have tb8907 := hTq8890.atp 376 6 0 320 rfl
      have es8908 : mq8890 376 18 = m 376 18 := ((hFq8890 376 18 rfl).trans (hFq8885 376 18 rfl))
      have es8909 : mq8890 390 1 = m 390 1 := ((hFq8890 390 1 rfl).trans (hFq8885 390 1 rfl))
      have es8910 : mq8890 386 1 = m 386 1 := ((hFq8890 386 1 rfl).trans (hFq8885 386 1 rfl))
      have es8911 : mq8890 387 1 = m 387 1 := ((hFq8890 387 1 rfl).trans (hFq8885 387 1 rfl))
      have es8912 : mq8890 388 1 = m 388 1 := ((hFq8890 388 1 rfl).trans (hFq8885 388 1 rfl))
      have es8913 : mq8890 376 17 = m 376 17 := ((hFq8890 376 17 rfl).trans (hFq8885 376 17 rfl))
      have tb8914 := hT.atp 376 17 0 20 rfl
      have es8915 : mq8890 384 1 = m 384 1 := ((hFq8890 384 1 rfl).trans (hFq8885 384 1 rfl))
      refine y_callIB 37 [.ref 376, yI 6, yI rq8890, yI 0, yI 0] [] c138_34 rfl rfl rfl rfl rfl (ycanO km127 ko376) (t127_1 hTq8890 (by omega) (by omega) (by omega) (by omega) (by omega) (by omega)) (fun rq8904 mq8904 nq8904 hq8904 => ?_)
      obtain ⟨rfl, hTq8904, hFq8904, hq8904, hE⟩ := hq8904
      unfold EM at hE
      rw [show mq8890 390 1 = m 390 1 from ((hFq8890 390 1 rfl).trans (hFq8885 390 1 rfl))] at hE
      obtain ⟨k1, k2, k3, k4, k5, k6, k7⟩ := hE
      have k8 : ∀ q, q < 1000 * 1 + 8 * (m 390 1).toNat ∨ 1000 * 1 + 8 * (m 390 1).toNat + 8 ≤ q → mq8904 403 q = m 403 q := fun q hq => (k7 q hq).trans (((hFq8890 403 q rfl).trans (hFq8885 403 q rfl)))
      have x1q8904 : mq8904 376 1 = m 376 1 := ((hFq8904 376 1 rfl).trans ((hFq8890 376 1 rfl).trans (hFq8885 376 1 rfl)))
      have hF8916 := hF8897.tr hFq8904 wEm1_wSt1
      refine y_istore 38 c138_37 rfl rfl ?_
      refine y_goto 101 c138_38 rfl ?_
      refine y_aload 102 c138_101 rfl rfl rfl ?_
      refine y_getX 105 (mq8890 376 8) c138_102 rfl kf376_8 (hFq8904 376 8 rfl) ?_
      refine y_top ((-1)) (by omega) ?_
      refine y_if 118 108 c138_105 rfl rfl (yz_ge (by omega)) (fun hb8917 => ?_) (fun hb8917 => ?_)
      · exfalso; omega
      · refine y_aload 109 c138_108 rfl rfl rfl ?_
        refine y_iconst 111 c138_109 rfl ?_
        have es8919 : mq8904 376 1 = m 376 1 := ((hFq8904 376 1 rfl).trans ((hFq8890 376 1 rfl).trans (hFq8885 376 1 rfl)))
        have es8920 : mq8904 376 3 = mq8890 376 3 := (hFq8904 376 3 rfl)
        have es8921 : mq8904 376 6 = mq8890 376 6 := (hFq8904 376 6 rfl)
        have es8922 : mq8904 376 8 = mq8890 376 8 := (hFq8904 376 8 rfl)
        have em8923 : mu mq8904 = mu mq8890 := mu_fr (hFq8904 376 1 rfl) (hFq8904 376 3 rfl) (hFq8904 376 6 rfl)
        refine y_callIB 114 [.ref 376, yI 59] [] c138_111 rfl rfl rfl rfl rfl (ycanO km118 ko376) (t118 hTq8904 (by omega) (by omega)) (fun rq8918 mq8918 nq8918 hq8918 => ?_)
        obtain ⟨rfl, hTq8918, hFq8918, hq8918⟩ := hq8918
        have x1q8918 : mq8918 376 1 = m 376 1 := ((hFq8918 376 1 rfl).trans ((hFq8904 376 1 rfl).trans ((hFq8890 376 1 rfl).trans (hFq8885 376 1 rfl))))
        have hF8924 := hF8916.tr hFq8918 wNw_wSt1
        refine y_if 118 117 c138_114 rfl rfl (yz_ne (by omega)) (fun hb8925 => ?_) (fun hb8925 => ?_)
        · have es8926 : mq8918 376 1 = m 376 1 := ((hFq8918 376 1 rfl).trans ((hFq8904 376 1 rfl).trans ((hFq8890 376 1 rfl).trans (hFq8885 376 1 rfl))))
          have tb8927 := hTq8918.atp 376 3 0 3 rfl
          have tb8928 := hTq8918.atp 376 6 0 320 rfl
          have tb8929 := hTq8918.atp 376 8 ((-1)) 320 rfl
          have es8930 : mq8918 390 1 = mq8904 390 1 := (hFq8918 390 1 rfl)
          have tb8931 := hTq8904.atp 390 1 0 125 rfl
          have es8932 : mq8918 386 1 = m 386 1 := ((hFq8918 386 1 rfl).trans ((hFq8904 386 1 rfl).trans ((hFq8890 386 1 rfl).trans (hFq8885 386 1 rfl))))
          have es8933 : mq8918 387 1 = m 387 1 := ((hFq8918 387 1 rfl).trans ((hFq8904 387 1 rfl).trans ((hFq8890 387 1 rfl).trans (hFq8885 387 1 rfl))))
          have es8934 : mq8918 388 1 = m 388 1 := ((hFq8918 388 1 rfl).trans ((hFq8904 388 1 rfl).trans ((hFq8890 388 1 rfl).trans (hFq8885 388 1 rfl))))
          have es8935 : mq8918 376 17 = m 376 17 := ((hFq8918 376 17 rfl).trans ((hFq8904 376 17 rfl).trans ((hFq8890 376 17 rfl).trans (hFq8885 376 17 rfl))))
          have es8936 : mq8918 384 1 = m 384 1 := ((hFq8918 384 1 rfl).trans ((hFq8904 384 1 rfl).trans ((hFq8890 384 1 rfl).trans (hFq8885 384 1 rfl))))
          have f0 : mq8918 403 (1000 * 1 + 8 * (m 390 1).toNat) = _ := ((hFq8918 403 _ rfl)).trans k2
          have f1 : mq8918 403 (1000 * 1 + 8 * (m 390 1).toNat + 1) = _ := ((hFq8918 403 _ rfl)).trans k3
          have f2 : mq8918 403 (1000 * 1 + 8 * (m 390 1).toNat + 2) = _ := ((hFq8918 403 _ rfl)).trans k4
          have f3 : mq8918 403 (1000 * 1 + 8 * (m 390 1).toNat + 3) = _ := ((hFq8918 403 _ rfl)).trans k5
          have f4 : mq8918 403 (1000 * 1 + 8 * (m 390 1).toNat + 4) = _ := ((hFq8918 403 _ rfl)).trans k6
          have hw : OW mq8918 (1000 * 1 + 8 * (m 390 1).toNat) := by unfold OW; omega
          have hx : XS 1 mq8918 := XS.add hX (by omega) (fun a q ha => hF8924 a q (wSt1_Y a q ha)) (fun q hq => ((hFq8918 403 q rfl)).trans (k8 q hq)) hw (by omega) (by omega) (by omega) (by omega) (by omega) (by omega) (by omega) (fun c hc => by rw [show mq8918 401 (8 * 1 + c) = m 401 (8 * 1 + c) from ((hFq8918 401 _ rfl).trans ((hFq8904 401 _ rfl).trans ((hFq8890 401 _ rfl).trans (hFq8885 401 _ rfl))))]; exact hCV c (by omega)) (by omega) (by omega)
          exact y_retU c138_118 ⟨rfl, hTq8918, hF8924, by omega, by first | exact Or.inl (by omega) | exact Or.inr ⟨by omega, by omega, by omega, hx⟩⟩
        · have es8937 : mq8918 376 1 = m 376 1 := ((hFq8918 376 1 rfl).trans ((hFq8904 376 1 rfl).trans ((hFq8890 376 1 rfl).trans (hFq8885 376 1 rfl))))
          have tb8938 := hTq8918.atp 376 3 0 3 rfl
          have tb8939 := hTq8918.atp 376 6 0 320 rfl
          have tb8940 := hTq8918.atp 376 8 ((-1)) 320 rfl
          have es8941 : mq8918 390 1 = mq8904 390 1 := (hFq8918 390 1 rfl)
          have tb8942 := hTq8904.atp 390 1 0 125 rfl
          have es8943 : mq8918 386 1 = m 386 1 := ((hFq8918 386 1 rfl).trans ((hFq8904 386 1 rfl).trans ((hFq8890 386 1 rfl).trans (hFq8885 386 1 rfl))))
          have es8944 : mq8918 387 1 = m 387 1 := ((hFq8918 387 1 rfl).trans ((hFq8904 387 1 rfl).trans ((hFq8890 387 1 rfl).trans (hFq8885 387 1 rfl))))
          have es8945 : mq8918 388 1 = m 388 1 := ((hFq8918 388 1 rfl).trans ((hFq8904 388 1 rfl).trans ((hFq8890 388 1 rfl).trans (hFq8885 388 1 rfl))))
          have es8946 : mq8918 376 17 = m 376 17 := ((hFq8918 376 17 rfl).trans ((hFq8904 376 17 rfl).trans ((hFq8890 376 17 rfl).trans (hFq8885 376 17 rfl))))
          have es8947 : mq8918 384 1 = m 384 1 := ((hFq8918 384 1 rfl).trans ((hFq8904 384 1 rfl).trans ((hFq8890 384 1 rfl).trans (hFq8885 384 1 rfl))))
          have f0 : mq8918 403 (1000 * 1 + 8 * (m 390 1).toNat) = _ := ((hFq8918 403 _ rfl)).trans k2
          have f1 : mq8918 403 (1000 * 1 + 8 * (m 390 1).toNat + 1) = _ := ((hFq8918 403 _ rfl)).trans k3
          have f2 : mq8918 403 (1000 * 1 + 8 * (m 390 1).toNat + 2) = _ := ((hFq8918 403 _ rfl)).trans k4
          have f3 : mq8918 403 (1000 * 1 + 8 * (m 390 1).toNat + 3) = _ := ((hFq8918 403 _ rfl)).trans k5
          have f4 : mq8918 403 (1000 * 1 + 8 * (m 390 1).toNat + 4) = _ := ((hFq8918 403 _ rfl)).trans k6
          have hw : OW mq8918 (1000 * 1 + 8 * (m 390 1).toNat) := by unfold OW; omega
          have hx : XS 1 mq8918 := XS.add hX (by omega) (fun a q ha => hF8924 a q (wSt1_Y a q ha)) (fun q hq => ((hFq8918 403 q rfl)).trans (k8 q hq)) hw (by omega) (by omega) (by omega) (by omega) (by omega) (by omega) (by omega) (fun c hc => by rw [show mq8918 401 (8 * 1 + c) = m 401 (8 * 1 + c) from ((hFq8918 401 _ rfl).trans ((hFq8904 401 _ rfl).trans ((hFq8890 401 _ rfl).trans (hFq8885 401 _ rfl))))]; exact hCV c (by omega)) (by omega) (by omega)
          exact y_retU c138_117 ⟨rfl, hTq8918, hF8924, by omega, by first | exact Or.inl (by omega) | exact Or.inr ⟨by omega, by omega, by omega, hx⟩⟩
