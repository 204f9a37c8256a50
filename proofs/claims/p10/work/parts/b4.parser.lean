/-! CONTRACTS: printed by wip/whole/gen80.py and on -/
def wHd256 (a q : Nat) : Bool := (a == 2 && (q == 2 || q == 4)) || (a == 2 && q == 3) || (a == 256 && q == 9) || a == 257 || a == 258 || a == 259
theorem wFa_wHd256 : ∀ a q, wFa a q = true → wHd256 a q = true := by
  intro a q h
  simp [wFa] at h
  simp [wHd256]
  omega
theorem wAt_wHd256 : ∀ a q, wAt a q = true → wHd256 a q = true := by
  intro a q h
  simp [wAt] at h
  simp [wHd256]
  omega
theorem wCl256_wHd256 : ∀ a q, wCl256 a q = true → wHd256 a q = true := by
  intro a q h
  simp [wCl256] at h
  simp [wHd256]
  omega
def wFd256 (a q : Nat) : Bool := (a == 2 && (q == 2 || q == 4)) || (a == 256 && q == 11) || a == 260 || a == 259
theorem wFa_wFd256 : ∀ a q, wFa a q = true → wFd256 a q = true := by
  intro a q h
  simp [wFa] at h
  simp [wFd256]
  omega
theorem wAt_wFd256 : ∀ a q, wAt a q = true → wFd256 a q = true := by
  intro a q h
  simp [wAt] at h
  simp [wFd256]
  omega
theorem wFi256_wFd256 : ∀ a q, wFi256 a q = true → wFd256 a q = true := by
  intro a q h
  simp [wFi256] at h
  simp [wFd256]
  omega
def wVr256 (a q : Nat) : Bool := (a == 2 && (q == 2 || q == 4)) || (a == 256 && q == 15) || a == 261
theorem wFa_wVr256 : ∀ a q, wFa a q = true → wVr256 a q = true := by
  intro a q h
  simp [wFa] at h
  simp [wVr256]
  omega
theorem wAt_wVr256 : ∀ a q, wAt a q = true → wVr256 a q = true := by
  intro a q h
  simp [wAt] at h
  simp [wVr256]
  omega
theorem wVa256_wVr256 : ∀ a q, wVa256 a q = true → wVr256 a q = true := by
  intro a q h
  simp [wVa256] at h
  simp [wVr256]
  omega
def wPr256 (a q : Nat) : Bool := (a == 2 && (q == 2 || q == 4)) || (a == 256 && q == 15) || a == 261 || (decide (266 ≤ a ∧ a < 276) && q == 3)
theorem wFa_wPr256 : ∀ a q, wFa a q = true → wPr256 a q = true := by
  intro a q h
  simp [wFa] at h
  simp [wPr256]
  omega
theorem wAt_wPr256 : ∀ a q, wAt a q = true → wPr256 a q = true := by
  intro a q h
  simp [wAt] at h
  simp [wPr256]
  omega
theorem wPm256_wPr256 : ∀ a q, wPm256 a q = true → wPr256 a q = true := by
  intro a q h
  simp [wPm256] at h
  simp [wPr256]
  omega
set_option maxRecDepth 100000 in
theorem t45_256 {L : Nat} {xs : Nat → Int32} {d nn : Nat} {m : yM} {e : Int} (hT : Ty gT m) (he : 0 ≤ e ∧ e ≤ 320) (hE : m 5 e.toNat = 0) (ha : m 2 2 ≤ e) (hp : m 2 1 = 0) : YC (gZ L xs) (d + 3) 45 [.ref 2] m nn (qI (fun r m' n' => n' = nn ∧ Ty gT m' ∧ Fr wHd256 m m' ∧ (r = 0 ∨ r = 1) ∧ m' 2 2 ≤ e ∧ m 256 9 ≤ m' 256 9 ∧ (r = 1 → 1 ≤ m' 256 9) ∧ m' 2 3 = m 2 3)) := by
  have tb9 := hT.atp 256 9 0 6 rfl
  have tb2 := hT.atp 2 2 0 320 rfl
  refine YC.mkB [some (.ref 2)] kn45 rfl rfl ?_
  have hF : Fr wHd256 m m := Fr.rf
  refine y_aload 1 c45_0 rfl rfl rfl ?_
  refine y_iconst 2 c45_1 rfl ?_
  have tb463 := hT.atp 2 2 0 320 rfl
  refine y_callIB 5 [.ref 2, yI 1] [] c45_2 rfl rfl rfl rfl rfl (ycanO km37 ko2) (t37 hT he hE (by omega) (by omega)) (fun rq462 mq462 nq462 hq462 => ?_)
  obtain ⟨rfl, hTq462, hFq462, hq462⟩ := hq462
  have hF464 := hF.tr hFq462 wAt_wHd256
  refine y_if 10 8 c45_5 rfl rfl (yz_ne (by omega)) (fun hb465 => ?_) (fun hb465 => ?_)
  · refine y_aload 11 c45_10 rfl rfl rfl ?_
    have tb466 := hTq462.atp 2 2 0 320 rfl
    refine y_callP 14 [.ref 2] [] c45_11 rfl rfl rfl rfl rfl (ycanO km38 ko2) (t38 hTq462 he (by have e1 : mq462 5 e.toNat = m 5 e.toNat := (hFq462 5 e.toNat rfl); omega) (by omega)) (fun r467 hr467 => ?_)
    refine y_iconst 16 c45_14 rfl ?_
    refine y_icmp 33 19 c45_16 rfl rfl (yc_ne (by omega) (by omega)) (fun hb468 => ?_) (fun hb468 => ?_)
    · refine y_aload 34 c45_33 rfl rfl rfl ?_
      refine y_callIB 37 [.ref 2] [] c45_34 rfl rfl rfl rfl rfl (ycanO km43 ko2) (t43 hTq462) (fun rq469 mq469 nq469 hq469 => ?_)
      obtain ⟨rfl, hTq469, hFq469, hq469⟩ := hq469
      have hF470 := hF464.tr hFq469 wFa_wHd256
      have es471 : mq469 2 2 = mq462 2 2 := (hFq469 2 2 rfl)
      have es472 : mq469 256 9 = m 256 9 := ((hFq469 256 9 rfl).trans (hFq462 256 9 rfl))
      have tb473 := hT.atp 256 9 0 6 rfl
      have es474 : mq469 2 3 = m 2 3 := ((hFq469 2 3 rfl).trans (hFq462 2 3 rfl))
      have tb475 := hT.atp 2 3 0 1 rfl
      exact y_retI c45_37 (y_fit1 (by omega)) ⟨rfl, hTq469, hF470, by omega⟩
    · refine y_aload 20 c45_19 rfl rfl rfl ?_
      refine y_getS 23 (B := 256) c45_20 rfl kf2_1 (by rw [show mq462 2 1 = 0 from by have e : mq462 2 1 = m 2 1 := (hFq462 2 1 rfl); omega]; rfl) ?_
      refine y_aload 24 c45_23 rfl rfl rfl ?_
      refine y_callP 27 [.ref 2] [.ref 256] c45_24 rfl rfl rfl rfl rfl (ycanO km39 ko2) (t39 hTq462) (fun r476 hr476 => ?_)
      have es478 : mq462 256 9 = m 256 9 := (hFq462 256 9 rfl)
      have tb479 := hT.atp 256 9 0 6 rfl
      refine y_callIB 30 [.ref 256, yI r476] [] c45_27 rfl rfl rfl rfl rfl (ycanO km42 ko256) (t42_256 hTq462 (by omega)) (fun rq477 mq477 nq477 hq477 => ?_)
      obtain ⟨rfl, hTq477, hFq477, hq477⟩ := hq477
      have hF480 := hF464.tr hFq477 wCl256_wHd256
      refine y_if 38 33 c45_30 rfl rfl (yz_ne (by omega)) (fun hb481 => ?_) (fun hb481 => ?_)
      · refine y_aload 39 c45_38 rfl rfl rfl ?_
        refine y_dup 40 c45_39 rfl rfl ?_
        refine y_getX 43 (mq462 2 2) c45_40 rfl kf2_2 (hFq477 2 2 rfl) ?_
        refine y_iconst 44 c45_43 rfl ?_
        refine y_iadd 45 c45_44 rfl ?_
        refine y_putI 48 c45_45 rfl kf2_2 (y_fit0 _) ?_
        have hT482 := hTq477.up 2 2 ((mq462 2 2) + 1) 0 320 rfl (by omega)
        have hF483 := hF480.up 2 2 ((mq462 2 2) + 1) rfl
        refine y_aload 49 c45_48 rfl rfl rfl ?_
        have es484 : (yup mq477 2 2 ((mq462 2 2) + 1)) 2 2 = (mq462 2 2) + 1 := rfl
        refine y_callP 52 [.ref 2] [] c45_49 rfl rfl rfl rfl rfl (ycanO km38 ko2) (t38 hT482 he (by have e1 : (yup mq477 2 2 ((mq462 2 2) + 1)) 5 e.toNat = m 5 e.toNat := ((yup_na (by decide)).trans ((hFq477 5 e.toNat rfl).trans (hFq462 5 e.toNat rfl))); omega) (by omega)) (fun r485 hr485 => ?_)
        refine y_iconst 54 c45_52 rfl ?_
        refine y_icmp 105 57 c45_54 rfl rfl (yc_ne (by omega) (by omega)) (fun hb486 => ?_) (fun hb486 => ?_)
        · refine y_aload 106 c45_105 rfl rfl rfl ?_
          refine y_iconst 108 c45_106 rfl ?_
          have es488 : (yup mq477 2 2 ((mq462 2 2) + 1)) 2 2 = (mq462 2 2) + 1 := rfl
          refine y_callIB 111 [.ref 2, yI 123] [] c45_108 rfl rfl rfl rfl rfl (ycanO km37 ko2) (t37 hT482 he (by have e1 : (yup mq477 2 2 ((mq462 2 2) + 1)) 5 e.toNat = m 5 e.toNat := ((yup_na (by decide)).trans ((hFq477 5 e.toNat rfl).trans (hFq462 5 e.toNat rfl))); omega) (by omega) (by omega)) (fun rq487 mq487 nq487 hq487 => ?_)
          obtain ⟨rfl, hTq487, hFq487, hq487⟩ := hq487
          have hF489 := hF483.tr hFq487 wAt_wHd256
          have tb490 := hTq487.atp 2 2 0 320 rfl
          have es491 : mq487 256 9 = mq477 256 9 := ((hFq487 256 9 rfl).trans (yup_na (by decide)))
          have tb492 := hTq477.atp 256 9 0 6 rfl
          have es493 : mq487 2 3 = m 2 3 := ((hFq487 2 3 rfl).trans ((yup_nk (by decide)).trans ((hFq477 2 3 rfl).trans (hFq462 2 3 rfl))))
          have tb494 := hT.atp 2 3 0 1 rfl
          exact y_retI c45_111 (y_fit1 (by omega)) ⟨rfl, hTq487, hF489, by omega⟩
        · refine y_aload 58 c45_57 rfl rfl rfl ?_
          refine y_dup 59 c45_58 rfl rfl ?_
          refine y_getX 62 ((mq462 2 2) + 1) c45_59 rfl kf2_2 rfl ?_
          refine y_iconst 63 c45_62 rfl ?_
          refine y_iadd 64 c45_63 rfl ?_
          refine y_putI 67 c45_64 rfl kf2_2 (y_fit0 _) ?_
          have hT495 := hT482.up 2 2 (((mq462 2 2) + 1) + 1) 0 320 rfl (by omega)
          have hF496 := hF483.up 2 2 (((mq462 2 2) + 1) + 1) rfl
          refine y_aload 68 c45_67 rfl rfl rfl ?_
          have es497 : (yup (yup mq477 2 2 ((mq462 2 2) + 1)) 2 2 (((mq462 2 2) + 1) + 1)) 2 2 = ((mq462 2 2) + 1) + 1 := rfl
          refine y_callP 71 [.ref 2] [] c45_68 rfl rfl rfl rfl rfl (ycanO km38 ko2) (t38 hT495 he (by have e1 : (yup (yup mq477 2 2 ((mq462 2 2) + 1)) 2 2 (((mq462 2 2) + 1) + 1)) 5 e.toNat = m 5 e.toNat := ((yup_na (by decide)).trans ((yup_na (by decide)).trans ((hFq477 5 e.toNat rfl).trans (hFq462 5 e.toNat rfl)))); omega) (by omega)) (fun r498 hr498 => ?_)
          refine y_iconst 73 c45_71 rfl ?_
          refine y_icmp 90 76 c45_73 rfl rfl (yc_ne (by omega) (by omega)) (fun hb499 => ?_) (fun hb499 => ?_)
          · refine y_aload 91 c45_90 rfl rfl rfl ?_
            have es501 : (yup (yup mq477 2 2 ((mq462 2 2) + 1)) 2 2 (((mq462 2 2) + 1) + 1)) 2 2 = ((mq462 2 2) + 1) + 1 := rfl
            refine y_callIB 94 [.ref 2] [] c45_91 rfl rfl rfl rfl rfl (ycanO km43 ko2) (t43 hT495) (fun rq500 mq500 nq500 hq500 => ?_)
            obtain ⟨rfl, hTq500, hFq500, hq500⟩ := hq500
            have hF502 := hF496.tr hFq500 wFa_wHd256
            have es503 : mq500 2 2 = ((mq462 2 2) + 1) + 1 := ((hFq500 2 2 rfl).trans (yup_eq _ _ _ _))
            have es504 : mq500 256 9 = mq477 256 9 := ((hFq500 256 9 rfl).trans ((yup_na (by decide)).trans (yup_na (by decide))))
            have tb505 := hTq477.atp 256 9 0 6 rfl
            have es506 : mq500 2 3 = m 2 3 := ((hFq500 2 3 rfl).trans ((yup_nk (by decide)).trans ((yup_nk (by decide)).trans ((hFq477 2 3 rfl).trans (hFq462 2 3 rfl)))))
            have tb507 := hT.atp 2 3 0 1 rfl
            exact y_retI c45_94 (y_fit1 (by omega)) ⟨rfl, hTq500, hF502, by omega⟩
          · refine y_aload 77 c45_76 rfl rfl rfl ?_
            refine y_getS 80 (B := 256) c45_77 rfl kf2_1 (by rw [show (yup (yup mq477 2 2 ((mq462 2 2) + 1)) 2 2 (((mq462 2 2) + 1) + 1)) 2 1 = 0 from by have e : (yup (yup mq477 2 2 ((mq462 2 2) + 1)) 2 2 (((mq462 2 2) + 1) + 1)) 2 1 = m 2 1 := ((yup_nk (by decide)).trans ((yup_nk (by decide)).trans ((hFq477 2 1 rfl).trans (hFq462 2 1 rfl)))); omega]; rfl) ?_
            refine y_aload 81 c45_80 rfl rfl rfl ?_
            refine y_callP 84 [.ref 2] [.ref 256] c45_81 rfl rfl rfl rfl rfl (ycanO km39 ko2) (t39 hT495) (fun r508 hr508 => ?_)
            have es510 : (yup (yup mq477 2 2 ((mq462 2 2) + 1)) 2 2 (((mq462 2 2) + 1) + 1)) 256 9 = mq477 256 9 := rfl
            have tb511 := hTq477.atp 256 9 0 6 rfl
            refine y_callIB 87 [.ref 256, yI r508] [] c45_84 rfl rfl rfl rfl rfl (ycanO km44 ko256) (t44_256 hT495 (by omega) (by omega)) (fun rq509 mq509 nq509 hq509 => ?_)
            obtain ⟨rfl, hTq509, hFq509, hq509⟩ := hq509
            have hF512 := hF496.tr hFq509 wCl256_wHd256
            refine y_if 95 90 c45_87 rfl rfl (yz_ne (by omega)) (fun hb513 => ?_) (fun hb513 => ?_)
            · refine y_aload 96 c45_95 rfl rfl rfl ?_
              refine y_dup 97 c45_96 rfl rfl ?_
              refine y_getX 100 (((mq462 2 2) + 1) + 1) c45_97 rfl kf2_2 ((hFq509 2 2 rfl).trans (yup_eq _ _ _ _)) ?_
              refine y_iconst 101 c45_100 rfl ?_
              refine y_iadd 102 c45_101 rfl ?_
              refine y_putI 105 c45_102 rfl kf2_2 (y_fit0 _) ?_
              have hT514 := hTq509.up 2 2 ((((mq462 2 2) + 1) + 1) + 1) 0 320 rfl (by omega)
              have hF515 := hF512.up 2 2 ((((mq462 2 2) + 1) + 1) + 1) rfl
              refine y_aload 106 c45_105 rfl rfl rfl ?_
              refine y_iconst 108 c45_106 rfl ?_
              have es517 : (yup mq509 2 2 ((((mq462 2 2) + 1) + 1) + 1)) 2 2 = (((mq462 2 2) + 1) + 1) + 1 := rfl
              refine y_callIB 111 [.ref 2, yI 123] [] c45_108 rfl rfl rfl rfl rfl (ycanO km37 ko2) (t37 hT514 he (by have e1 : (yup mq509 2 2 ((((mq462 2 2) + 1) + 1) + 1)) 5 e.toNat = m 5 e.toNat := ((yup_na (by decide)).trans ((hFq509 5 e.toNat rfl).trans ((yup_na (by decide)).trans ((yup_na (by decide)).trans ((hFq477 5 e.toNat rfl).trans (hFq462 5 e.toNat rfl)))))); omega) (by omega) (by omega)) (fun rq516 mq516 nq516 hq516 => ?_)
              obtain ⟨rfl, hTq516, hFq516, hq516⟩ := hq516
              have hF518 := hF515.tr hFq516 wAt_wHd256
              have tb519 := hTq516.atp 2 2 0 320 rfl
              have es520 : mq516 256 9 = mq509 256 9 := ((hFq516 256 9 rfl).trans (yup_na (by decide)))
              have tb521 := hTq509.atp 256 9 0 6 rfl
              have es522 : mq516 2 3 = m 2 3 := ((hFq516 2 3 rfl).trans ((yup_nk (by decide)).trans ((hFq509 2 3 rfl).trans ((yup_nk (by decide)).trans ((yup_nk (by decide)).trans ((hFq477 2 3 rfl).trans (hFq462 2 3 rfl)))))))
              have tb523 := hT.atp 2 3 0 1 rfl
              exact y_retI c45_111 (y_fit1 (by omega)) ⟨rfl, hTq516, hF518, by omega⟩
            · refine y_aload 91 c45_90 rfl rfl rfl ?_
              have es525 : mq509 2 2 = ((mq462 2 2) + 1) + 1 := ((hFq509 2 2 rfl).trans (yup_eq _ _ _ _))
              refine y_callIB 94 [.ref 2] [] c45_91 rfl rfl rfl rfl rfl (ycanO km43 ko2) (t43 hTq509) (fun rq524 mq524 nq524 hq524 => ?_)
              obtain ⟨rfl, hTq524, hFq524, hq524⟩ := hq524
              have hF526 := hF512.tr hFq524 wFa_wHd256
              have es527 : mq524 2 2 = ((mq462 2 2) + 1) + 1 := ((hFq524 2 2 rfl).trans ((hFq509 2 2 rfl).trans (yup_eq _ _ _ _)))
              have es528 : mq524 256 9 = mq509 256 9 := (hFq524 256 9 rfl)
              have tb529 := hTq509.atp 256 9 0 6 rfl
              have es530 : mq524 2 3 = m 2 3 := ((hFq524 2 3 rfl).trans ((hFq509 2 3 rfl).trans ((yup_nk (by decide)).trans ((yup_nk (by decide)).trans ((hFq477 2 3 rfl).trans (hFq462 2 3 rfl))))))
              have tb531 := hT.atp 2 3 0 1 rfl
              exact y_retI c45_94 (y_fit1 (by omega)) ⟨rfl, hTq524, hF526, by omega⟩
      · refine y_aload 34 c45_33 rfl rfl rfl ?_
        have es533 : mq477 2 2 = mq462 2 2 := (hFq477 2 2 rfl)
        refine y_callIB 37 [.ref 2] [] c45_34 rfl rfl rfl rfl rfl (ycanO km43 ko2) (t43 hTq477) (fun rq532 mq532 nq532 hq532 => ?_)
        obtain ⟨rfl, hTq532, hFq532, hq532⟩ := hq532
        have hF534 := hF480.tr hFq532 wFa_wHd256
        have es535 : mq532 2 2 = mq462 2 2 := ((hFq532 2 2 rfl).trans (hFq477 2 2 rfl))
        have es536 : mq532 256 9 = mq477 256 9 := (hFq532 256 9 rfl)
        have tb537 := hTq477.atp 256 9 0 6 rfl
        have es538 : mq532 2 3 = m 2 3 := ((hFq532 2 3 rfl).trans ((hFq477 2 3 rfl).trans (hFq462 2 3 rfl)))
        have tb539 := hT.atp 2 3 0 1 rfl
        exact y_retI c45_37 (y_fit1 (by omega)) ⟨rfl, hTq532, hF534, by omega⟩
  · refine y_iconst 9 c45_8 rfl ?_
    have tb540 := hTq462.atp 2 2 0 320 rfl
    have es541 : mq462 256 9 = m 256 9 := (hFq462 256 9 rfl)
    have tb542 := hT.atp 256 9 0 6 rfl
    have es543 : mq462 2 3 = m 2 3 := (hFq462 2 3 rfl)
    have tb544 := hT.atp 2 3 0 1 rfl
    exact y_retI c45_9 (y_fit1 (by omega)) ⟨rfl, hTq462, hF464, by omega⟩
set_option maxRecDepth 100000 in
theorem t49_256 {L : Nat} {xs : Nat → Int32} {d nn : Nat} {m : yM} {e : Int} (hT : Ty gT m) (he : 0 ≤ e ∧ e ≤ 320) (hE : m 5 e.toNat = 0) (ha : m 2 2 ≤ e) (hp : m 2 1 = 0) (hc : 1 ≤ m 256 9) (hlt : m 2 2 < e) : YC (gZ L xs) (d + 3) 49 [.ref 2] m nn (qI (fun r m' n' => n' = nn ∧ Ty gT m' ∧ Fr wFd256 m m' ∧ (r = 0 ∨ r = 1) ∧ m' 2 2 ≤ e)) := by
  refine YC.mkB [some (.ref 2)] kn49 rfl rfl ?_
  have hF : Fr wFd256 m m := Fr.rf
  refine y_aload 1 c49_0 rfl rfl rfl ?_
  refine y_dup 2 c49_1 rfl rfl ?_
  refine y_getX 5 (m 2 2) c49_2 rfl kf2_2 rfl ?_
  have tb545 := hT.atp 2 2 0 320 rfl
  refine y_iconst 6 c49_5 rfl ?_
  refine y_iadd 7 c49_6 rfl ?_
  refine y_putI 10 c49_7 rfl kf2_2 (y_fit0 _) ?_
  have hT546 := hT.up 2 2 ((m 2 2) + 1) 0 320 rfl (by omega)
  have hF547 := hF.up 2 2 ((m 2 2) + 1) rfl
  refine y_aload 11 c49_10 rfl rfl rfl ?_
  have es548 : (yup m 2 2 ((m 2 2) + 1)) 2 2 = (m 2 2) + 1 := rfl
  refine y_callP 14 [.ref 2] [] c49_11 rfl rfl rfl rfl rfl (ycanO km38 ko2) (t38 hT546 he (by have e1 : (yup m 2 2 ((m 2 2) + 1)) 5 e.toNat = m 5 e.toNat := (yup_na (by decide)); omega) (by omega)) (fun r549 hr549 => ?_)
  refine y_iconst 16 c49_14 rfl ?_
  refine y_icmp 33 19 c49_16 rfl rfl (yc_ne (by omega) (by omega)) (fun hb550 => ?_) (fun hb550 => ?_)
  · refine y_aload 34 c49_33 rfl rfl rfl ?_
    have es552 : (yup m 2 2 ((m 2 2) + 1)) 2 2 = (m 2 2) + 1 := rfl
    refine y_callIB 37 [.ref 2] [] c49_34 rfl rfl rfl rfl rfl (ycanO km43 ko2) (t43 hT546) (fun rq551 mq551 nq551 hq551 => ?_)
    obtain ⟨rfl, hTq551, hFq551, hq551⟩ := hq551
    have hF553 := hF547.tr hFq551 wFa_wFd256
    have es554 : mq551 2 2 = (m 2 2) + 1 := ((hFq551 2 2 rfl).trans (yup_eq _ _ _ _))
    exact y_retI c49_37 (y_fit1 (by omega)) ⟨rfl, hTq551, hF553, by omega⟩
  · refine y_aload 20 c49_19 rfl rfl rfl ?_
    refine y_getS 23 (B := 256) c49_20 rfl kf2_1 (by rw [show (yup m 2 2 ((m 2 2) + 1)) 2 1 = 0 from by have e : (yup m 2 2 ((m 2 2) + 1)) 2 1 = m 2 1 := rfl; omega]; rfl) ?_
    refine y_aload 24 c49_23 rfl rfl rfl ?_
    refine y_callP 27 [.ref 2] [.ref 256] c49_24 rfl rfl rfl rfl rfl (ycanO km39 ko2) (t39 hT546) (fun r555 hr555 => ?_)
    have es557 : (yup m 2 2 ((m 2 2) + 1)) 256 9 = m 256 9 := rfl
    have tb558 := hT.atp 256 9 0 6 rfl
    refine y_callIB 30 [.ref 256, yI r555] [] c49_27 rfl rfl rfl rfl rfl (ycanO km48 ko256) (t48_256 hT546 (by omega) (by omega)) (fun rq556 mq556 nq556 hq556 => ?_)
    obtain ⟨rfl, hTq556, hFq556, hq556⟩ := hq556
    have hF559 := hF547.tr hFq556 wFi256_wFd256
    refine y_if 38 33 c49_30 rfl rfl (yz_ne (by omega)) (fun hb560 => ?_) (fun hb560 => ?_)
    · refine y_aload 39 c49_38 rfl rfl rfl ?_
      refine y_dup 40 c49_39 rfl rfl ?_
      refine y_getX 43 ((m 2 2) + 1) c49_40 rfl kf2_2 ((hFq556 2 2 rfl).trans (yup_eq _ _ _ _)) ?_
      refine y_iconst 44 c49_43 rfl ?_
      refine y_iadd 45 c49_44 rfl ?_
      refine y_putI 48 c49_45 rfl kf2_2 (y_fit0 _) ?_
      have hT561 := hTq556.up 2 2 (((m 2 2) + 1) + 1) 0 320 rfl (by omega)
      have hF562 := hF559.up 2 2 (((m 2 2) + 1) + 1) rfl
      refine y_aload 49 c49_48 rfl rfl rfl ?_
      refine y_iconst 51 c49_49 rfl ?_
      have es564 : (yup mq556 2 2 (((m 2 2) + 1) + 1)) 2 2 = ((m 2 2) + 1) + 1 := rfl
      refine y_callIB 54 [.ref 2, yI 59] [] c49_51 rfl rfl rfl rfl rfl (ycanO km37 ko2) (t37 hT561 he (by have e1 : (yup mq556 2 2 (((m 2 2) + 1) + 1)) 5 e.toNat = m 5 e.toNat := ((yup_na (by decide)).trans ((hFq556 5 e.toNat rfl).trans (yup_na (by decide)))); omega) (by omega) (by omega)) (fun rq563 mq563 nq563 hq563 => ?_)
      obtain ⟨rfl, hTq563, hFq563, hq563⟩ := hq563
      have hF565 := hF562.tr hFq563 wAt_wFd256
      have tb566 := hTq563.atp 2 2 0 320 rfl
      exact y_retI c49_54 (y_fit1 (by omega)) ⟨rfl, hTq563, hF565, by omega⟩
    · refine y_aload 34 c49_33 rfl rfl rfl ?_
      have es568 : mq556 2 2 = (m 2 2) + 1 := ((hFq556 2 2 rfl).trans (yup_eq _ _ _ _))
      refine y_callIB 37 [.ref 2] [] c49_34 rfl rfl rfl rfl rfl (ycanO km43 ko2) (t43 hTq556) (fun rq567 mq567 nq567 hq567 => ?_)
      obtain ⟨rfl, hTq567, hFq567, hq567⟩ := hq567
      have hF569 := hF559.tr hFq567 wFa_wFd256
      have es570 : mq567 2 2 = (m 2 2) + 1 := ((hFq567 2 2 rfl).trans ((hFq556 2 2 rfl).trans (yup_eq _ _ _ _)))
      exact y_retI c49_37 (y_fit1 (by omega)) ⟨rfl, hTq567, hF569, by omega⟩
set_option maxRecDepth 100000 in
theorem t71_256 {L : Nat} {xs : Nat → Int32} {d nn : Nat} {m : yM} {e : Int} (hT : Ty gT m) (he : 0 ≤ e ∧ e ≤ 320) (hE : m 5 e.toNat = 0) (ha : m 2 2 ≤ e) (hp : m 2 1 = 0) (hc : 1 ≤ m 256 9) (hlt : m 2 2 < e) : YC (gZ L xs) (d + 4) 71 [.ref 2] m nn (qI (fun r m' n' => n' = nn ∧ Ty gT m' ∧ Fr wHd256 m m' ∧ (r = 0 ∨ r = 1) ∧ m' 2 2 ≤ e ∧ 1 ≤ m' 256 9)) := by
  refine YC.mkB [some (.ref 2)] kn71 rfl rfl ?_
  have hF : Fr wHd256 m m := Fr.rf
  refine y_aload 1 c71_0 rfl rfl rfl ?_
  refine y_dup 2 c71_1 rfl rfl ?_
  refine y_getX 5 (m 2 2) c71_2 rfl kf2_2 rfl ?_
  have tb571 := hT.atp 2 2 0 320 rfl
  refine y_iconst 6 c71_5 rfl ?_
  refine y_iadd 7 c71_6 rfl ?_
  refine y_putI 10 c71_7 rfl kf2_2 (y_fit0 _) ?_
  have hT572 := hT.up 2 2 ((m 2 2) + 1) 0 320 rfl (by omega)
  have hF573 := hF.up 2 2 ((m 2 2) + 1) rfl
  refine y_aload 11 c71_10 rfl rfl rfl ?_
  refine y_aload 12 c71_11 rfl rfl rfl ?_
  have es574 : (yup m 2 2 ((m 2 2) + 1)) 2 2 = (m 2 2) + 1 := rfl
  refine y_callP 15 [.ref 2] [.ref 2] c71_12 rfl rfl rfl rfl rfl (ycanO km38 ko2) (t38 hT572 he (by have e1 : (yup m 2 2 ((m 2 2) + 1)) 5 e.toNat = m 5 e.toNat := (yup_na (by decide)); omega) (by omega)) (fun r575 hr575 => ?_)
  refine y_if 22 18 c71_15 rfl rfl (yz_ne (by omega)) (fun hb576 => ?_) (fun hb576 => ?_)
  · refine y_iconst 23 c71_22 rfl ?_
    refine y_putI 26 c71_23 rfl kf2_3 (y_fit1 (by omega)) ?_
    have hT577 := hT572.up 2 3 0 0 1 rfl (by omega)
    have hF578 := hF573.up 2 3 0 rfl
    refine y_aload 27 c71_26 rfl rfl rfl ?_
    refine y_getX 30 0 c71_27 rfl kf2_3 rfl ?_
    refine y_if 40 33 c71_30 rfl rfl (yz_ne (by omega)) (fun hb579 => ?_) (fun hb579 => ?_)
    · exfalso; omega
    · refine y_aload 34 c71_33 rfl rfl rfl ?_
      have es581 : (yup (yup m 2 2 ((m 2 2) + 1)) 2 3 0) 2 2 = (m 2 2) + 1 := rfl
      have es582 : (yup (yup m 2 2 ((m 2 2) + 1)) 2 3 0) 256 9 = m 256 9 := rfl
      have tb583 := hT.atp 256 9 0 6 rfl
      have es584 : (yup (yup m 2 2 ((m 2 2) + 1)) 2 3 0) 2 1 = m 2 1 := rfl
      have tb585 := hT.atp 2 1 ((-1)) 1 rfl
      have es586 : (yup (yup m 2 2 ((m 2 2) + 1)) 2 3 0) 2 3 = 0 := rfl
      refine y_callIB 37 [.ref 2] [] c71_34 rfl rfl rfl rfl rfl (ycanO km45 ko2) (t45_256 hT577 he (by have e1 : (yup (yup m 2 2 ((m 2 2) + 1)) 2 3 0) 5 e.toNat = m 5 e.toNat := ((yup_na (by decide)).trans (yup_na (by decide))); omega) (by omega) (by omega)) (fun rq580 mq580 nq580 hq580 => ?_)
      obtain ⟨rfl, hTq580, hFq580, hq580⟩ := hq580
      have hF587 := hF578.tr hFq580 (fun _ _ e => e)
      refine y_if 44 40 c71_37 rfl rfl (yz_eq (by omega)) (fun hb588 => ?_) (fun hb588 => ?_)
      · refine y_iconst 45 c71_44 rfl ?_
        have tb589 := hTq580.atp 2 2 0 320 rfl
        have tb590 := hTq580.atp 256 9 0 6 rfl
        exact y_retI c71_45 (y_fit1 (by omega)) ⟨rfl, hTq580, hF587, by omega⟩
      · refine y_iconst 41 c71_40 rfl ?_
        refine y_goto 45 c71_41 rfl ?_
        have tb591 := hTq580.atp 2 2 0 320 rfl
        have tb592 := hTq580.atp 256 9 0 6 rfl
        exact y_retI c71_45 (y_fit1 (by omega)) ⟨rfl, hTq580, hF587, by omega⟩
  · refine y_iconst 19 c71_18 rfl ?_
    refine y_goto 23 c71_19 rfl ?_
    refine y_putI 26 c71_23 rfl kf2_3 (y_fit1 (by omega)) ?_
    have hT593 := hT572.up 2 3 1 0 1 rfl (by omega)
    have hF594 := hF573.up 2 3 1 rfl
    refine y_aload 27 c71_26 rfl rfl rfl ?_
    refine y_getX 30 1 c71_27 rfl kf2_3 rfl ?_
    refine y_if 40 33 c71_30 rfl rfl (yz_ne (by omega)) (fun hb595 => ?_) (fun hb595 => ?_)
    · refine y_iconst 41 c71_40 rfl ?_
      refine y_goto 45 c71_41 rfl ?_
      have es596 : (yup (yup m 2 2 ((m 2 2) + 1)) 2 3 1) 2 2 = (m 2 2) + 1 := rfl
      have es597 : (yup (yup m 2 2 ((m 2 2) + 1)) 2 3 1) 256 9 = m 256 9 := rfl
      have tb598 := hT.atp 256 9 0 6 rfl
      exact y_retI c71_45 (y_fit1 (by omega)) ⟨rfl, hT593, hF594, by omega⟩
    · exfalso; omega
set_option maxRecDepth 100000 in
theorem t58_256 {L : Nat} {xs : Nat → Int32} {d nn : Nat} {m : yM} {e : Int} (hT : Ty gT m) (he : 0 ≤ e ∧ e ≤ 320) (hE : m 5 e.toNat = 0) (ha : m 2 2 ≤ e) (hp : m 2 1 = 0) (hm : 1 ≤ m 256 10) : YC (gZ L xs) (d + 1) 58 [.ref 2] m nn (qI (fun r m' n' => n' = nn ∧ Ty gT m' ∧ Fr wVr256 m m' ∧ -1 ≤ r ∧ r ≤ 47 ∧ m' 2 2 ≤ e ∧ m 256 15 ≤ m' 256 15)) := by
  have tb15 := hT.atp 256 15 0 48 rfl
  have tb2 := hT.atp 2 2 0 320 rfl
  refine YC.mkB [some (.ref 2), none] kn58 rfl rfl ?_
  have hF : Fr wVr256 m m := Fr.rf
  refine y_iconst 1 c58_0 rfl ?_
  refine y_istore 2 c58_1 rfl rfl ?_
  refine y_aload 3 c58_2 rfl rfl rfl ?_
  have tb599 := hT.atp 2 2 0 320 rfl
  refine y_callP 6 [.ref 2] [] c58_3 rfl rfl rfl rfl rfl (ycanO km38 ko2) (t38 hT he hE (by omega)) (fun r600 hr600 => ?_)
  refine y_iconst 8 c58_6 rfl ?_
  refine y_icmp 35 11 c58_8 rfl rfl (yc_ne (by omega) (by omega)) (fun hb601 => ?_) (fun hb601 => ?_)
  · refine y_aload 36 c58_35 rfl rfl rfl ?_
    refine y_callP 39 [.ref 2] [] c58_36 rfl rfl rfl rfl rfl (ycanO km38 ko2) (t38 hT he hE (by omega)) (fun r602 hr602 => ?_)
    refine y_iconst 41 c58_39 rfl ?_
    refine y_icmp 56 44 c58_41 rfl rfl (yc_ne (by omega) (by omega)) (fun hb603 => ?_) (fun hb603 => ?_)
    · refine y_iload 57 c58_56 rfl rfl ?_
      refine y_iconst 58 c58_57 rfl ?_
      refine y_icmp 69 61 c58_58 rfl rfl (yc_ne (by omega) (by omega)) (fun hb604 => ?_) (fun hb604 => ?_)
      · exfalso; omega
      · refine y_aload 62 c58_61 rfl rfl rfl ?_
        refine y_callIB 65 [.ref 2] [] c58_62 rfl rfl rfl rfl rfl (ycanO km43 ko2) (t43 hT) (fun rq605 mq605 nq605 hq605 => ?_)
        obtain ⟨rfl, hTq605, hFq605, hq605⟩ := hq605
        have hF606 := hF.tr hFq605 wFa_wVr256
        refine y_pop 66 c58_65 rfl rfl ?_
        refine y_goto 79 c58_66 rfl ?_
        refine y_iload 80 c58_79 rfl rfl ?_
        have es607 : mq605 2 2 = m 2 2 := (hFq605 2 2 rfl)
        have es608 : mq605 256 15 = m 256 15 := (hFq605 256 15 rfl)
        have tb609 := hT.atp 256 15 0 48 rfl
        exact y_retI c58_80 (y_fit0 _) ⟨rfl, hTq605, hF606, by omega⟩
    · refine y_aload 45 c58_44 rfl rfl rfl ?_
      refine y_getS 48 (B := 256) c58_45 rfl kf2_1 (by rw [show m 2 1 = 0 from by have e : m 2 1 = m 2 1 := rfl; omega]; rfl) ?_
      refine y_aload 49 c58_48 rfl rfl rfl ?_
      refine y_callP 52 [.ref 2] [.ref 256] c58_49 rfl rfl rfl rfl rfl (ycanO km39 ko2) (t39 hT) (fun r610 hr610 => ?_)
      have tb612 := hT.atp 256 10 0 10 rfl
      have tb613 := hT.atp 256 15 0 48 rfl
      refine y_callIB 55 [.ref 256, yI r610] [] c58_52 rfl rfl rfl rfl rfl (ycanO km52 ko256) (t52_256 hT (by omega) (by omega)) (fun rq611 mq611 nq611 hq611 => ?_)
      obtain ⟨rfl, hTq611, hFq611, hq611⟩ := hq611
      have hF614 := hF.tr hFq611 wVa256_wVr256
      refine y_istore 56 c58_55 rfl rfl ?_
      refine y_iload 57 c58_56 rfl rfl ?_
      refine y_iconst 58 c58_57 rfl ?_
      refine y_icmp 69 61 c58_58 rfl rfl (yc_ne (by omega) (by omega)) (fun hb615 => ?_) (fun hb615 => ?_)
      · refine y_aload 70 c58_69 rfl rfl rfl ?_
        refine y_dup 71 c58_70 rfl rfl ?_
        refine y_getX 74 (m 2 2) c58_71 rfl kf2_2 (hFq611 2 2 rfl) ?_
        refine y_iconst 75 c58_74 rfl ?_
        refine y_iadd 76 c58_75 rfl ?_
        refine y_putI 79 c58_76 rfl kf2_2 (y_fit0 _) ?_
        have hT616 := hTq611.up 2 2 ((m 2 2) + 1) 0 320 rfl (by omega)
        have hF617 := hF614.up 2 2 ((m 2 2) + 1) rfl
        refine y_iload 80 c58_79 rfl rfl ?_
        have es618 : (yup mq611 2 2 ((m 2 2) + 1)) 2 2 = (m 2 2) + 1 := rfl
        have es619 : (yup mq611 2 2 ((m 2 2) + 1)) 256 15 = mq611 256 15 := rfl
        have tb620 := hTq611.atp 256 15 0 48 rfl
        exact y_retI c58_80 (y_fit0 _) ⟨rfl, hT616, hF617, by omega⟩
      · refine y_aload 62 c58_61 rfl rfl rfl ?_
        have es622 : mq611 2 2 = m 2 2 := (hFq611 2 2 rfl)
        refine y_callIB 65 [.ref 2] [] c58_62 rfl rfl rfl rfl rfl (ycanO km43 ko2) (t43 hTq611) (fun rq621 mq621 nq621 hq621 => ?_)
        obtain ⟨rfl, hTq621, hFq621, hq621⟩ := hq621
        have hF623 := hF614.tr hFq621 wFa_wVr256
        refine y_pop 66 c58_65 rfl rfl ?_
        refine y_goto 79 c58_66 rfl ?_
        refine y_iload 80 c58_79 rfl rfl ?_
        have es624 : mq621 2 2 = m 2 2 := ((hFq621 2 2 rfl).trans (hFq611 2 2 rfl))
        have es625 : mq621 256 15 = mq611 256 15 := (hFq621 256 15 rfl)
        have tb626 := hTq611.atp 256 15 0 48 rfl
        exact y_retI c58_80 (y_fit0 _) ⟨rfl, hTq621, hF623, by omega⟩
  · refine y_aload 12 c58_11 rfl rfl rfl ?_
    refine y_getS 15 (B := 256) c58_12 rfl kf2_1 (by rw [show m 2 1 = 0 from by have e : m 2 1 = m 2 1 := rfl; omega]; rfl) ?_
    refine y_getR 18 c58_15 rfl kf256_5 ?_
    refine y_aload 19 c58_18 rfl rfl rfl ?_
    refine y_getS 22 (B := 256) c58_19 rfl kf2_1 (by rw [show m 2 1 = 0 from by have e : m 2 1 = m 2 1 := rfl; omega]; rfl) ?_
    refine y_getX 25 (m 256 10) c58_22 rfl kf256_10 rfl ?_
    have tb627 := hT.atp 256 10 0 10 rfl
    refine y_iconst 26 c58_25 rfl ?_
    refine y_isub 27 c58_26 rfl ?_
    refine y_aaload 28 c58_27 rfl kr262 (by omega) ?_
    refine y_callP 31 [.ref (266 + ((m 256 10) - 1).toNat)] [] c58_28 rfl rfl rfl rfl rfl (ycanO km57 (fo266 (by omega))) (t57_256 hT (by omega)) (fun r628 hr628 => ?_)
    refine y_istore 32 c58_31 rfl rfl ?_
    refine y_goto 56 c58_32 rfl ?_
    refine y_iload 57 c58_56 rfl rfl ?_
    refine y_iconst 58 c58_57 rfl ?_
    refine y_icmp 69 61 c58_58 rfl rfl (yc_ne (by omega) (by omega)) (fun hb629 => ?_) (fun hb629 => ?_)
    · refine y_aload 70 c58_69 rfl rfl rfl ?_
      refine y_dup 71 c58_70 rfl rfl ?_
      refine y_getX 74 (m 2 2) c58_71 rfl kf2_2 rfl ?_
      refine y_iconst 75 c58_74 rfl ?_
      refine y_iadd 76 c58_75 rfl ?_
      refine y_putI 79 c58_76 rfl kf2_2 (y_fit0 _) ?_
      have hT630 := hT.up 2 2 ((m 2 2) + 1) 0 320 rfl (by omega)
      have hF631 := hF.up 2 2 ((m 2 2) + 1) rfl
      refine y_iload 80 c58_79 rfl rfl ?_
      have es632 : (yup m 2 2 ((m 2 2) + 1)) 2 2 = (m 2 2) + 1 := rfl
      have es633 : (yup m 2 2 ((m 2 2) + 1)) 256 15 = m 256 15 := rfl
      have tb634 := hT.atp 256 15 0 48 rfl
      exact y_retI c58_80 (y_fit0 _) ⟨rfl, hT630, hF631, by omega⟩
    · exfalso; omega
def wHd316 (a q : Nat) : Bool := (a == 2 && (q == 2 || q == 4)) || (a == 2 && q == 3) || (a == 316 && q == 9) || a == 317 || a == 318 || a == 319
theorem wFa_wHd316 : ∀ a q, wFa a q = true → wHd316 a q = true := by
  intro a q h
  simp [wFa] at h
  simp [wHd316]
  omega
theorem wAt_wHd316 : ∀ a q, wAt a q = true → wHd316 a q = true := by
  intro a q h
  simp [wAt] at h
  simp [wHd316]
  omega
theorem wCl316_wHd316 : ∀ a q, wCl316 a q = true → wHd316 a q = true := by
  intro a q h
  simp [wCl316] at h
  simp [wHd316]
  omega
def wFd316 (a q : Nat) : Bool := (a == 2 && (q == 2 || q == 4)) || (a == 316 && q == 11) || a == 320 || a == 319
theorem wFa_wFd316 : ∀ a q, wFa a q = true → wFd316 a q = true := by
  intro a q h
  simp [wFa] at h
  simp [wFd316]
  omega
theorem wAt_wFd316 : ∀ a q, wAt a q = true → wFd316 a q = true := by
  intro a q h
  simp [wAt] at h
  simp [wFd316]
  omega
theorem wFi316_wFd316 : ∀ a q, wFi316 a q = true → wFd316 a q = true := by
  intro a q h
  simp [wFi316] at h
  simp [wFd316]
  omega
def wVr316 (a q : Nat) : Bool := (a == 2 && (q == 2 || q == 4)) || (a == 316 && q == 15) || a == 321
theorem wFa_wVr316 : ∀ a q, wFa a q = true → wVr316 a q = true := by
  intro a q h
  simp [wFa] at h
  simp [wVr316]
  omega
theorem wAt_wVr316 : ∀ a q, wAt a q = true → wVr316 a q = true := by
  intro a q h
  simp [wAt] at h
  simp [wVr316]
  omega
theorem wVa316_wVr316 : ∀ a q, wVa316 a q = true → wVr316 a q = true := by
  intro a q h
  simp [wVa316] at h
  simp [wVr316]
  omega
def wPr316 (a q : Nat) : Bool := (a == 2 && (q == 2 || q == 4)) || (a == 316 && q == 15) || a == 321 || (decide (326 ≤ a ∧ a < 336) && q == 3)
theorem wFa_wPr316 : ∀ a q, wFa a q = true → wPr316 a q = true := by
  intro a q h
  simp [wFa] at h
  simp [wPr316]
  omega
theorem wAt_wPr316 : ∀ a q, wAt a q = true → wPr316 a q = true := by
  intro a q h
  simp [wAt] at h
  simp [wPr316]
  omega
theorem wPm316_wPr316 : ∀ a q, wPm316 a q = true → wPr316 a q = true := by
  intro a q h
  simp [wPm316] at h
  simp [wPr316]
  omega
set_option maxRecDepth 100000 in
theorem t45_316 {L : Nat} {xs : Nat → Int32} {d nn : Nat} {m : yM} {e : Int} (hT : Ty gT m) (he : 0 ≤ e ∧ e ≤ 320) (hE : m 5 e.toNat = 0) (ha : m 2 2 ≤ e) (hp : m 2 1 = 1) : YC (gZ L xs) (d + 3) 45 [.ref 2] m nn (qI (fun r m' n' => n' = nn ∧ Ty gT m' ∧ Fr wHd316 m m' ∧ (r = 0 ∨ r = 1) ∧ m' 2 2 ≤ e ∧ m 316 9 ≤ m' 316 9 ∧ (r = 1 → 1 ≤ m' 316 9) ∧ m' 2 3 = m 2 3)) := by
  have tb9 := hT.atp 316 9 0 6 rfl
  have tb2 := hT.atp 2 2 0 320 rfl
  refine YC.mkB [some (.ref 2)] kn45 rfl rfl ?_
  have hF : Fr wHd316 m m := Fr.rf
  refine y_aload 1 c45_0 rfl rfl rfl ?_
  refine y_iconst 2 c45_1 rfl ?_
  have tb636 := hT.atp 2 2 0 320 rfl
  refine y_callIB 5 [.ref 2, yI 1] [] c45_2 rfl rfl rfl rfl rfl (ycanO km37 ko2) (t37 hT he hE (by omega) (by omega)) (fun rq635 mq635 nq635 hq635 => ?_)
  obtain ⟨rfl, hTq635, hFq635, hq635⟩ := hq635
  have hF637 := hF.tr hFq635 wAt_wHd316
  refine y_if 10 8 c45_5 rfl rfl (yz_ne (by omega)) (fun hb638 => ?_) (fun hb638 => ?_)
  · refine y_aload 11 c45_10 rfl rfl rfl ?_
    have tb639 := hTq635.atp 2 2 0 320 rfl
    refine y_callP 14 [.ref 2] [] c45_11 rfl rfl rfl rfl rfl (ycanO km38 ko2) (t38 hTq635 he (by have e1 : mq635 5 e.toNat = m 5 e.toNat := (hFq635 5 e.toNat rfl); omega) (by omega)) (fun r640 hr640 => ?_)
    refine y_iconst 16 c45_14 rfl ?_
    refine y_icmp 33 19 c45_16 rfl rfl (yc_ne (by omega) (by omega)) (fun hb641 => ?_) (fun hb641 => ?_)
    · refine y_aload 34 c45_33 rfl rfl rfl ?_
      refine y_callIB 37 [.ref 2] [] c45_34 rfl rfl rfl rfl rfl (ycanO km43 ko2) (t43 hTq635) (fun rq642 mq642 nq642 hq642 => ?_)
      obtain ⟨rfl, hTq642, hFq642, hq642⟩ := hq642
      have hF643 := hF637.tr hFq642 wFa_wHd316
      have es644 : mq642 2 2 = mq635 2 2 := (hFq642 2 2 rfl)
      have es645 : mq642 316 9 = m 316 9 := ((hFq642 316 9 rfl).trans (hFq635 316 9 rfl))
      have tb646 := hT.atp 316 9 0 6 rfl
      have es647 : mq642 2 3 = m 2 3 := ((hFq642 2 3 rfl).trans (hFq635 2 3 rfl))
      have tb648 := hT.atp 2 3 0 1 rfl
      exact y_retI c45_37 (y_fit1 (by omega)) ⟨rfl, hTq642, hF643, by omega⟩
    · refine y_aload 20 c45_19 rfl rfl rfl ?_
      refine y_getS 23 (B := 316) c45_20 rfl kf2_1 (by rw [show mq635 2 1 = 1 from by have e : mq635 2 1 = m 2 1 := (hFq635 2 1 rfl); omega]; rfl) ?_
      refine y_aload 24 c45_23 rfl rfl rfl ?_
      refine y_callP 27 [.ref 2] [.ref 316] c45_24 rfl rfl rfl rfl rfl (ycanO km39 ko2) (t39 hTq635) (fun r649 hr649 => ?_)
      have es651 : mq635 316 9 = m 316 9 := (hFq635 316 9 rfl)
      have tb652 := hT.atp 316 9 0 6 rfl
      refine y_callIB 30 [.ref 316, yI r649] [] c45_27 rfl rfl rfl rfl rfl (ycanO km42 ko316) (t42_316 hTq635 (by omega)) (fun rq650 mq650 nq650 hq650 => ?_)
      obtain ⟨rfl, hTq650, hFq650, hq650⟩ := hq650
      have hF653 := hF637.tr hFq650 wCl316_wHd316
      refine y_if 38 33 c45_30 rfl rfl (yz_ne (by omega)) (fun hb654 => ?_) (fun hb654 => ?_)
      · refine y_aload 39 c45_38 rfl rfl rfl ?_
        refine y_dup 40 c45_39 rfl rfl ?_
        refine y_getX 43 (mq635 2 2) c45_40 rfl kf2_2 (hFq650 2 2 rfl) ?_
        refine y_iconst 44 c45_43 rfl ?_
        refine y_iadd 45 c45_44 rfl ?_
        refine y_putI 48 c45_45 rfl kf2_2 (y_fit0 _) ?_
        have hT655 := hTq650.up 2 2 ((mq635 2 2) + 1) 0 320 rfl (by omega)
        have hF656 := hF653.up 2 2 ((mq635 2 2) + 1) rfl
        refine y_aload 49 c45_48 rfl rfl rfl ?_
        have es657 : (yup mq650 2 2 ((mq635 2 2) + 1)) 2 2 = (mq635 2 2) + 1 := rfl
        refine y_callP 52 [.ref 2] [] c45_49 rfl rfl rfl rfl rfl (ycanO km38 ko2) (t38 hT655 he (by have e1 : (yup mq650 2 2 ((mq635 2 2) + 1)) 5 e.toNat = m 5 e.toNat := ((yup_na (by decide)).trans ((hFq650 5 e.toNat rfl).trans (hFq635 5 e.toNat rfl))); omega) (by omega)) (fun r658 hr658 => ?_)
        refine y_iconst 54 c45_52 rfl ?_
        refine y_icmp 105 57 c45_54 rfl rfl (yc_ne (by omega) (by omega)) (fun hb659 => ?_) (fun hb659 => ?_)
        · refine y_aload 106 c45_105 rfl rfl rfl ?_
          refine y_iconst 108 c45_106 rfl ?_
          have es661 : (yup mq650 2 2 ((mq635 2 2) + 1)) 2 2 = (mq635 2 2) + 1 := rfl
          refine y_callIB 111 [.ref 2, yI 123] [] c45_108 rfl rfl rfl rfl rfl (ycanO km37 ko2) (t37 hT655 he (by have e1 : (yup mq650 2 2 ((mq635 2 2) + 1)) 5 e.toNat = m 5 e.toNat := ((yup_na (by decide)).trans ((hFq650 5 e.toNat rfl).trans (hFq635 5 e.toNat rfl))); omega) (by omega) (by omega)) (fun rq660 mq660 nq660 hq660 => ?_)
          obtain ⟨rfl, hTq660, hFq660, hq660⟩ := hq660
          have hF662 := hF656.tr hFq660 wAt_wHd316
          have tb663 := hTq660.atp 2 2 0 320 rfl
          have es664 : mq660 316 9 = mq650 316 9 := ((hFq660 316 9 rfl).trans (yup_na (by decide)))
          have tb665 := hTq650.atp 316 9 0 6 rfl
          have es666 : mq660 2 3 = m 2 3 := ((hFq660 2 3 rfl).trans ((yup_nk (by decide)).trans ((hFq650 2 3 rfl).trans (hFq635 2 3 rfl))))
          have tb667 := hT.atp 2 3 0 1 rfl
          exact y_retI c45_111 (y_fit1 (by omega)) ⟨rfl, hTq660, hF662, by omega⟩
        · refine y_aload 58 c45_57 rfl rfl rfl ?_
          refine y_dup 59 c45_58 rfl rfl ?_
          refine y_getX 62 ((mq635 2 2) + 1) c45_59 rfl kf2_2 rfl ?_
          refine y_iconst 63 c45_62 rfl ?_
          refine y_iadd 64 c45_63 rfl ?_
          refine y_putI 67 c45_64 rfl kf2_2 (y_fit0 _) ?_
          have hT668 := hT655.up 2 2 (((mq635 2 2) + 1) + 1) 0 320 rfl (by omega)
          have hF669 := hF656.up 2 2 (((mq635 2 2) + 1) + 1) rfl
          refine y_aload 68 c45_67 rfl rfl rfl ?_
          have es670 : (yup (yup mq650 2 2 ((mq635 2 2) + 1)) 2 2 (((mq635 2 2) + 1) + 1)) 2 2 = ((mq635 2 2) + 1) + 1 := rfl
          refine y_callP 71 [.ref 2] [] c45_68 rfl rfl rfl rfl rfl (ycanO km38 ko2) (t38 hT668 he (by have e1 : (yup (yup mq650 2 2 ((mq635 2 2) + 1)) 2 2 (((mq635 2 2) + 1) + 1)) 5 e.toNat = m 5 e.toNat := ((yup_na (by decide)).trans ((yup_na (by decide)).trans ((hFq650 5 e.toNat rfl).trans (hFq635 5 e.toNat rfl)))); omega) (by omega)) (fun r671 hr671 => ?_)
          refine y_iconst 73 c45_71 rfl ?_
          refine y_icmp 90 76 c45_73 rfl rfl (yc_ne (by omega) (by omega)) (fun hb672 => ?_) (fun hb672 => ?_)
          · refine y_aload 91 c45_90 rfl rfl rfl ?_
            have es674 : (yup (yup mq650 2 2 ((mq635 2 2) + 1)) 2 2 (((mq635 2 2) + 1) + 1)) 2 2 = ((mq635 2 2) + 1) + 1 := rfl
            refine y_callIB 94 [.ref 2] [] c45_91 rfl rfl rfl rfl rfl (ycanO km43 ko2) (t43 hT668) (fun rq673 mq673 nq673 hq673 => ?_)
            obtain ⟨rfl, hTq673, hFq673, hq673⟩ := hq673
            have hF675 := hF669.tr hFq673 wFa_wHd316
            have es676 : mq673 2 2 = ((mq635 2 2) + 1) + 1 := ((hFq673 2 2 rfl).trans (yup_eq _ _ _ _))
            have es677 : mq673 316 9 = mq650 316 9 := ((hFq673 316 9 rfl).trans ((yup_na (by decide)).trans (yup_na (by decide))))
            have tb678 := hTq650.atp 316 9 0 6 rfl
            have es679 : mq673 2 3 = m 2 3 := ((hFq673 2 3 rfl).trans ((yup_nk (by decide)).trans ((yup_nk (by decide)).trans ((hFq650 2 3 rfl).trans (hFq635 2 3 rfl)))))
            have tb680 := hT.atp 2 3 0 1 rfl
            exact y_retI c45_94 (y_fit1 (by omega)) ⟨rfl, hTq673, hF675, by omega⟩
          · refine y_aload 77 c45_76 rfl rfl rfl ?_
            refine y_getS 80 (B := 316) c45_77 rfl kf2_1 (by rw [show (yup (yup mq650 2 2 ((mq635 2 2) + 1)) 2 2 (((mq635 2 2) + 1) + 1)) 2 1 = 1 from by have e : (yup (yup mq650 2 2 ((mq635 2 2) + 1)) 2 2 (((mq635 2 2) + 1) + 1)) 2 1 = m 2 1 := ((yup_nk (by decide)).trans ((yup_nk (by decide)).trans ((hFq650 2 1 rfl).trans (hFq635 2 1 rfl)))); omega]; rfl) ?_
            refine y_aload 81 c45_80 rfl rfl rfl ?_
            refine y_callP 84 [.ref 2] [.ref 316] c45_81 rfl rfl rfl rfl rfl (ycanO km39 ko2) (t39 hT668) (fun r681 hr681 => ?_)
            have es683 : (yup (yup mq650 2 2 ((mq635 2 2) + 1)) 2 2 (((mq635 2 2) + 1) + 1)) 316 9 = mq650 316 9 := rfl
            have tb684 := hTq650.atp 316 9 0 6 rfl
            refine y_callIB 87 [.ref 316, yI r681] [] c45_84 rfl rfl rfl rfl rfl (ycanO km44 ko316) (t44_316 hT668 (by omega) (by omega)) (fun rq682 mq682 nq682 hq682 => ?_)
            obtain ⟨rfl, hTq682, hFq682, hq682⟩ := hq682
            have hF685 := hF669.tr hFq682 wCl316_wHd316
            refine y_if 95 90 c45_87 rfl rfl (yz_ne (by omega)) (fun hb686 => ?_) (fun hb686 => ?_)
            · refine y_aload 96 c45_95 rfl rfl rfl ?_
              refine y_dup 97 c45_96 rfl rfl ?_
              refine y_getX 100 (((mq635 2 2) + 1) + 1) c45_97 rfl kf2_2 ((hFq682 2 2 rfl).trans (yup_eq _ _ _ _)) ?_
              refine y_iconst 101 c45_100 rfl ?_
              refine y_iadd 102 c45_101 rfl ?_
              refine y_putI 105 c45_102 rfl kf2_2 (y_fit0 _) ?_
              have hT687 := hTq682.up 2 2 ((((mq635 2 2) + 1) + 1) + 1) 0 320 rfl (by omega)
              have hF688 := hF685.up 2 2 ((((mq635 2 2) + 1) + 1) + 1) rfl
              refine y_aload 106 c45_105 rfl rfl rfl ?_
              refine y_iconst 108 c45_106 rfl ?_
              have es690 : (yup mq682 2 2 ((((mq635 2 2) + 1) + 1) + 1)) 2 2 = (((mq635 2 2) + 1) + 1) + 1 := rfl
              refine y_callIB 111 [.ref 2, yI 123] [] c45_108 rfl rfl rfl rfl rfl (ycanO km37 ko2) (t37 hT687 he (by have e1 : (yup mq682 2 2 ((((mq635 2 2) + 1) + 1) + 1)) 5 e.toNat = m 5 e.toNat := ((yup_na (by decide)).trans ((hFq682 5 e.toNat rfl).trans ((yup_na (by decide)).trans ((yup_na (by decide)).trans ((hFq650 5 e.toNat rfl).trans (hFq635 5 e.toNat rfl)))))); omega) (by omega) (by omega)) (fun rq689 mq689 nq689 hq689 => ?_)
              obtain ⟨rfl, hTq689, hFq689, hq689⟩ := hq689
              have hF691 := hF688.tr hFq689 wAt_wHd316
              have tb692 := hTq689.atp 2 2 0 320 rfl
              have es693 : mq689 316 9 = mq682 316 9 := ((hFq689 316 9 rfl).trans (yup_na (by decide)))
              have tb694 := hTq682.atp 316 9 0 6 rfl
              have es695 : mq689 2 3 = m 2 3 := ((hFq689 2 3 rfl).trans ((yup_nk (by decide)).trans ((hFq682 2 3 rfl).trans ((yup_nk (by decide)).trans ((yup_nk (by decide)).trans ((hFq650 2 3 rfl).trans (hFq635 2 3 rfl)))))))
              have tb696 := hT.atp 2 3 0 1 rfl
              exact y_retI c45_111 (y_fit1 (by omega)) ⟨rfl, hTq689, hF691, by omega⟩
            · refine y_aload 91 c45_90 rfl rfl rfl ?_
              have es698 : mq682 2 2 = ((mq635 2 2) + 1) + 1 := ((hFq682 2 2 rfl).trans (yup_eq _ _ _ _))
              refine y_callIB 94 [.ref 2] [] c45_91 rfl rfl rfl rfl rfl (ycanO km43 ko2) (t43 hTq682) (fun rq697 mq697 nq697 hq697 => ?_)
              obtain ⟨rfl, hTq697, hFq697, hq697⟩ := hq697
              have hF699 := hF685.tr hFq697 wFa_wHd316
              have es700 : mq697 2 2 = ((mq635 2 2) + 1) + 1 := ((hFq697 2 2 rfl).trans ((hFq682 2 2 rfl).trans (yup_eq _ _ _ _)))
              have es701 : mq697 316 9 = mq682 316 9 := (hFq697 316 9 rfl)
              have tb702 := hTq682.atp 316 9 0 6 rfl
              have es703 : mq697 2 3 = m 2 3 := ((hFq697 2 3 rfl).trans ((hFq682 2 3 rfl).trans ((yup_nk (by decide)).trans ((yup_nk (by decide)).trans ((hFq650 2 3 rfl).trans (hFq635 2 3 rfl))))))
              have tb704 := hT.atp 2 3 0 1 rfl
              exact y_retI c45_94 (y_fit1 (by omega)) ⟨rfl, hTq697, hF699, by omega⟩
      · refine y_aload 34 c45_33 rfl rfl rfl ?_
        have es706 : mq650 2 2 = mq635 2 2 := (hFq650 2 2 rfl)
        refine y_callIB 37 [.ref 2] [] c45_34 rfl rfl rfl rfl rfl (ycanO km43 ko2) (t43 hTq650) (fun rq705 mq705 nq705 hq705 => ?_)
        obtain ⟨rfl, hTq705, hFq705, hq705⟩ := hq705
        have hF707 := hF653.tr hFq705 wFa_wHd316
        have es708 : mq705 2 2 = mq635 2 2 := ((hFq705 2 2 rfl).trans (hFq650 2 2 rfl))
        have es709 : mq705 316 9 = mq650 316 9 := (hFq705 316 9 rfl)
        have tb710 := hTq650.atp 316 9 0 6 rfl
        have es711 : mq705 2 3 = m 2 3 := ((hFq705 2 3 rfl).trans ((hFq650 2 3 rfl).trans (hFq635 2 3 rfl)))
        have tb712 := hT.atp 2 3 0 1 rfl
        exact y_retI c45_37 (y_fit1 (by omega)) ⟨rfl, hTq705, hF707, by omega⟩
  · refine y_iconst 9 c45_8 rfl ?_
    have tb713 := hTq635.atp 2 2 0 320 rfl
    have es714 : mq635 316 9 = m 316 9 := (hFq635 316 9 rfl)
    have tb715 := hT.atp 316 9 0 6 rfl
    have es716 : mq635 2 3 = m 2 3 := (hFq635 2 3 rfl)
    have tb717 := hT.atp 2 3 0 1 rfl
    exact y_retI c45_9 (y_fit1 (by omega)) ⟨rfl, hTq635, hF637, by omega⟩
set_option maxRecDepth 100000 in
theorem t49_316 {L : Nat} {xs : Nat → Int32} {d nn : Nat} {m : yM} {e : Int} (hT : Ty gT m) (he : 0 ≤ e ∧ e ≤ 320) (hE : m 5 e.toNat = 0) (ha : m 2 2 ≤ e) (hp : m 2 1 = 1) (hc : 1 ≤ m 316 9) (hlt : m 2 2 < e) : YC (gZ L xs) (d + 3) 49 [.ref 2] m nn (qI (fun r m' n' => n' = nn ∧ Ty gT m' ∧ Fr wFd316 m m' ∧ (r = 0 ∨ r = 1) ∧ m' 2 2 ≤ e)) := by
  refine YC.mkB [some (.ref 2)] kn49 rfl rfl ?_
  have hF : Fr wFd316 m m := Fr.rf
  refine y_aload 1 c49_0 rfl rfl rfl ?_
  refine y_dup 2 c49_1 rfl rfl ?_
  refine y_getX 5 (m 2 2) c49_2 rfl kf2_2 rfl ?_
  have tb718 := hT.atp 2 2 0 320 rfl
  refine y_iconst 6 c49_5 rfl ?_
  refine y_iadd 7 c49_6 rfl ?_
  refine y_putI 10 c49_7 rfl kf2_2 (y_fit0 _) ?_
  have hT719 := hT.up 2 2 ((m 2 2) + 1) 0 320 rfl (by omega)
  have hF720 := hF.up 2 2 ((m 2 2) + 1) rfl
  refine y_aload 11 c49_10 rfl rfl rfl ?_
  have es721 : (yup m 2 2 ((m 2 2) + 1)) 2 2 = (m 2 2) + 1 := rfl
  refine y_callP 14 [.ref 2] [] c49_11 rfl rfl rfl rfl rfl (ycanO km38 ko2) (t38 hT719 he (by have e1 : (yup m 2 2 ((m 2 2) + 1)) 5 e.toNat = m 5 e.toNat := (yup_na (by decide)); omega) (by omega)) (fun r722 hr722 => ?_)
  refine y_iconst 16 c49_14 rfl ?_
  refine y_icmp 33 19 c49_16 rfl rfl (yc_ne (by omega) (by omega)) (fun hb723 => ?_) (fun hb723 => ?_)
  · refine y_aload 34 c49_33 rfl rfl rfl ?_
    have es725 : (yup m 2 2 ((m 2 2) + 1)) 2 2 = (m 2 2) + 1 := rfl
    refine y_callIB 37 [.ref 2] [] c49_34 rfl rfl rfl rfl rfl (ycanO km43 ko2) (t43 hT719) (fun rq724 mq724 nq724 hq724 => ?_)
    obtain ⟨rfl, hTq724, hFq724, hq724⟩ := hq724
    have hF726 := hF720.tr hFq724 wFa_wFd316
    have es727 : mq724 2 2 = (m 2 2) + 1 := ((hFq724 2 2 rfl).trans (yup_eq _ _ _ _))
    exact y_retI c49_37 (y_fit1 (by omega)) ⟨rfl, hTq724, hF726, by omega⟩
  · refine y_aload 20 c49_19 rfl rfl rfl ?_
    refine y_getS 23 (B := 316) c49_20 rfl kf2_1 (by rw [show (yup m 2 2 ((m 2 2) + 1)) 2 1 = 1 from by have e : (yup m 2 2 ((m 2 2) + 1)) 2 1 = m 2 1 := rfl; omega]; rfl) ?_
    refine y_aload 24 c49_23 rfl rfl rfl ?_
    refine y_callP 27 [.ref 2] [.ref 316] c49_24 rfl rfl rfl rfl rfl (ycanO km39 ko2) (t39 hT719) (fun r728 hr728 => ?_)
    have es730 : (yup m 2 2 ((m 2 2) + 1)) 316 9 = m 316 9 := rfl
    have tb731 := hT.atp 316 9 0 6 rfl
    refine y_callIB 30 [.ref 316, yI r728] [] c49_27 rfl rfl rfl rfl rfl (ycanO km48 ko316) (t48_316 hT719 (by omega) (by omega)) (fun rq729 mq729 nq729 hq729 => ?_)
    obtain ⟨rfl, hTq729, hFq729, hq729⟩ := hq729
    have hF732 := hF720.tr hFq729 wFi316_wFd316
    refine y_if 38 33 c49_30 rfl rfl (yz_ne (by omega)) (fun hb733 => ?_) (fun hb733 => ?_)
    · refine y_aload 39 c49_38 rfl rfl rfl ?_
      refine y_dup 40 c49_39 rfl rfl ?_
      refine y_getX 43 ((m 2 2) + 1) c49_40 rfl kf2_2 ((hFq729 2 2 rfl).trans (yup_eq _ _ _ _)) ?_
      refine y_iconst 44 c49_43 rfl ?_
      refine y_iadd 45 c49_44 rfl ?_
      refine y_putI 48 c49_45 rfl kf2_2 (y_fit0 _) ?_
      have hT734 := hTq729.up 2 2 (((m 2 2) + 1) + 1) 0 320 rfl (by omega)
      have hF735 := hF732.up 2 2 (((m 2 2) + 1) + 1) rfl
      refine y_aload 49 c49_48 rfl rfl rfl ?_
      refine y_iconst 51 c49_49 rfl ?_
      have es737 : (yup mq729 2 2 (((m 2 2) + 1) + 1)) 2 2 = ((m 2 2) + 1) + 1 := rfl
      refine y_callIB 54 [.ref 2, yI 59] [] c49_51 rfl rfl rfl rfl rfl (ycanO km37 ko2) (t37 hT734 he (by have e1 : (yup mq729 2 2 (((m 2 2) + 1) + 1)) 5 e.toNat = m 5 e.toNat := ((yup_na (by decide)).trans ((hFq729 5 e.toNat rfl).trans (yup_na (by decide)))); omega) (by omega) (by omega)) (fun rq736 mq736 nq736 hq736 => ?_)
      obtain ⟨rfl, hTq736, hFq736, hq736⟩ := hq736
      have hF738 := hF735.tr hFq736 wAt_wFd316
      have tb739 := hTq736.atp 2 2 0 320 rfl
      exact y_retI c49_54 (y_fit1 (by omega)) ⟨rfl, hTq736, hF738, by omega⟩
    · refine y_aload 34 c49_33 rfl rfl rfl ?_
      have es741 : mq729 2 2 = (m 2 2) + 1 := ((hFq729 2 2 rfl).trans (yup_eq _ _ _ _))
      refine y_callIB 37 [.ref 2] [] c49_34 rfl rfl rfl rfl rfl (ycanO km43 ko2) (t43 hTq729) (fun rq740 mq740 nq740 hq740 => ?_)
      obtain ⟨rfl, hTq740, hFq740, hq740⟩ := hq740
      have hF742 := hF732.tr hFq740 wFa_wFd316
      have es743 : mq740 2 2 = (m 2 2) + 1 := ((hFq740 2 2 rfl).trans ((hFq729 2 2 rfl).trans (yup_eq _ _ _ _)))
      exact y_retI c49_37 (y_fit1 (by omega)) ⟨rfl, hTq740, hF742, by omega⟩
set_option maxRecDepth 100000 in
theorem t71_316 {L : Nat} {xs : Nat → Int32} {d nn : Nat} {m : yM} {e : Int} (hT : Ty gT m) (he : 0 ≤ e ∧ e ≤ 320) (hE : m 5 e.toNat = 0) (ha : m 2 2 ≤ e) (hp : m 2 1 = 1) (hc : 1 ≤ m 316 9) (hlt : m 2 2 < e) : YC (gZ L xs) (d + 4) 71 [.ref 2] m nn (qI (fun r m' n' => n' = nn ∧ Ty gT m' ∧ Fr wHd316 m m' ∧ (r = 0 ∨ r = 1) ∧ m' 2 2 ≤ e ∧ 1 ≤ m' 316 9)) := by
  refine YC.mkB [some (.ref 2)] kn71 rfl rfl ?_
  have hF : Fr wHd316 m m := Fr.rf
  refine y_aload 1 c71_0 rfl rfl rfl ?_
  refine y_dup 2 c71_1 rfl rfl ?_
  refine y_getX 5 (m 2 2) c71_2 rfl kf2_2 rfl ?_
  have tb744 := hT.atp 2 2 0 320 rfl
  refine y_iconst 6 c71_5 rfl ?_
  refine y_iadd 7 c71_6 rfl ?_
  refine y_putI 10 c71_7 rfl kf2_2 (y_fit0 _) ?_
  have hT745 := hT.up 2 2 ((m 2 2) + 1) 0 320 rfl (by omega)
  have hF746 := hF.up 2 2 ((m 2 2) + 1) rfl
  refine y_aload 11 c71_10 rfl rfl rfl ?_
  refine y_aload 12 c71_11 rfl rfl rfl ?_
  have es747 : (yup m 2 2 ((m 2 2) + 1)) 2 2 = (m 2 2) + 1 := rfl
  refine y_callP 15 [.ref 2] [.ref 2] c71_12 rfl rfl rfl rfl rfl (ycanO km38 ko2) (t38 hT745 he (by have e1 : (yup m 2 2 ((m 2 2) + 1)) 5 e.toNat = m 5 e.toNat := (yup_na (by decide)); omega) (by omega)) (fun r748 hr748 => ?_)
  refine y_if 22 18 c71_15 rfl rfl (yz_ne (by omega)) (fun hb749 => ?_) (fun hb749 => ?_)
  · refine y_iconst 23 c71_22 rfl ?_
    refine y_putI 26 c71_23 rfl kf2_3 (y_fit1 (by omega)) ?_
    have hT750 := hT745.up 2 3 0 0 1 rfl (by omega)
    have hF751 := hF746.up 2 3 0 rfl
    refine y_aload 27 c71_26 rfl rfl rfl ?_
    refine y_getX 30 0 c71_27 rfl kf2_3 rfl ?_
    refine y_if 40 33 c71_30 rfl rfl (yz_ne (by omega)) (fun hb752 => ?_) (fun hb752 => ?_)
    · exfalso; omega
    · refine y_aload 34 c71_33 rfl rfl rfl ?_
      have es754 : (yup (yup m 2 2 ((m 2 2) + 1)) 2 3 0) 2 2 = (m 2 2) + 1 := rfl
      have es755 : (yup (yup m 2 2 ((m 2 2) + 1)) 2 3 0) 316 9 = m 316 9 := rfl
      have tb756 := hT.atp 316 9 0 6 rfl
      have es757 : (yup (yup m 2 2 ((m 2 2) + 1)) 2 3 0) 2 1 = m 2 1 := rfl
      have tb758 := hT.atp 2 1 ((-1)) 1 rfl
      have es759 : (yup (yup m 2 2 ((m 2 2) + 1)) 2 3 0) 2 3 = 0 := rfl
      refine y_callIB 37 [.ref 2] [] c71_34 rfl rfl rfl rfl rfl (ycanO km45 ko2) (t45_316 hT750 he (by have e1 : (yup (yup m 2 2 ((m 2 2) + 1)) 2 3 0) 5 e.toNat = m 5 e.toNat := ((yup_na (by decide)).trans (yup_na (by decide))); omega) (by omega) (by omega)) (fun rq753 mq753 nq753 hq753 => ?_)
      obtain ⟨rfl, hTq753, hFq753, hq753⟩ := hq753
      have hF760 := hF751.tr hFq753 (fun _ _ e => e)
      refine y_if 44 40 c71_37 rfl rfl (yz_eq (by omega)) (fun hb761 => ?_) (fun hb761 => ?_)
      · refine y_iconst 45 c71_44 rfl ?_
        have tb762 := hTq753.atp 2 2 0 320 rfl
        have tb763 := hTq753.atp 316 9 0 6 rfl
        exact y_retI c71_45 (y_fit1 (by omega)) ⟨rfl, hTq753, hF760, by omega⟩
      · refine y_iconst 41 c71_40 rfl ?_
        refine y_goto 45 c71_41 rfl ?_
        have tb764 := hTq753.atp 2 2 0 320 rfl
        have tb765 := hTq753.atp 316 9 0 6 rfl
        exact y_retI c71_45 (y_fit1 (by omega)) ⟨rfl, hTq753, hF760, by omega⟩
  · refine y_iconst 19 c71_18 rfl ?_
    refine y_goto 23 c71_19 rfl ?_
    refine y_putI 26 c71_23 rfl kf2_3 (y_fit1 (by omega)) ?_
    have hT766 := hT745.up 2 3 1 0 1 rfl (by omega)
    have hF767 := hF746.up 2 3 1 rfl
    refine y_aload 27 c71_26 rfl rfl rfl ?_
    refine y_getX 30 1 c71_27 rfl kf2_3 rfl ?_
    refine y_if 40 33 c71_30 rfl rfl (yz_ne (by omega)) (fun hb768 => ?_) (fun hb768 => ?_)
    · refine y_iconst 41 c71_40 rfl ?_
      refine y_goto 45 c71_41 rfl ?_
      have es769 : (yup (yup m 2 2 ((m 2 2) + 1)) 2 3 1) 2 2 = (m 2 2) + 1 := rfl
      have es770 : (yup (yup m 2 2 ((m 2 2) + 1)) 2 3 1) 316 9 = m 316 9 := rfl
      have tb771 := hT.atp 316 9 0 6 rfl
      exact y_retI c71_45 (y_fit1 (by omega)) ⟨rfl, hT766, hF767, by omega⟩
    · exfalso; omega
set_option maxRecDepth 100000 in
theorem t58_316 {L : Nat} {xs : Nat → Int32} {d nn : Nat} {m : yM} {e : Int} (hT : Ty gT m) (he : 0 ≤ e ∧ e ≤ 320) (hE : m 5 e.toNat = 0) (ha : m 2 2 ≤ e) (hp : m 2 1 = 1) (hm : 1 ≤ m 316 10) : YC (gZ L xs) (d + 1) 58 [.ref 2] m nn (qI (fun r m' n' => n' = nn ∧ Ty gT m' ∧ Fr wVr316 m m' ∧ -1 ≤ r ∧ r ≤ 47 ∧ m' 2 2 ≤ e ∧ m 316 15 ≤ m' 316 15)) := by
  have tb15 := hT.atp 316 15 0 48 rfl
  have tb2 := hT.atp 2 2 0 320 rfl
  refine YC.mkB [some (.ref 2), none] kn58 rfl rfl ?_
  have hF : Fr wVr316 m m := Fr.rf
  refine y_iconst 1 c58_0 rfl ?_
  refine y_istore 2 c58_1 rfl rfl ?_
  refine y_aload 3 c58_2 rfl rfl rfl ?_
  have tb772 := hT.atp 2 2 0 320 rfl
  refine y_callP 6 [.ref 2] [] c58_3 rfl rfl rfl rfl rfl (ycanO km38 ko2) (t38 hT he hE (by omega)) (fun r773 hr773 => ?_)
  refine y_iconst 8 c58_6 rfl ?_
  refine y_icmp 35 11 c58_8 rfl rfl (yc_ne (by omega) (by omega)) (fun hb774 => ?_) (fun hb774 => ?_)
  · refine y_aload 36 c58_35 rfl rfl rfl ?_
    refine y_callP 39 [.ref 2] [] c58_36 rfl rfl rfl rfl rfl (ycanO km38 ko2) (t38 hT he hE (by omega)) (fun r775 hr775 => ?_)
    refine y_iconst 41 c58_39 rfl ?_
    refine y_icmp 56 44 c58_41 rfl rfl (yc_ne (by omega) (by omega)) (fun hb776 => ?_) (fun hb776 => ?_)
    · refine y_iload 57 c58_56 rfl rfl ?_
      refine y_iconst 58 c58_57 rfl ?_
      refine y_icmp 69 61 c58_58 rfl rfl (yc_ne (by omega) (by omega)) (fun hb777 => ?_) (fun hb777 => ?_)
      · exfalso; omega
      · refine y_aload 62 c58_61 rfl rfl rfl ?_
        refine y_callIB 65 [.ref 2] [] c58_62 rfl rfl rfl rfl rfl (ycanO km43 ko2) (t43 hT) (fun rq778 mq778 nq778 hq778 => ?_)
        obtain ⟨rfl, hTq778, hFq778, hq778⟩ := hq778
        have hF779 := hF.tr hFq778 wFa_wVr316
        refine y_pop 66 c58_65 rfl rfl ?_
        refine y_goto 79 c58_66 rfl ?_
        refine y_iload 80 c58_79 rfl rfl ?_
        have es780 : mq778 2 2 = m 2 2 := (hFq778 2 2 rfl)
        have es781 : mq778 316 15 = m 316 15 := (hFq778 316 15 rfl)
        have tb782 := hT.atp 316 15 0 48 rfl
        exact y_retI c58_80 (y_fit0 _) ⟨rfl, hTq778, hF779, by omega⟩
    · refine y_aload 45 c58_44 rfl rfl rfl ?_
      refine y_getS 48 (B := 316) c58_45 rfl kf2_1 (by rw [show m 2 1 = 1 from by have e : m 2 1 = m 2 1 := rfl; omega]; rfl) ?_
      refine y_aload 49 c58_48 rfl rfl rfl ?_
      refine y_callP 52 [.ref 2] [.ref 316] c58_49 rfl rfl rfl rfl rfl (ycanO km39 ko2) (t39 hT) (fun r783 hr783 => ?_)
      have tb785 := hT.atp 316 10 0 10 rfl
      have tb786 := hT.atp 316 15 0 48 rfl
      refine y_callIB 55 [.ref 316, yI r783] [] c58_52 rfl rfl rfl rfl rfl (ycanO km52 ko316) (t52_316 hT (by omega) (by omega)) (fun rq784 mq784 nq784 hq784 => ?_)
      obtain ⟨rfl, hTq784, hFq784, hq784⟩ := hq784
      have hF787 := hF.tr hFq784 wVa316_wVr316
      refine y_istore 56 c58_55 rfl rfl ?_
      refine y_iload 57 c58_56 rfl rfl ?_
      refine y_iconst 58 c58_57 rfl ?_
      refine y_icmp 69 61 c58_58 rfl rfl (yc_ne (by omega) (by omega)) (fun hb788 => ?_) (fun hb788 => ?_)
      · refine y_aload 70 c58_69 rfl rfl rfl ?_
        refine y_dup 71 c58_70 rfl rfl ?_
        refine y_getX 74 (m 2 2) c58_71 rfl kf2_2 (hFq784 2 2 rfl) ?_
        refine y_iconst 75 c58_74 rfl ?_
        refine y_iadd 76 c58_75 rfl ?_
        refine y_putI 79 c58_76 rfl kf2_2 (y_fit0 _) ?_
        have hT789 := hTq784.up 2 2 ((m 2 2) + 1) 0 320 rfl (by omega)
        have hF790 := hF787.up 2 2 ((m 2 2) + 1) rfl
        refine y_iload 80 c58_79 rfl rfl ?_
        have es791 : (yup mq784 2 2 ((m 2 2) + 1)) 2 2 = (m 2 2) + 1 := rfl
        have es792 : (yup mq784 2 2 ((m 2 2) + 1)) 316 15 = mq784 316 15 := rfl
        have tb793 := hTq784.atp 316 15 0 48 rfl
        exact y_retI c58_80 (y_fit0 _) ⟨rfl, hT789, hF790, by omega⟩
      · refine y_aload 62 c58_61 rfl rfl rfl ?_
        have es795 : mq784 2 2 = m 2 2 := (hFq784 2 2 rfl)
        refine y_callIB 65 [.ref 2] [] c58_62 rfl rfl rfl rfl rfl (ycanO km43 ko2) (t43 hTq784) (fun rq794 mq794 nq794 hq794 => ?_)
        obtain ⟨rfl, hTq794, hFq794, hq794⟩ := hq794
        have hF796 := hF787.tr hFq794 wFa_wVr316
        refine y_pop 66 c58_65 rfl rfl ?_
        refine y_goto 79 c58_66 rfl ?_
        refine y_iload 80 c58_79 rfl rfl ?_
        have es797 : mq794 2 2 = m 2 2 := ((hFq794 2 2 rfl).trans (hFq784 2 2 rfl))
        have es798 : mq794 316 15 = mq784 316 15 := (hFq794 316 15 rfl)
        have tb799 := hTq784.atp 316 15 0 48 rfl
        exact y_retI c58_80 (y_fit0 _) ⟨rfl, hTq794, hF796, by omega⟩
  · refine y_aload 12 c58_11 rfl rfl rfl ?_
    refine y_getS 15 (B := 316) c58_12 rfl kf2_1 (by rw [show m 2 1 = 1 from by have e : m 2 1 = m 2 1 := rfl; omega]; rfl) ?_
    refine y_getR 18 c58_15 rfl kf316_5 ?_
    refine y_aload 19 c58_18 rfl rfl rfl ?_
    refine y_getS 22 (B := 316) c58_19 rfl kf2_1 (by rw [show m 2 1 = 1 from by have e : m 2 1 = m 2 1 := rfl; omega]; rfl) ?_
    refine y_getX 25 (m 316 10) c58_22 rfl kf316_10 rfl ?_
    have tb800 := hT.atp 316 10 0 10 rfl
    refine y_iconst 26 c58_25 rfl ?_
    refine y_isub 27 c58_26 rfl ?_
    refine y_aaload 28 c58_27 rfl kr322 (by omega) ?_
    refine y_callP 31 [.ref (326 + ((m 316 10) - 1).toNat)] [] c58_28 rfl rfl rfl rfl rfl (ycanO km57 (fo326 (by omega))) (t57_316 hT (by omega)) (fun r801 hr801 => ?_)
    refine y_istore 32 c58_31 rfl rfl ?_
    refine y_goto 56 c58_32 rfl ?_
    refine y_iload 57 c58_56 rfl rfl ?_
    refine y_iconst 58 c58_57 rfl ?_
    refine y_icmp 69 61 c58_58 rfl rfl (yc_ne (by omega) (by omega)) (fun hb802 => ?_) (fun hb802 => ?_)
    · refine y_aload 70 c58_69 rfl rfl rfl ?_
      refine y_dup 71 c58_70 rfl rfl ?_
      refine y_getX 74 (m 2 2) c58_71 rfl kf2_2 rfl ?_
      refine y_iconst 75 c58_74 rfl ?_
      refine y_iadd 76 c58_75 rfl ?_
      refine y_putI 79 c58_76 rfl kf2_2 (y_fit0 _) ?_
      have hT803 := hT.up 2 2 ((m 2 2) + 1) 0 320 rfl (by omega)
      have hF804 := hF.up 2 2 ((m 2 2) + 1) rfl
      refine y_iload 80 c58_79 rfl rfl ?_
      have es805 : (yup m 2 2 ((m 2 2) + 1)) 2 2 = (m 2 2) + 1 := rfl
      have es806 : (yup m 2 2 ((m 2 2) + 1)) 316 15 = m 316 15 := rfl
      have tb807 := hT.atp 316 15 0 48 rfl
      exact y_retI c58_80 (y_fit0 _) ⟨rfl, hT803, hF804, by omega⟩
    · exfalso; omega
