/-! CONTRACTS: the model, statements. Printed by wip/whole/gen97.py -/
def wSt0 (a q : Nat) : Bool := (a == 376 && ((decide (3 ≤ q) && decide (q ≤ 8)) || q == 17)) || ((a == 386 || a == 387 || a == 388 || a == 389 || a == 390) && q == 0) || a == 380 || a == 381 || a == 382 || (a == 400 && decide (1 ≤ q ∧ q < 12)) || ((a == 401 || a == 402) && decide (0 ≤ q ∧ q < 8)) || (a == 403 && decide (0 ≤ q ∧ q < 1000))
theorem wNx_wSt0 : ∀ a q, wNx a q = true → wSt0 a q = true := by
  intro a q h
  simp [wNx] at h
  simp [wSt0]
  omega
theorem wWr_wSt0 : ∀ a q, wWr a q = true → wSt0 a q = true := by
  intro a q h
  simp [wWr] at h
  simp [wSt0]
  omega
theorem wNw_wSt0 : ∀ a q, wNw a q = true → wSt0 a q = true := by
  intro a q h
  simp [wNw] at h
  simp [wSt0]
  omega
theorem wVp0_wSt0 : ∀ a q, wVp0 a q = true → wSt0 a q = true := by
  intro a q h
  simp [wVp0] at h
  simp [wSt0]
  omega
theorem wVr0_wSt0 : ∀ a q, wVr0 a q = true → wSt0 a q = true := by
  intro a q h
  simp [wVr0] at h
  simp [wSt0]
  omega
theorem wEm0_wSt0 : ∀ a q, wEm0 a q = true → wSt0 a q = true := by
  intro a q h
  simp [wEm0] at h
  simp [wSt0]
  omega
theorem wSt0_400 {q : Nat} (h : 1 ≤ q ∧ q < 12) : wSt0 400 q = true := by
  simp [wSt0]
  omega
theorem wSt0_401 {q : Nat} (h : 0 ≤ q ∧ q < 8) : wSt0 401 q = true := by
  simp [wSt0]
  omega
theorem wSt0_402 {q : Nat} (h : 0 ≤ q ∧ q < 8) : wSt0 402 q = true := by
  simp [wSt0]
  omega
theorem wSt0_403 {q : Nat} (h : 0 ≤ q ∧ q < 1000) : wSt0 403 q = true := by
  simp [wSt0]
  omega
theorem wSt0_Y : ∀ a q, vYs 0 a q = true → wSt0 a q = false := by
  intro a q h
  cases e : wSt0 a q with
  | false => rfl
  | true => simp [wSt0] at e; simp [vYs] at h; omega
set_option maxRecDepth 100000 in
theorem t135_0 {L : Nat} {xs : Nat → Int32} {d nn : Nat} {m : yM} {v : Int} (hT : Ty gT m) (hl : m 376 6 ≤ m 376 1) (hn : m 376 18 = 1) (h8 : m 376 8 < 0) (hX : XS 0 m) (h84 : 1 ≤ m 384 0) (h90 : m 390 0 ≤ 100) (hv : 0 ≤ v ∧ v ≤ 47) : YC (gZ L xs) (d + 5) 135 [.ref 376, yI v] m nn (qU (fun m' n' => n' = nn ∧ Ty gT m' ∧ Fr wSt0 m m' ∧ m' 376 6 ≤ m' 376 1 ∧ (0 ≤ m' 376 8 ∨ (m' 376 8 < 0 ∧ mu m' ≤ mu m ∧ m' 390 0 = m 390 0 + 1 ∧ XS 0 m')))) := by
  have tb8 := hT.atp 376 8 (-1) 320 rfl
  have tc384 := hT.atp 384 0 0 10 rfl
  have tc386 := hT.atp 386 0 0 12 rfl
  have tc387 := hT.atp 387 0 0 8 rfl
  have tc388 := hT.atp 388 0 0 12 rfl
  have tc389 := hT.atp 389 0 0 48 rfl
  have tc390 := hT.atp 390 0 0 125 rfl
  have hsc := hX.2.2.2.2.2
  have hCV := hX.2.2.2.2.2.2.2.1
  refine YC.mkB [some (.ref 376), some (yI v), none, none] kn135 rfl rfl ?_
  have hF : Fr wSt0 m m := Fr.rf
  refine y_aload 1 c135_0 rfl rfl rfl ?_
  have tb6541 := hT.atp 376 18 0 1 rfl
  refine y_callP 4 [.ref 376] [] c135_1 rfl rfl rfl rfl rfl (ycanO km96 ko376) (t96_0 (by omega)) (fun r6540 hr6540 => ?_)
  subst hr6540
  refine y_istore 5 c135_4 rfl rfl ?_
  refine y_aload 6 c135_5 rfl rfl rfl ?_
  refine y_aload 7 c135_6 rfl rfl rfl ?_
  refine y_getR 10 c135_7 rfl kf376_25 ?_
  refine y_iload 11 c135_10 rfl rfl ?_
  refine y_iaX 12 (m 388 0) c135_11 rfl ka388 (by decide) rfl ?_
  refine y_iconst 14 c135_12 rfl ?_
  refine y_icmp 21 17 c135_14 rfl rfl (yc_ge (by omega) (by omega)) (fun hb6542 => ?_) (fun hb6542 => ?_)
  · refine y_iconst 22 c135_21 rfl ?_
    have tb6544 := hT.atp 376 1 0 320 rfl
    have tb6545 := hT.atp 376 3 0 3 rfl
    have tb6546 := hT.atp 376 6 0 320 rfl
    have tb6547 := hT.atp 376 8 ((-1)) 320 rfl
    refine y_callIB 25 [.ref 376, yI 0] [] c135_22 rfl rfl rfl rfl rfl (ycanO km105 ko376) (t105 (g := 0) hT (by omega) (by omega)) (fun rq6543 mq6543 nq6543 hq6543 => ?_)
    obtain ⟨rfl, hTq6543, hFq6543, hq6543⟩ := hq6543
    have x1q6543 : mq6543 376 1 = m 376 1 := (hFq6543 376 1 rfl)
    have hF6548 := hF.tr hFq6543 wNw_wSt0
    refine y_if 29 28 c135_25 rfl rfl (yz_ne (by omega)) (fun hb6549 => ?_) (fun hb6549 => ?_)
    · refine y_aload 30 c135_29 rfl rfl rfl ?_
      have tb6550 := hTq6543.atp 376 3 0 3 rfl
      refine y_callP 33 [.ref 376] [] c135_30 rfl rfl rfl rfl rfl (ycanO km115 ko376) (t115 hTq6543) (fun r6551 hr6551 => ?_)
      refine y_if 41 36 c135_33 rfl rfl (yz_ne (by omega)) (fun hb6552 => ?_) (fun hb6552 => ?_)
      · refine y_aload 42 c135_41 rfl rfl rfl ?_
        refine y_iconst 43 c135_42 rfl ?_
        refine y_inlB 46 [.ref 376, yI 0] [] [some (.ref 376), some (yI 0)] c135_43 rfl rfl rfl rfl rfl (ycanO km134 ko376) kn134 rfl rfl ?_
        refine y_aload 1 c134_0 rfl rfl rfl ?_
        refine y_getR 4 c134_1 rfl kf376_15 ?_
        refine y_aload 5 c134_4 rfl rfl rfl ?_
        refine y_getX 8 (m 376 17) c134_5 rfl kf376_17 (hFq6543 376 17 rfl) ?_
        have tb6553 := hT.atp 376 17 0 20 rfl
        refine y_aload 9 c134_8 rfl rfl rfl ?_
        refine y_getX 12 (mq6543 376 4) c134_9 rfl kf376_4 rfl ?_
        have tb6554 := hTq6543.atp 376 4 ((-2147483648)) 2147483647 rfl
        refine y_iastore 13 c134_12 rfl ka381 (by omega) (y_nar0 _) ?_
        have hT6555 := hTq6543.up 381 ((m 376 17).toNat) (mq6543 376 4) ((-2147483648)) 2147483647 rfl (by omega)
        have hF6556 := hF6548.up 381 ((m 376 17).toNat) (mq6543 376 4) rfl
        refine y_aload 14 c134_13 rfl rfl rfl ?_
        refine y_getR 17 c134_14 rfl kf376_16 ?_
        refine y_aload 18 c134_17 rfl rfl rfl ?_
        refine y_getX 21 (m 376 17) c134_18 rfl kf376_17 ((yup_na (by decide)).trans (hFq6543 376 17 rfl)) ?_
        refine y_aload 22 c134_21 rfl rfl rfl ?_
        refine y_getX 25 (mq6543 376 5) c134_22 rfl kf376_5 rfl ?_
        have tb6557 := hTq6543.atp 376 5 0 320 rfl
        refine y_iastore 26 c134_25 rfl ka382 (by omega) (y_nar0 _) ?_
        have hT6558 := hT6555.up 382 ((m 376 17).toNat) (mq6543 376 5) 0 320 rfl (by omega)
        have hF6559 := hF6556.up 382 ((m 376 17).toNat) (mq6543 376 5) rfl
        refine y_aload 27 c134_26 rfl rfl rfl ?_
        refine y_dup 28 c134_27 rfl rfl ?_
        refine y_getX 31 (m 376 17) c134_28 rfl kf376_17 ((yup_na (by decide)).trans ((yup_na (by decide)).trans (hFq6543 376 17 rfl))) ?_
        refine y_iconst 32 c134_31 rfl ?_
        refine y_iadd 33 c134_32 rfl ?_
        refine y_putI 36 c134_33 rfl kf376_17 (y_fit0 _) ?_
        have hT6560 := hT6558.up 376 17 ((m 376 17) + 1) 0 20 rfl (by omega)
        have hF6561 := hF6559.up 376 17 ((m 376 17) + 1) rfl
        refine y_returnK c134_36 ?_
        refine y_aload 47 c135_46 rfl rfl rfl ?_
        refine y_getR 50 c135_47 rfl kf376_37 ?_
        refine y_iconst 52 c135_50 rfl ?_
        refine y_iload 53 c135_52 rfl rfl ?_
        refine y_imul 54 c135_53 rfl ?_
        refine y_top 0 (by decide) ?_
        refine y_aload 55 c135_54 rfl rfl rfl ?_
        refine y_getR 58 c135_55 rfl kf376_25 ?_
        refine y_iload 59 c135_58 rfl rfl ?_
        refine y_iaX 60 (m 388 0) c135_59 rfl ka388 (by decide) ((yup_na (by decide)).trans ((yup_na (by decide)).trans ((yup_na (by decide)).trans (hFq6543 388 0 rfl)))) ?_
        refine y_iadd 61 c135_60 rfl ?_
        refine y_aload 62 c135_61 rfl rfl rfl ?_
        refine y_getX 65 (mq6543 376 4) c135_62 rfl kf376_4 rfl ?_
        refine y_iastore 66 c135_65 rfl ka400 (by omega) (y_nar0 _) ?_
        have hT6562 := hT6560.up 400 ((0 + (m 388 0)).toNat) (mq6543 376 4) ((-2147483648)) 2147483647 rfl (by omega)
        have hF6563 := hF6561.up 400 ((0 + (m 388 0)).toNat) (mq6543 376 4) (wSt0_400 (by omega))
        refine y_aload 67 c135_66 rfl rfl rfl ?_
        refine y_iconst 68 c135_67 rfl ?_
        refine y_iload 69 c135_68 rfl rfl ?_
        refine y_aload 70 c135_69 rfl rfl rfl ?_
        refine y_getR 73 c135_70 rfl kf376_25 ?_
        refine y_iload 74 c135_73 rfl rfl ?_
        refine y_iaX 75 (m 388 0) c135_74 rfl ka388 (by decide) ((yup_na (by decide)).trans ((yup_na (by decide)).trans ((yup_na (by decide)).trans ((yup_na (by decide)).trans (hFq6543 388 0 rfl))))) ?_
        refine y_iconst 76 c135_75 rfl ?_
        have es6565 : (yup (yup (yup (yup mq6543 381 ((m 376 17).toNat) (mq6543 376 4)) 382 ((m 376 17).toNat) (mq6543 376 5)) 376 17 ((m 376 17) + 1)) 400 ((0 + (m 388 0)).toNat) (mq6543 376 4)) 376 1 = m 376 1 := ((yup_na (by decide)).trans ((yup_nk (by decide)).trans ((yup_na (by decide)).trans ((yup_na (by decide)).trans (hFq6543 376 1 rfl)))))
        have es6566 : (yup (yup (yup (yup mq6543 381 ((m 376 17).toNat) (mq6543 376 4)) 382 ((m 376 17).toNat) (mq6543 376 5)) 376 17 ((m 376 17) + 1)) 400 ((0 + (m 388 0)).toNat) (mq6543 376 4)) 376 3 = mq6543 376 3 := rfl
        have es6567 : (yup (yup (yup (yup mq6543 381 ((m 376 17).toNat) (mq6543 376 4)) 382 ((m 376 17).toNat) (mq6543 376 5)) 376 17 ((m 376 17) + 1)) 400 ((0 + (m 388 0)).toNat) (mq6543 376 4)) 376 6 = mq6543 376 6 := rfl
        have tb6568 := hTq6543.atp 376 6 0 320 rfl
        have es6569 : (yup (yup (yup (yup mq6543 381 ((m 376 17).toNat) (mq6543 376 4)) 382 ((m 376 17).toNat) (mq6543 376 5)) 376 17 ((m 376 17) + 1)) 400 ((0 + (m 388 0)).toNat) (mq6543 376 4)) 376 8 = mq6543 376 8 := rfl
        have tb6570 := hTq6543.atp 376 8 ((-1)) 320 rfl
        have es6571 : (yup (yup (yup (yup mq6543 381 ((m 376 17).toNat) (mq6543 376 4)) 382 ((m 376 17).toNat) (mq6543 376 5)) 376 17 ((m 376 17) + 1)) 400 ((0 + (m 388 0)).toNat) (mq6543 376 4)) 376 18 = m 376 18 := ((yup_na (by decide)).trans ((yup_nk (by decide)).trans ((yup_na (by decide)).trans ((yup_na (by decide)).trans (hFq6543 376 18 rfl)))))
        have es6572 : (yup (yup (yup (yup mq6543 381 ((m 376 17).toNat) (mq6543 376 4)) 382 ((m 376 17).toNat) (mq6543 376 5)) 376 17 ((m 376 17) + 1)) 400 ((0 + (m 388 0)).toNat) (mq6543 376 4)) 390 0 = m 390 0 := ((yup_na (by decide)).trans ((yup_na (by decide)).trans ((yup_na (by decide)).trans ((yup_na (by decide)).trans (hFq6543 390 0 rfl)))))
        have es6573 : (yup (yup (yup (yup mq6543 381 ((m 376 17).toNat) (mq6543 376 4)) 382 ((m 376 17).toNat) (mq6543 376 5)) 376 17 ((m 376 17) + 1)) 400 ((0 + (m 388 0)).toNat) (mq6543 376 4)) 386 0 = m 386 0 := ((yup_na (by decide)).trans ((yup_na (by decide)).trans ((yup_na (by decide)).trans ((yup_na (by decide)).trans (hFq6543 386 0 rfl)))))
        have es6574 : (yup (yup (yup (yup mq6543 381 ((m 376 17).toNat) (mq6543 376 4)) 382 ((m 376 17).toNat) (mq6543 376 5)) 376 17 ((m 376 17) + 1)) 400 ((0 + (m 388 0)).toNat) (mq6543 376 4)) 387 0 = m 387 0 := ((yup_na (by decide)).trans ((yup_na (by decide)).trans ((yup_na (by decide)).trans ((yup_na (by decide)).trans (hFq6543 387 0 rfl)))))
        have es6575 : (yup (yup (yup (yup mq6543 381 ((m 376 17).toNat) (mq6543 376 4)) 382 ((m 376 17).toNat) (mq6543 376 5)) 376 17 ((m 376 17) + 1)) 400 ((0 + (m 388 0)).toNat) (mq6543 376 4)) 388 0 = m 388 0 := ((yup_na (by decide)).trans ((yup_na (by decide)).trans ((yup_na (by decide)).trans ((yup_na (by decide)).trans (hFq6543 388 0 rfl)))))
        have es6576 : (yup (yup (yup (yup mq6543 381 ((m 376 17).toNat) (mq6543 376 4)) 382 ((m 376 17).toNat) (mq6543 376 5)) 376 17 ((m 376 17) + 1)) 400 ((0 + (m 388 0)).toNat) (mq6543 376 4)) 376 17 = (m 376 17) + 1 := rfl
        have es6577 : (yup (yup (yup (yup mq6543 381 ((m 376 17).toNat) (mq6543 376 4)) 382 ((m 376 17).toNat) (mq6543 376 5)) 376 17 ((m 376 17) + 1)) 400 ((0 + (m 388 0)).toNat) (mq6543 376 4)) 384 0 = m 384 0 := ((yup_na (by decide)).trans ((yup_na (by decide)).trans ((yup_na (by decide)).trans ((yup_na (by decide)).trans (hFq6543 384 0 rfl)))))
        have em6578 : mu (yup (yup (yup (yup mq6543 381 ((m 376 17).toNat) (mq6543 376 4)) 382 ((m 376 17).toNat) (mq6543 376 5)) 376 17 ((m 376 17) + 1)) 400 ((0 + (m 388 0)).toNat) (mq6543 376 4)) = mu mq6543 := mu_fr ((yup_na (by decide)).trans ((yup_nk (by decide)).trans ((yup_na (by decide)).trans (yup_na (by decide))))) ((yup_na (by decide)).trans ((yup_nk (by decide)).trans ((yup_na (by decide)).trans (yup_na (by decide))))) ((yup_na (by decide)).trans ((yup_nk (by decide)).trans ((yup_na (by decide)).trans (yup_na (by decide)))))
        refine y_callIB 79 [.ref 376, yI 1, yI v, yI (m 388 0), yI 0] [] c135_76 rfl rfl rfl rfl rfl (ycanO km127 ko376) (t127_0 hT6562 (by omega) (by omega) (by omega) (by omega) (by omega) (by omega)) (fun rq6564 mq6564 nq6564 hq6564 => ?_)
        obtain ⟨rfl, hTq6564, hFq6564, hq6564, hE⟩ := hq6564
        unfold EM at hE
        rw [show (yup (yup (yup (yup mq6543 381 ((m 376 17).toNat) (mq6543 376 4)) 382 ((m 376 17).toNat) (mq6543 376 5)) 376 17 ((m 376 17) + 1)) 400 ((0 + (m 388 0)).toNat) (mq6543 376 4)) 390 0 = m 390 0 from ((yup_na (by decide)).trans ((yup_na (by decide)).trans ((yup_na (by decide)).trans ((yup_na (by decide)).trans (hFq6543 390 0 rfl)))))] at hE
        obtain ⟨k1, k2, k3, k4, k5, k6, k7⟩ := hE
        have k8 : ∀ q, q < 1000 * 0 + 8 * (m 390 0).toNat ∨ 1000 * 0 + 8 * (m 390 0).toNat + 8 ≤ q → mq6564 403 q = m 403 q := fun q hq => (k7 q hq).trans (((yup_na (by decide)).trans ((yup_na (by decide)).trans ((yup_na (by decide)).trans ((yup_na (by decide)).trans (hFq6543 403 q rfl))))))
        have x1q6564 : mq6564 376 1 = m 376 1 := ((hFq6564 376 1 rfl).trans ((yup_na (by decide)).trans ((yup_nk (by decide)).trans ((yup_na (by decide)).trans ((yup_na (by decide)).trans (hFq6543 376 1 rfl))))))
        have hF6579 := hF6563.tr hFq6564 wEm0_wSt0
        refine y_istore 80 c135_79 rfl rfl ?_
        refine y_aload 81 c135_80 rfl rfl rfl ?_
        refine y_getR 84 c135_81 rfl kf376_25 ?_
        refine y_iload 85 c135_84 rfl rfl ?_
        refine y_dup2 86 c135_85 rfl ⟨rfl, rfl⟩ ?_
        refine y_iaX 87 (m 388 0) c135_86 rfl ka388 (by decide) ((hFq6564 388 0 rfl).trans ((yup_na (by decide)).trans ((yup_na (by decide)).trans ((yup_na (by decide)).trans ((yup_na (by decide)).trans (hFq6543 388 0 rfl)))))) ?_
        refine y_iconst 88 c135_87 rfl ?_
        refine y_iadd 89 c135_88 rfl ?_
        refine y_iastore 90 c135_89 rfl ka388 (by omega) (y_nar0 _) ?_
        have hT6580 := hTq6564.up 388 ((0 : Int).toNat) ((m 388 0) + 1) 0 12 rfl (by omega)
        have hF6581 := hF6579.up 388 ((0 : Int).toNat) ((m 388 0) + 1) rfl
        refine y_aload 91 c135_90 rfl rfl rfl ?_
        have es6583 : (yup mq6564 388 ((0 : Int).toNat) ((m 388 0) + 1)) 376 1 = m 376 1 := ((yup_na (by decide)).trans ((hFq6564 376 1 rfl).trans ((yup_na (by decide)).trans ((yup_nk (by decide)).trans ((yup_na (by decide)).trans ((yup_na (by decide)).trans (hFq6543 376 1 rfl)))))))
        have es6584 : (yup mq6564 388 ((0 : Int).toNat) ((m 388 0) + 1)) 376 3 = mq6543 376 3 := ((yup_na (by decide)).trans ((hFq6564 376 3 rfl).trans ((yup_na (by decide)).trans ((yup_nk (by decide)).trans ((yup_na (by decide)).trans (yup_na (by decide)))))))
        have es6585 : (yup mq6564 388 ((0 : Int).toNat) ((m 388 0) + 1)) 376 6 = mq6543 376 6 := ((yup_na (by decide)).trans ((hFq6564 376 6 rfl).trans ((yup_na (by decide)).trans ((yup_nk (by decide)).trans ((yup_na (by decide)).trans (yup_na (by decide)))))))
        have es6586 : (yup mq6564 388 ((0 : Int).toNat) ((m 388 0) + 1)) 376 8 = mq6543 376 8 := ((yup_na (by decide)).trans ((hFq6564 376 8 rfl).trans ((yup_na (by decide)).trans ((yup_nk (by decide)).trans ((yup_na (by decide)).trans (yup_na (by decide)))))))
        have em6587 : mu (yup mq6564 388 ((0 : Int).toNat) ((m 388 0) + 1)) = mu mq6543 := mu_fr ((yup_na (by decide)).trans ((hFq6564 376 1 rfl).trans ((yup_na (by decide)).trans ((yup_nk (by decide)).trans ((yup_na (by decide)).trans (yup_na (by decide))))))) ((yup_na (by decide)).trans ((hFq6564 376 3 rfl).trans ((yup_na (by decide)).trans ((yup_nk (by decide)).trans ((yup_na (by decide)).trans (yup_na (by decide))))))) ((yup_na (by decide)).trans ((hFq6564 376 6 rfl).trans ((yup_na (by decide)).trans ((yup_nk (by decide)).trans ((yup_na (by decide)).trans (yup_na (by decide)))))))
        refine y_callUB 94 [.ref 376] [] c135_91 rfl rfl rfl rfl rfl (ycanO km99 ko376) (t99u hT6580 (by omega)) (fun mq6582 nq6582 hq6582 => ?_)
        obtain ⟨rfl, hTq6582, hFq6582, hq6582⟩ := hq6582
        have x1q6582 : mq6582 376 1 = m 376 1 := ((hFq6582 376 1 rfl).trans ((yup_na (by decide)).trans ((hFq6564 376 1 rfl).trans ((yup_na (by decide)).trans ((yup_nk (by decide)).trans ((yup_na (by decide)).trans ((yup_na (by decide)).trans (hFq6543 376 1 rfl))))))))
        have hF6588 := hF6581.tr hFq6582 wNx_wSt0
        have es6589 : mq6582 376 1 = m 376 1 := ((hFq6582 376 1 rfl).trans ((yup_na (by decide)).trans ((hFq6564 376 1 rfl).trans ((yup_na (by decide)).trans ((yup_nk (by decide)).trans ((yup_na (by decide)).trans ((yup_na (by decide)).trans (hFq6543 376 1 rfl))))))))
        have tb6590 := hTq6582.atp 376 3 0 3 rfl
        have tb6591 := hTq6582.atp 376 6 0 320 rfl
        have es6592 : mq6582 376 8 = mq6543 376 8 := ((hFq6582 376 8 rfl).trans ((yup_na (by decide)).trans ((hFq6564 376 8 rfl).trans ((yup_na (by decide)).trans ((yup_nk (by decide)).trans ((yup_na (by decide)).trans (yup_na (by decide))))))))
        have es6593 : mq6582 390 0 = mq6564 390 0 := ((hFq6582 390 0 rfl).trans (yup_na (by decide)))
        have tb6594 := hTq6564.atp 390 0 0 125 rfl
        have es6595 : mq6582 386 0 = m 386 0 := ((hFq6582 386 0 rfl).trans ((yup_na (by decide)).trans ((hFq6564 386 0 rfl).trans ((yup_na (by decide)).trans ((yup_na (by decide)).trans ((yup_na (by decide)).trans ((yup_na (by decide)).trans (hFq6543 386 0 rfl))))))))
        have es6596 : mq6582 387 0 = m 387 0 := ((hFq6582 387 0 rfl).trans ((yup_na (by decide)).trans ((hFq6564 387 0 rfl).trans ((yup_na (by decide)).trans ((yup_na (by decide)).trans ((yup_na (by decide)).trans ((yup_na (by decide)).trans (hFq6543 387 0 rfl))))))))
        have es6597 : mq6582 388 0 = (m 388 0) + 1 := ((hFq6582 388 0 rfl).trans (yup_eq _ _ _ _))
        have es6598 : mq6582 376 17 = (m 376 17) + 1 := ((hFq6582 376 17 rfl).trans ((yup_na (by decide)).trans ((hFq6564 376 17 rfl).trans ((yup_na (by decide)).trans (yup_eq _ _ _ _)))))
        have es6599 : mq6582 384 0 = m 384 0 := ((hFq6582 384 0 rfl).trans ((yup_na (by decide)).trans ((hFq6564 384 0 rfl).trans ((yup_na (by decide)).trans ((yup_na (by decide)).trans ((yup_na (by decide)).trans ((yup_na (by decide)).trans (hFq6543 384 0 rfl))))))))
        have f0 : mq6582 403 (1000 * 0 + 8 * (m 390 0).toNat) = _ := (((hFq6582 403 _ rfl).trans (yup_na (by decide)))).trans k2
        have f1 : mq6582 403 (1000 * 0 + 8 * (m 390 0).toNat + 1) = _ := (((hFq6582 403 _ rfl).trans (yup_na (by decide)))).trans k3
        have f2 : mq6582 403 (1000 * 0 + 8 * (m 390 0).toNat + 2) = _ := (((hFq6582 403 _ rfl).trans (yup_na (by decide)))).trans k4
        have f3 : mq6582 403 (1000 * 0 + 8 * (m 390 0).toNat + 3) = _ := (((hFq6582 403 _ rfl).trans (yup_na (by decide)))).trans k5
        have f4 : mq6582 403 (1000 * 0 + 8 * (m 390 0).toNat + 4) = _ := (((hFq6582 403 _ rfl).trans (yup_na (by decide)))).trans k6
        have hw : OW mq6582 (1000 * 0 + 8 * (m 390 0).toNat) := by unfold OW; omega
        have hx : XS 0 mq6582 := XS.add hX (by omega) (fun a q ha => hF6588 a q (wSt0_Y a q ha)) (fun q hq => (((hFq6582 403 q rfl).trans (yup_na (by decide)))).trans (k8 q hq)) hw (by omega) (by omega) (by omega) (by omega) (by omega) (by omega) (by omega) (fun c hc => by rw [show mq6582 401 (8 * 0 + c) = m 401 (8 * 0 + c) from ((hFq6582 401 _ rfl).trans ((yup_na (by decide)).trans ((hFq6564 401 _ rfl).trans ((yup_na (by decide)).trans ((yup_na (by decide)).trans ((yup_na (by decide)).trans ((yup_na (by decide)).trans (hFq6543 401 _ rfl))))))))]; exact hCV c (by omega)) (by omega) (by omega)
        exact y_retU c135_94 ⟨rfl, hTq6582, hF6588, by omega, by first | exact Or.inl (by omega) | exact Or.inr ⟨by omega, by omega, by omega, hx⟩⟩
      · refine y_aload 37 c135_36 rfl rfl rfl ?_
        have es6601 : mq6543 376 1 = m 376 1 := (hFq6543 376 1 rfl)
        have tb6602 := hTq6543.atp 376 6 0 320 rfl
        have tb6603 := hTq6543.atp 376 8 ((-1)) 320 rfl
        refine y_callUB 40 [.ref 376] [] c135_37 rfl rfl rfl rfl rfl (ycanO km104 ko376) (t104 hTq6543) (fun mq6600 nq6600 hq6600 => ?_)
        obtain ⟨rfl, hTq6600, hFq6600, hq6600⟩ := hq6600
        have x1q6600 : mq6600 376 1 = m 376 1 := ((hFq6600 376 1 rfl).trans (hFq6543 376 1 rfl))
        have hF6604 := hF6548.tr hFq6600 wWr_wSt0
        have es6605 : mq6600 376 1 = m 376 1 := ((hFq6600 376 1 rfl).trans (hFq6543 376 1 rfl))
        have es6606 : mq6600 376 3 = mq6543 376 3 := (hFq6600 376 3 rfl)
        have es6607 : mq6600 376 6 = mq6543 376 6 := (hFq6600 376 6 rfl)
        have tb6608 := hTq6600.atp 376 8 ((-1)) 320 rfl
        exact y_retU c135_40 ⟨rfl, hTq6600, hF6604, by omega, Or.inl (by omega)⟩
    · have es6609 : mq6543 376 1 = m 376 1 := (hFq6543 376 1 rfl)
      have tb6610 := hTq6543.atp 376 3 0 3 rfl
      have tb6611 := hTq6543.atp 376 6 0 320 rfl
      have tb6612 := hTq6543.atp 376 8 ((-1)) 320 rfl
      exact y_retU c135_28 ⟨rfl, hTq6543, hF6548, by omega, Or.inl (by omega)⟩
  · refine y_iconst 18 c135_17 rfl ?_
    refine y_goto 22 c135_18 rfl ?_
    have tb6614 := hT.atp 376 1 0 320 rfl
    have tb6615 := hT.atp 376 3 0 3 rfl
    have tb6616 := hT.atp 376 6 0 320 rfl
    have tb6617 := hT.atp 376 8 ((-1)) 320 rfl
    refine y_callIB 25 [.ref 376, yI 1] [] c135_22 rfl rfl rfl rfl rfl (ycanO km105 ko376) (t105 (g := 1) hT (by omega) (by omega)) (fun rq6613 mq6613 nq6613 hq6613 => ?_)
    obtain ⟨rfl, hTq6613, hFq6613, hq6613⟩ := hq6613
    have x1q6613 : mq6613 376 1 = m 376 1 := (hFq6613 376 1 rfl)
    have hF6618 := hF.tr hFq6613 wNw_wSt0
    refine y_if 29 28 c135_25 rfl rfl (yz_ne (by omega)) (fun hb6619 => ?_) (fun hb6619 => ?_)
    · refine y_aload 30 c135_29 rfl rfl rfl ?_
      have tb6620 := hTq6613.atp 376 3 0 3 rfl
      refine y_callP 33 [.ref 376] [] c135_30 rfl rfl rfl rfl rfl (ycanO km115 ko376) (t115 hTq6613) (fun r6621 hr6621 => ?_)
      refine y_if 41 36 c135_33 rfl rfl (yz_ne (by omega)) (fun hb6622 => ?_) (fun hb6622 => ?_)
      · refine y_aload 42 c135_41 rfl rfl rfl ?_
        refine y_iconst 43 c135_42 rfl ?_
        refine y_inlB 46 [.ref 376, yI 0] [] [some (.ref 376), some (yI 0)] c135_43 rfl rfl rfl rfl rfl (ycanO km134 ko376) kn134 rfl rfl ?_
        refine y_aload 1 c134_0 rfl rfl rfl ?_
        refine y_getR 4 c134_1 rfl kf376_15 ?_
        refine y_aload 5 c134_4 rfl rfl rfl ?_
        refine y_getX 8 (m 376 17) c134_5 rfl kf376_17 (hFq6613 376 17 rfl) ?_
        have tb6623 := hT.atp 376 17 0 20 rfl
        refine y_aload 9 c134_8 rfl rfl rfl ?_
        refine y_getX 12 (mq6613 376 4) c134_9 rfl kf376_4 rfl ?_
        have tb6624 := hTq6613.atp 376 4 ((-2147483648)) 2147483647 rfl
        refine y_iastore 13 c134_12 rfl ka381 (by omega) (y_nar0 _) ?_
        have hT6625 := hTq6613.up 381 ((m 376 17).toNat) (mq6613 376 4) ((-2147483648)) 2147483647 rfl (by omega)
        have hF6626 := hF6618.up 381 ((m 376 17).toNat) (mq6613 376 4) rfl
        refine y_aload 14 c134_13 rfl rfl rfl ?_
        refine y_getR 17 c134_14 rfl kf376_16 ?_
        refine y_aload 18 c134_17 rfl rfl rfl ?_
        refine y_getX 21 (m 376 17) c134_18 rfl kf376_17 ((yup_na (by decide)).trans (hFq6613 376 17 rfl)) ?_
        refine y_aload 22 c134_21 rfl rfl rfl ?_
        refine y_getX 25 (mq6613 376 5) c134_22 rfl kf376_5 rfl ?_
        have tb6627 := hTq6613.atp 376 5 0 320 rfl
        refine y_iastore 26 c134_25 rfl ka382 (by omega) (y_nar0 _) ?_
        have hT6628 := hT6625.up 382 ((m 376 17).toNat) (mq6613 376 5) 0 320 rfl (by omega)
        have hF6629 := hF6626.up 382 ((m 376 17).toNat) (mq6613 376 5) rfl
        refine y_aload 27 c134_26 rfl rfl rfl ?_
        refine y_dup 28 c134_27 rfl rfl ?_
        refine y_getX 31 (m 376 17) c134_28 rfl kf376_17 ((yup_na (by decide)).trans ((yup_na (by decide)).trans (hFq6613 376 17 rfl))) ?_
        refine y_iconst 32 c134_31 rfl ?_
        refine y_iadd 33 c134_32 rfl ?_
        refine y_putI 36 c134_33 rfl kf376_17 (y_fit0 _) ?_
        have hT6630 := hT6628.up 376 17 ((m 376 17) + 1) 0 20 rfl (by omega)
        have hF6631 := hF6629.up 376 17 ((m 376 17) + 1) rfl
        refine y_returnK c134_36 ?_
        refine y_aload 47 c135_46 rfl rfl rfl ?_
        refine y_getR 50 c135_47 rfl kf376_37 ?_
        refine y_iconst 52 c135_50 rfl ?_
        refine y_iload 53 c135_52 rfl rfl ?_
        refine y_imul 54 c135_53 rfl ?_
        refine y_top 0 (by decide) ?_
        refine y_aload 55 c135_54 rfl rfl rfl ?_
        refine y_getR 58 c135_55 rfl kf376_25 ?_
        refine y_iload 59 c135_58 rfl rfl ?_
        refine y_iaX 60 (m 388 0) c135_59 rfl ka388 (by decide) ((yup_na (by decide)).trans ((yup_na (by decide)).trans ((yup_na (by decide)).trans (hFq6613 388 0 rfl)))) ?_
        refine y_iadd 61 c135_60 rfl ?_
        refine y_aload 62 c135_61 rfl rfl rfl ?_
        refine y_getX 65 (mq6613 376 4) c135_62 rfl kf376_4 rfl ?_
        refine y_iastore 66 c135_65 rfl ka400 (by omega) (y_nar0 _) ?_
        have hT6632 := hT6630.up 400 ((0 + (m 388 0)).toNat) (mq6613 376 4) ((-2147483648)) 2147483647 rfl (by omega)
        have hF6633 := hF6631.up 400 ((0 + (m 388 0)).toNat) (mq6613 376 4) (wSt0_400 (by omega))
        refine y_aload 67 c135_66 rfl rfl rfl ?_
        refine y_iconst 68 c135_67 rfl ?_
        refine y_iload 69 c135_68 rfl rfl ?_
        refine y_aload 70 c135_69 rfl rfl rfl ?_
        refine y_getR 73 c135_70 rfl kf376_25 ?_
        refine y_iload 74 c135_73 rfl rfl ?_
        refine y_iaX 75 (m 388 0) c135_74 rfl ka388 (by decide) ((yup_na (by decide)).trans ((yup_na (by decide)).trans ((yup_na (by decide)).trans ((yup_na (by decide)).trans (hFq6613 388 0 rfl))))) ?_
        refine y_iconst 76 c135_75 rfl ?_
        have es6635 : (yup (yup (yup (yup mq6613 381 ((m 376 17).toNat) (mq6613 376 4)) 382 ((m 376 17).toNat) (mq6613 376 5)) 376 17 ((m 376 17) + 1)) 400 ((0 + (m 388 0)).toNat) (mq6613 376 4)) 376 1 = m 376 1 := ((yup_na (by decide)).trans ((yup_nk (by decide)).trans ((yup_na (by decide)).trans ((yup_na (by decide)).trans (hFq6613 376 1 rfl)))))
        have es6636 : (yup (yup (yup (yup mq6613 381 ((m 376 17).toNat) (mq6613 376 4)) 382 ((m 376 17).toNat) (mq6613 376 5)) 376 17 ((m 376 17) + 1)) 400 ((0 + (m 388 0)).toNat) (mq6613 376 4)) 376 3 = mq6613 376 3 := rfl
        have es6637 : (yup (yup (yup (yup mq6613 381 ((m 376 17).toNat) (mq6613 376 4)) 382 ((m 376 17).toNat) (mq6613 376 5)) 376 17 ((m 376 17) + 1)) 400 ((0 + (m 388 0)).toNat) (mq6613 376 4)) 376 6 = mq6613 376 6 := rfl
        have tb6638 := hTq6613.atp 376 6 0 320 rfl
        have es6639 : (yup (yup (yup (yup mq6613 381 ((m 376 17).toNat) (mq6613 376 4)) 382 ((m 376 17).toNat) (mq6613 376 5)) 376 17 ((m 376 17) + 1)) 400 ((0 + (m 388 0)).toNat) (mq6613 376 4)) 376 8 = mq6613 376 8 := rfl
        have tb6640 := hTq6613.atp 376 8 ((-1)) 320 rfl
        have es6641 : (yup (yup (yup (yup mq6613 381 ((m 376 17).toNat) (mq6613 376 4)) 382 ((m 376 17).toNat) (mq6613 376 5)) 376 17 ((m 376 17) + 1)) 400 ((0 + (m 388 0)).toNat) (mq6613 376 4)) 376 18 = m 376 18 := ((yup_na (by decide)).trans ((yup_nk (by decide)).trans ((yup_na (by decide)).trans ((yup_na (by decide)).trans (hFq6613 376 18 rfl)))))
        have es6642 : (yup (yup (yup (yup mq6613 381 ((m 376 17).toNat) (mq6613 376 4)) 382 ((m 376 17).toNat) (mq6613 376 5)) 376 17 ((m 376 17) + 1)) 400 ((0 + (m 388 0)).toNat) (mq6613 376 4)) 390 0 = m 390 0 := ((yup_na (by decide)).trans ((yup_na (by decide)).trans ((yup_na (by decide)).trans ((yup_na (by decide)).trans (hFq6613 390 0 rfl)))))
        have es6643 : (yup (yup (yup (yup mq6613 381 ((m 376 17).toNat) (mq6613 376 4)) 382 ((m 376 17).toNat) (mq6613 376 5)) 376 17 ((m 376 17) + 1)) 400 ((0 + (m 388 0)).toNat) (mq6613 376 4)) 386 0 = m 386 0 := ((yup_na (by decide)).trans ((yup_na (by decide)).trans ((yup_na (by decide)).trans ((yup_na (by decide)).trans (hFq6613 386 0 rfl)))))
        have es6644 : (yup (yup (yup (yup mq6613 381 ((m 376 17).toNat) (mq6613 376 4)) 382 ((m 376 17).toNat) (mq6613 376 5)) 376 17 ((m 376 17) + 1)) 400 ((0 + (m 388 0)).toNat) (mq6613 376 4)) 387 0 = m 387 0 := ((yup_na (by decide)).trans ((yup_na (by decide)).trans ((yup_na (by decide)).trans ((yup_na (by decide)).trans (hFq6613 387 0 rfl)))))
        have es6645 : (yup (yup (yup (yup mq6613 381 ((m 376 17).toNat) (mq6613 376 4)) 382 ((m 376 17).toNat) (mq6613 376 5)) 376 17 ((m 376 17) + 1)) 400 ((0 + (m 388 0)).toNat) (mq6613 376 4)) 388 0 = m 388 0 := ((yup_na (by decide)).trans ((yup_na (by decide)).trans ((yup_na (by decide)).trans ((yup_na (by decide)).trans (hFq6613 388 0 rfl)))))
        have es6646 : (yup (yup (yup (yup mq6613 381 ((m 376 17).toNat) (mq6613 376 4)) 382 ((m 376 17).toNat) (mq6613 376 5)) 376 17 ((m 376 17) + 1)) 400 ((0 + (m 388 0)).toNat) (mq6613 376 4)) 376 17 = (m 376 17) + 1 := rfl
        have es6647 : (yup (yup (yup (yup mq6613 381 ((m 376 17).toNat) (mq6613 376 4)) 382 ((m 376 17).toNat) (mq6613 376 5)) 376 17 ((m 376 17) + 1)) 400 ((0 + (m 388 0)).toNat) (mq6613 376 4)) 384 0 = m 384 0 := ((yup_na (by decide)).trans ((yup_na (by decide)).trans ((yup_na (by decide)).trans ((yup_na (by decide)).trans (hFq6613 384 0 rfl)))))
        have em6648 : mu (yup (yup (yup (yup mq6613 381 ((m 376 17).toNat) (mq6613 376 4)) 382 ((m 376 17).toNat) (mq6613 376 5)) 376 17 ((m 376 17) + 1)) 400 ((0 + (m 388 0)).toNat) (mq6613 376 4)) = mu mq6613 := mu_fr ((yup_na (by decide)).trans ((yup_nk (by decide)).trans ((yup_na (by decide)).trans (yup_na (by decide))))) ((yup_na (by decide)).trans ((yup_nk (by decide)).trans ((yup_na (by decide)).trans (yup_na (by decide))))) ((yup_na (by decide)).trans ((yup_nk (by decide)).trans ((yup_na (by decide)).trans (yup_na (by decide)))))
        refine y_callIB 79 [.ref 376, yI 1, yI v, yI (m 388 0), yI 0] [] c135_76 rfl rfl rfl rfl rfl (ycanO km127 ko376) (t127_0 hT6632 (by omega) (by omega) (by omega) (by omega) (by omega) (by omega)) (fun rq6634 mq6634 nq6634 hq6634 => ?_)
        obtain ⟨rfl, hTq6634, hFq6634, hq6634, hE⟩ := hq6634
        unfold EM at hE
        rw [show (yup (yup (yup (yup mq6613 381 ((m 376 17).toNat) (mq6613 376 4)) 382 ((m 376 17).toNat) (mq6613 376 5)) 376 17 ((m 376 17) + 1)) 400 ((0 + (m 388 0)).toNat) (mq6613 376 4)) 390 0 = m 390 0 from ((yup_na (by decide)).trans ((yup_na (by decide)).trans ((yup_na (by decide)).trans ((yup_na (by decide)).trans (hFq6613 390 0 rfl)))))] at hE
        obtain ⟨k1, k2, k3, k4, k5, k6, k7⟩ := hE
        have k8 : ∀ q, q < 1000 * 0 + 8 * (m 390 0).toNat ∨ 1000 * 0 + 8 * (m 390 0).toNat + 8 ≤ q → mq6634 403 q = m 403 q := fun q hq => (k7 q hq).trans (((yup_na (by decide)).trans ((yup_na (by decide)).trans ((yup_na (by decide)).trans ((yup_na (by decide)).trans (hFq6613 403 q rfl))))))
        have x1q6634 : mq6634 376 1 = m 376 1 := ((hFq6634 376 1 rfl).trans ((yup_na (by decide)).trans ((yup_nk (by decide)).trans ((yup_na (by decide)).trans ((yup_na (by decide)).trans (hFq6613 376 1 rfl))))))
        have hF6649 := hF6633.tr hFq6634 wEm0_wSt0
        refine y_istore 80 c135_79 rfl rfl ?_
        refine y_aload 81 c135_80 rfl rfl rfl ?_
        refine y_getR 84 c135_81 rfl kf376_25 ?_
        refine y_iload 85 c135_84 rfl rfl ?_
        refine y_dup2 86 c135_85 rfl ⟨rfl, rfl⟩ ?_
        refine y_iaX 87 (m 388 0) c135_86 rfl ka388 (by decide) ((hFq6634 388 0 rfl).trans ((yup_na (by decide)).trans ((yup_na (by decide)).trans ((yup_na (by decide)).trans ((yup_na (by decide)).trans (hFq6613 388 0 rfl)))))) ?_
        refine y_iconst 88 c135_87 rfl ?_
        refine y_iadd 89 c135_88 rfl ?_
        refine y_iastore 90 c135_89 rfl ka388 (by omega) (y_nar0 _) ?_
        have hT6650 := hTq6634.up 388 ((0 : Int).toNat) ((m 388 0) + 1) 0 12 rfl (by omega)
        have hF6651 := hF6649.up 388 ((0 : Int).toNat) ((m 388 0) + 1) rfl
        refine y_aload 91 c135_90 rfl rfl rfl ?_
        have es6653 : (yup mq6634 388 ((0 : Int).toNat) ((m 388 0) + 1)) 376 1 = m 376 1 := ((yup_na (by decide)).trans ((hFq6634 376 1 rfl).trans ((yup_na (by decide)).trans ((yup_nk (by decide)).trans ((yup_na (by decide)).trans ((yup_na (by decide)).trans (hFq6613 376 1 rfl)))))))
        have es6654 : (yup mq6634 388 ((0 : Int).toNat) ((m 388 0) + 1)) 376 3 = mq6613 376 3 := ((yup_na (by decide)).trans ((hFq6634 376 3 rfl).trans ((yup_na (by decide)).trans ((yup_nk (by decide)).trans ((yup_na (by decide)).trans (yup_na (by decide)))))))
        have es6655 : (yup mq6634 388 ((0 : Int).toNat) ((m 388 0) + 1)) 376 6 = mq6613 376 6 := ((yup_na (by decide)).trans ((hFq6634 376 6 rfl).trans ((yup_na (by decide)).trans ((yup_nk (by decide)).trans ((yup_na (by decide)).trans (yup_na (by decide)))))))
        have es6656 : (yup mq6634 388 ((0 : Int).toNat) ((m 388 0) + 1)) 376 8 = mq6613 376 8 := ((yup_na (by decide)).trans ((hFq6634 376 8 rfl).trans ((yup_na (by decide)).trans ((yup_nk (by decide)).trans ((yup_na (by decide)).trans (yup_na (by decide)))))))
        have em6657 : mu (yup mq6634 388 ((0 : Int).toNat) ((m 388 0) + 1)) = mu mq6613 := mu_fr ((yup_na (by decide)).trans ((hFq6634 376 1 rfl).trans ((yup_na (by decide)).trans ((yup_nk (by decide)).trans ((yup_na (by decide)).trans (yup_na (by decide))))))) ((yup_na (by decide)).trans ((hFq6634 376 3 rfl).trans ((yup_na (by decide)).trans ((yup_nk (by decide)).trans ((yup_na (by decide)).trans (yup_na (by decide))))))) ((yup_na (by decide)).trans ((hFq6634 376 6 rfl).trans ((yup_na (by decide)).trans ((yup_nk (by decide)).trans ((yup_na (by decide)).trans (yup_na (by decide)))))))
        refine y_callUB 94 [.ref 376] [] c135_91 rfl rfl rfl rfl rfl (ycanO km99 ko376) (t99u hT6650 (by omega)) (fun mq6652 nq6652 hq6652 => ?_)
        obtain ⟨rfl, hTq6652, hFq6652, hq6652⟩ := hq6652
        have x1q6652 : mq6652 376 1 = m 376 1 := ((hFq6652 376 1 rfl).trans ((yup_na (by decide)).trans ((hFq6634 376 1 rfl).trans ((yup_na (by decide)).trans ((yup_nk (by decide)).trans ((yup_na (by decide)).trans ((yup_na (by decide)).trans (hFq6613 376 1 rfl))))))))
        have hF6658 := hF6651.tr hFq6652 wNx_wSt0
        have es6659 : mq6652 376 1 = m 376 1 := ((hFq6652 376 1 rfl).trans ((yup_na (by decide)).trans ((hFq6634 376 1 rfl).trans ((yup_na (by decide)).trans ((yup_nk (by decide)).trans ((yup_na (by decide)).trans ((yup_na (by decide)).trans (hFq6613 376 1 rfl))))))))
        have tb6660 := hTq6652.atp 376 3 0 3 rfl
        have tb6661 := hTq6652.atp 376 6 0 320 rfl
        have es6662 : mq6652 376 8 = mq6613 376 8 := ((hFq6652 376 8 rfl).trans ((yup_na (by decide)).trans ((hFq6634 376 8 rfl).trans ((yup_na (by decide)).trans ((yup_nk (by decide)).trans ((yup_na (by decide)).trans (yup_na (by decide))))))))
        have es6663 : mq6652 390 0 = mq6634 390 0 := ((hFq6652 390 0 rfl).trans (yup_na (by decide)))
        have tb6664 := hTq6634.atp 390 0 0 125 rfl
        have es6665 : mq6652 386 0 = m 386 0 := ((hFq6652 386 0 rfl).trans ((yup_na (by decide)).trans ((hFq6634 386 0 rfl).trans ((yup_na (by decide)).trans ((yup_na (by decide)).trans ((yup_na (by decide)).trans ((yup_na (by decide)).trans (hFq6613 386 0 rfl))))))))
        have es6666 : mq6652 387 0 = m 387 0 := ((hFq6652 387 0 rfl).trans ((yup_na (by decide)).trans ((hFq6634 387 0 rfl).trans ((yup_na (by decide)).trans ((yup_na (by decide)).trans ((yup_na (by decide)).trans ((yup_na (by decide)).trans (hFq6613 387 0 rfl))))))))
        have es6667 : mq6652 388 0 = (m 388 0) + 1 := ((hFq6652 388 0 rfl).trans (yup_eq _ _ _ _))
        have es6668 : mq6652 376 17 = (m 376 17) + 1 := ((hFq6652 376 17 rfl).trans ((yup_na (by decide)).trans ((hFq6634 376 17 rfl).trans ((yup_na (by decide)).trans (yup_eq _ _ _ _)))))
        have es6669 : mq6652 384 0 = m 384 0 := ((hFq6652 384 0 rfl).trans ((yup_na (by decide)).trans ((hFq6634 384 0 rfl).trans ((yup_na (by decide)).trans ((yup_na (by decide)).trans ((yup_na (by decide)).trans ((yup_na (by decide)).trans (hFq6613 384 0 rfl))))))))
        have f0 : mq6652 403 (1000 * 0 + 8 * (m 390 0).toNat) = _ := (((hFq6652 403 _ rfl).trans (yup_na (by decide)))).trans k2
        have f1 : mq6652 403 (1000 * 0 + 8 * (m 390 0).toNat + 1) = _ := (((hFq6652 403 _ rfl).trans (yup_na (by decide)))).trans k3
        have f2 : mq6652 403 (1000 * 0 + 8 * (m 390 0).toNat + 2) = _ := (((hFq6652 403 _ rfl).trans (yup_na (by decide)))).trans k4
        have f3 : mq6652 403 (1000 * 0 + 8 * (m 390 0).toNat + 3) = _ := (((hFq6652 403 _ rfl).trans (yup_na (by decide)))).trans k5
        have f4 : mq6652 403 (1000 * 0 + 8 * (m 390 0).toNat + 4) = _ := (((hFq6652 403 _ rfl).trans (yup_na (by decide)))).trans k6
        have hw : OW mq6652 (1000 * 0 + 8 * (m 390 0).toNat) := by unfold OW; omega
        have hx : XS 0 mq6652 := XS.add hX (by omega) (fun a q ha => hF6658 a q (wSt0_Y a q ha)) (fun q hq => (((hFq6652 403 q rfl).trans (yup_na (by decide)))).trans (k8 q hq)) hw (by omega) (by omega) (by omega) (by omega) (by omega) (by omega) (by omega) (fun c hc => by rw [show mq6652 401 (8 * 0 + c) = m 401 (8 * 0 + c) from ((hFq6652 401 _ rfl).trans ((yup_na (by decide)).trans ((hFq6634 401 _ rfl).trans ((yup_na (by decide)).trans ((yup_na (by decide)).trans ((yup_na (by decide)).trans ((yup_na (by decide)).trans (hFq6613 401 _ rfl))))))))]; exact hCV c (by omega)) (by omega) (by omega)
        exact y_retU c135_94 ⟨rfl, hTq6652, hF6658, by omega, by first | exact Or.inl (by omega) | exact Or.inr ⟨by omega, by omega, by omega, hx⟩⟩
      · refine y_aload 37 c135_36 rfl rfl rfl ?_
        have es6671 : mq6613 376 1 = m 376 1 := (hFq6613 376 1 rfl)
        have tb6672 := hTq6613.atp 376 6 0 320 rfl
        have tb6673 := hTq6613.atp 376 8 ((-1)) 320 rfl
        refine y_callUB 40 [.ref 376] [] c135_37 rfl rfl rfl rfl rfl (ycanO km104 ko376) (t104 hTq6613) (fun mq6670 nq6670 hq6670 => ?_)
        obtain ⟨rfl, hTq6670, hFq6670, hq6670⟩ := hq6670
        have x1q6670 : mq6670 376 1 = m 376 1 := ((hFq6670 376 1 rfl).trans (hFq6613 376 1 rfl))
        have hF6674 := hF6618.tr hFq6670 wWr_wSt0
        have es6675 : mq6670 376 1 = m 376 1 := ((hFq6670 376 1 rfl).trans (hFq6613 376 1 rfl))
        have es6676 : mq6670 376 3 = mq6613 376 3 := (hFq6670 376 3 rfl)
        have es6677 : mq6670 376 6 = mq6613 376 6 := (hFq6670 376 6 rfl)
        have tb6678 := hTq6670.atp 376 8 ((-1)) 320 rfl
        exact y_retU c135_40 ⟨rfl, hTq6670, hF6674, by omega, Or.inl (by omega)⟩
    · have es6679 : mq6613 376 1 = m 376 1 := (hFq6613 376 1 rfl)
      have tb6680 := hTq6613.atp 376 3 0 3 rfl
      have tb6681 := hTq6613.atp 376 6 0 320 rfl
      have tb6682 := hTq6613.atp 376 8 ((-1)) 320 rfl
      exact y_retU c135_28 ⟨rfl, hTq6613, hF6618, by omega, Or.inl (by omega)⟩
set_option maxRecDepth 100000 in
theorem t136_0 {L : Nat} {xs : Nat → Int32} {d nn : Nat} {m : yM} {v : Int} (hT : Ty gT m) (hl : m 376 6 ≤ m 376 1) (hn : m 376 18 = 1) (h8 : m 376 8 < 0) (hX : XS 0 m) (h84 : 1 ≤ m 384 0) (h90 : m 390 0 ≤ 100) (hv : 0 ≤ v ∧ v ≤ 47) : YC (gZ L xs) (d + 5) 136 [.ref 376, yI v] m nn (qU (fun m' n' => n' = nn ∧ Ty gT m' ∧ Fr wSt0 m m' ∧ m' 376 6 ≤ m' 376 1 ∧ (0 ≤ m' 376 8 ∨ (m' 376 8 < 0 ∧ mu m' ≤ mu m ∧ m' 390 0 = m 390 0 + 1 ∧ XS 0 m')))) := by
  have tb8 := hT.atp 376 8 (-1) 320 rfl
  have tc384 := hT.atp 384 0 0 10 rfl
  have tc386 := hT.atp 386 0 0 12 rfl
  have tc387 := hT.atp 387 0 0 8 rfl
  have tc388 := hT.atp 388 0 0 12 rfl
  have tc389 := hT.atp 389 0 0 48 rfl
  have tc390 := hT.atp 390 0 0 125 rfl
  have hsc := hX.2.2.2.2.2
  have hCV := hX.2.2.2.2.2.2.2.1
  refine YC.mkB [some (.ref 376), some (yI v), none, none, none] kn136 rfl rfl ?_
  have hF : Fr wSt0 m m := Fr.rf
  refine y_aload 1 c136_0 rfl rfl rfl ?_
  have tb6684 := hT.atp 376 18 0 1 rfl
  refine y_callP 4 [.ref 376] [] c136_1 rfl rfl rfl rfl rfl (ycanO km96 ko376) (t96_0 (by omega)) (fun r6683 hr6683 => ?_)
  subst hr6683
  refine y_istore 5 c136_4 rfl rfl ?_
  refine y_aload 6 c136_5 rfl rfl rfl ?_
  refine y_aload 7 c136_6 rfl rfl rfl ?_
  refine y_getR 10 c136_7 rfl kf376_24 ?_
  refine y_iload 11 c136_10 rfl rfl ?_
  refine y_iaX 12 (m 387 0) c136_11 rfl ka387 (by decide) rfl ?_
  refine y_iconst 14 c136_12 rfl ?_
  refine y_icmp 21 17 c136_14 rfl rfl (yc_ge (by omega) (by omega)) (fun hb6685 => ?_) (fun hb6685 => ?_)
  · refine y_iconst 22 c136_21 rfl ?_
    have tb6687 := hT.atp 376 1 0 320 rfl
    have tb6688 := hT.atp 376 3 0 3 rfl
    have tb6689 := hT.atp 376 6 0 320 rfl
    have tb6690 := hT.atp 376 8 ((-1)) 320 rfl
    refine y_callIB 25 [.ref 376, yI 0] [] c136_22 rfl rfl rfl rfl rfl (ycanO km105 ko376) (t105 (g := 0) hT (by omega) (by omega)) (fun rq6686 mq6686 nq6686 hq6686 => ?_)
    obtain ⟨rfl, hTq6686, hFq6686, hq6686⟩ := hq6686
    have x1q6686 : mq6686 376 1 = m 376 1 := (hFq6686 376 1 rfl)
    have hF6691 := hF.tr hFq6686 wNw_wSt0
    refine y_if 29 28 c136_25 rfl rfl (yz_ne (by omega)) (fun hb6692 => ?_) (fun hb6692 => ?_)
    · refine y_aload 30 c136_29 rfl rfl rfl ?_
      have tb6693 := hTq6686.atp 376 3 0 3 rfl
      refine y_callP 33 [.ref 376] [] c136_30 rfl rfl rfl rfl rfl (ycanO km115 ko376) (t115 hTq6686) (fun r6694 hr6694 => ?_)
      refine y_if 41 36 c136_33 rfl rfl (yz_ne (by omega)) (fun hb6695 => ?_) (fun hb6695 => ?_)
      · refine y_aload 42 c136_41 rfl rfl rfl ?_
        refine y_iconst 43 c136_42 rfl ?_
        refine y_inlB 46 [.ref 376, yI 1] [] [some (.ref 376), some (yI 1)] c136_43 rfl rfl rfl rfl rfl (ycanO km134 ko376) kn134 rfl rfl ?_
        refine y_aload 1 c134_0 rfl rfl rfl ?_
        refine y_getR 4 c134_1 rfl kf376_15 ?_
        refine y_aload 5 c134_4 rfl rfl rfl ?_
        refine y_getX 8 (m 376 17) c134_5 rfl kf376_17 (hFq6686 376 17 rfl) ?_
        have tb6696 := hT.atp 376 17 0 20 rfl
        refine y_aload 9 c134_8 rfl rfl rfl ?_
        refine y_getX 12 (mq6686 376 4) c134_9 rfl kf376_4 rfl ?_
        have tb6697 := hTq6686.atp 376 4 ((-2147483648)) 2147483647 rfl
        refine y_iastore 13 c134_12 rfl ka381 (by omega) (y_nar0 _) ?_
        have hT6698 := hTq6686.up 381 ((m 376 17).toNat) (mq6686 376 4) ((-2147483648)) 2147483647 rfl (by omega)
        have hF6699 := hF6691.up 381 ((m 376 17).toNat) (mq6686 376 4) rfl
        refine y_aload 14 c134_13 rfl rfl rfl ?_
        refine y_getR 17 c134_14 rfl kf376_16 ?_
        refine y_aload 18 c134_17 rfl rfl rfl ?_
        refine y_getX 21 (m 376 17) c134_18 rfl kf376_17 ((yup_na (by decide)).trans (hFq6686 376 17 rfl)) ?_
        refine y_aload 22 c134_21 rfl rfl rfl ?_
        refine y_getX 25 (mq6686 376 5) c134_22 rfl kf376_5 rfl ?_
        have tb6700 := hTq6686.atp 376 5 0 320 rfl
        refine y_iastore 26 c134_25 rfl ka382 (by omega) (y_nar0 _) ?_
        have hT6701 := hT6698.up 382 ((m 376 17).toNat) (mq6686 376 5) 0 320 rfl (by omega)
        have hF6702 := hF6699.up 382 ((m 376 17).toNat) (mq6686 376 5) rfl
        refine y_aload 27 c134_26 rfl rfl rfl ?_
        refine y_dup 28 c134_27 rfl rfl ?_
        refine y_getX 31 (m 376 17) c134_28 rfl kf376_17 ((yup_na (by decide)).trans ((yup_na (by decide)).trans (hFq6686 376 17 rfl))) ?_
        refine y_iconst 32 c134_31 rfl ?_
        refine y_iadd 33 c134_32 rfl ?_
        refine y_putI 36 c134_33 rfl kf376_17 (y_fit0 _) ?_
        have hT6703 := hT6701.up 376 17 ((m 376 17) + 1) 0 20 rfl (by omega)
        have hF6704 := hF6702.up 376 17 ((m 376 17) + 1) rfl
        refine y_returnK c134_36 ?_
        refine y_aload 47 c136_46 rfl rfl rfl ?_
        refine y_getR 50 c136_47 rfl kf376_24 ?_
        refine y_iload 51 c136_50 rfl rfl ?_
        refine y_iaX 52 (m 387 0) c136_51 rfl ka387 (by decide) ((yup_na (by decide)).trans ((yup_na (by decide)).trans ((yup_na (by decide)).trans (hFq6686 387 0 rfl)))) ?_
        refine y_istore 53 c136_52 rfl rfl ?_
        refine y_aload 54 c136_53 rfl rfl rfl ?_
        refine y_getR 57 c136_54 rfl kf376_39 ?_
        refine y_iconst 59 c136_57 rfl ?_
        refine y_iload 60 c136_59 rfl rfl ?_
        refine y_imul 61 c136_60 rfl ?_
        refine y_top 0 (by decide) ?_
        refine y_iload 62 c136_61 rfl rfl ?_
        refine y_iadd 63 c136_62 rfl ?_
        refine y_aload 64 c136_63 rfl rfl rfl ?_
        refine y_getX 67 (mq6686 376 4) c136_64 rfl kf376_4 rfl ?_
        refine y_iastore 68 c136_67 rfl ka402 (by omega) (y_nar0 _) ?_
        have hT6705 := hT6703.up 402 ((0 + (m 387 0)).toNat) (mq6686 376 4) ((-2147483648)) 2147483647 rfl (by omega)
        have hF6706 := hF6704.up 402 ((0 + (m 387 0)).toNat) (mq6686 376 4) (wSt0_402 (by omega))
        refine y_aload 69 c136_68 rfl rfl rfl ?_
        refine y_getR 72 c136_69 rfl kf376_24 ?_
        refine y_iload 73 c136_72 rfl rfl ?_
        refine y_dup2 74 c136_73 rfl ⟨rfl, rfl⟩ ?_
        refine y_iaX 75 (m 387 0) c136_74 rfl ka387 (by decide) ((yup_na (by decide)).trans ((yup_na (by decide)).trans ((yup_na (by decide)).trans ((yup_na (by decide)).trans (hFq6686 387 0 rfl))))) ?_
        refine y_iconst 76 c136_75 rfl ?_
        refine y_iadd 77 c136_76 rfl ?_
        refine y_iastore 78 c136_77 rfl ka387 (by omega) (y_nar0 _) ?_
        have hT6707 := hT6705.up 387 ((0 : Int).toNat) ((m 387 0) + 1) 0 8 rfl (by omega)
        have hF6708 := hF6706.up 387 ((0 : Int).toNat) ((m 387 0) + 1) rfl
        refine y_aload 79 c136_78 rfl rfl rfl ?_
        have es6710 : (yup (yup (yup (yup (yup mq6686 381 ((m 376 17).toNat) (mq6686 376 4)) 382 ((m 376 17).toNat) (mq6686 376 5)) 376 17 ((m 376 17) + 1)) 402 ((0 + (m 387 0)).toNat) (mq6686 376 4)) 387 ((0 : Int).toNat) ((m 387 0) + 1)) 376 1 = m 376 1 := ((yup_na (by decide)).trans ((yup_na (by decide)).trans ((yup_nk (by decide)).trans ((yup_na (by decide)).trans ((yup_na (by decide)).trans (hFq6686 376 1 rfl))))))
        have es6711 : (yup (yup (yup (yup (yup mq6686 381 ((m 376 17).toNat) (mq6686 376 4)) 382 ((m 376 17).toNat) (mq6686 376 5)) 376 17 ((m 376 17) + 1)) 402 ((0 + (m 387 0)).toNat) (mq6686 376 4)) 387 ((0 : Int).toNat) ((m 387 0) + 1)) 376 3 = mq6686 376 3 := rfl
        have es6712 : (yup (yup (yup (yup (yup mq6686 381 ((m 376 17).toNat) (mq6686 376 4)) 382 ((m 376 17).toNat) (mq6686 376 5)) 376 17 ((m 376 17) + 1)) 402 ((0 + (m 387 0)).toNat) (mq6686 376 4)) 387 ((0 : Int).toNat) ((m 387 0) + 1)) 376 6 = mq6686 376 6 := rfl
        have tb6713 := hTq6686.atp 376 6 0 320 rfl
        have es6714 : (yup (yup (yup (yup (yup mq6686 381 ((m 376 17).toNat) (mq6686 376 4)) 382 ((m 376 17).toNat) (mq6686 376 5)) 376 17 ((m 376 17) + 1)) 402 ((0 + (m 387 0)).toNat) (mq6686 376 4)) 387 ((0 : Int).toNat) ((m 387 0) + 1)) 376 8 = mq6686 376 8 := rfl
        have tb6715 := hTq6686.atp 376 8 ((-1)) 320 rfl
        have em6716 : mu (yup (yup (yup (yup (yup mq6686 381 ((m 376 17).toNat) (mq6686 376 4)) 382 ((m 376 17).toNat) (mq6686 376 5)) 376 17 ((m 376 17) + 1)) 402 ((0 + (m 387 0)).toNat) (mq6686 376 4)) 387 ((0 : Int).toNat) ((m 387 0) + 1)) = mu mq6686 := mu_fr ((yup_na (by decide)).trans ((yup_na (by decide)).trans ((yup_nk (by decide)).trans ((yup_na (by decide)).trans (yup_na (by decide)))))) ((yup_na (by decide)).trans ((yup_na (by decide)).trans ((yup_nk (by decide)).trans ((yup_na (by decide)).trans (yup_na (by decide)))))) ((yup_na (by decide)).trans ((yup_na (by decide)).trans ((yup_nk (by decide)).trans ((yup_na (by decide)).trans (yup_na (by decide))))))
        refine y_callUB 82 [.ref 376] [] c136_79 rfl rfl rfl rfl rfl (ycanO km99 ko376) (t99u hT6707 (by omega)) (fun mq6709 nq6709 hq6709 => ?_)
        obtain ⟨rfl, hTq6709, hFq6709, hq6709⟩ := hq6709
        have x1q6709 : mq6709 376 1 = m 376 1 := ((hFq6709 376 1 rfl).trans ((yup_na (by decide)).trans ((yup_na (by decide)).trans ((yup_nk (by decide)).trans ((yup_na (by decide)).trans ((yup_na (by decide)).trans (hFq6686 376 1 rfl)))))))
        have hF6717 := hF6708.tr hFq6709 wNx_wSt0
        refine y_aload 83 c136_82 rfl rfl rfl ?_
        refine y_iconst 85 c136_83 rfl ?_
        have es6719 : mq6709 376 1 = m 376 1 := ((hFq6709 376 1 rfl).trans ((yup_na (by decide)).trans ((yup_na (by decide)).trans ((yup_nk (by decide)).trans ((yup_na (by decide)).trans ((yup_na (by decide)).trans (hFq6686 376 1 rfl)))))))
        have tb6720 := hTq6709.atp 376 3 0 3 rfl
        have tb6721 := hTq6709.atp 376 6 0 320 rfl
        have es6722 : mq6709 376 8 = mq6686 376 8 := ((hFq6709 376 8 rfl).trans ((yup_na (by decide)).trans ((yup_na (by decide)).trans ((yup_nk (by decide)).trans ((yup_na (by decide)).trans (yup_na (by decide)))))))
        refine y_callIB 88 [.ref 376, yI 41] [] c136_85 rfl rfl rfl rfl rfl (ycanO km118 ko376) (t118 hTq6709 (by omega) (by omega)) (fun rq6718 mq6718 nq6718 hq6718 => ?_)
        obtain ⟨rfl, hTq6718, hFq6718, hq6718⟩ := hq6718
        have x1q6718 : mq6718 376 1 = m 376 1 := ((hFq6718 376 1 rfl).trans ((hFq6709 376 1 rfl).trans ((yup_na (by decide)).trans ((yup_na (by decide)).trans ((yup_nk (by decide)).trans ((yup_na (by decide)).trans ((yup_na (by decide)).trans (hFq6686 376 1 rfl))))))))
        have hF6723 := hF6717.tr hFq6718 wNw_wSt0
        refine y_if 92 91 c136_88 rfl rfl (yz_ne (by omega)) (fun hb6724 => ?_) (fun hb6724 => ?_)
        · refine y_aload 93 c136_92 rfl rfl rfl ?_
          have es6726 : mq6718 376 1 = m 376 1 := ((hFq6718 376 1 rfl).trans ((hFq6709 376 1 rfl).trans ((yup_na (by decide)).trans ((yup_na (by decide)).trans ((yup_nk (by decide)).trans ((yup_na (by decide)).trans ((yup_na (by decide)).trans (hFq6686 376 1 rfl))))))))
          have tb6727 := hTq6718.atp 376 3 0 3 rfl
          have tb6728 := hTq6718.atp 376 6 0 320 rfl
          have tb6729 := hTq6718.atp 376 8 ((-1)) 320 rfl
          have es6730 : mq6718 376 18 = m 376 18 := ((hFq6718 376 18 rfl).trans ((hFq6709 376 18 rfl).trans ((yup_na (by decide)).trans ((yup_na (by decide)).trans ((yup_nk (by decide)).trans ((yup_na (by decide)).trans ((yup_na (by decide)).trans (hFq6686 376 18 rfl))))))))
          refine y_callIB 96 [.ref 376] [] c136_93 rfl rfl rfl rfl rfl (ycanO km130 ko376) (t130_0 hTq6718 (by omega) (by omega) (by omega)) (fun rq6725 mq6725 nq6725 hq6725 => ?_)
          obtain ⟨rfl, hTq6725, hFq6725, hq6725⟩ := hq6725
          have x1q6725 : mq6725 376 1 = m 376 1 := ((hFq6725 376 1 rfl).trans ((hFq6718 376 1 rfl).trans ((hFq6709 376 1 rfl).trans ((yup_na (by decide)).trans ((yup_na (by decide)).trans ((yup_nk (by decide)).trans ((yup_na (by decide)).trans ((yup_na (by decide)).trans (hFq6686 376 1 rfl)))))))))
          have hF6731 := hF6723.tr hFq6725 wVr0_wSt0
          refine y_istore 98 c136_96 rfl rfl ?_
          refine y_aload 99 c136_98 rfl rfl rfl ?_
          refine y_getR 102 c136_99 rfl kf376_38 ?_
          refine y_iconst 104 c136_102 rfl ?_
          refine y_iload 105 c136_104 rfl rfl ?_
          refine y_imul 106 c136_105 rfl ?_
          refine y_top 0 (by decide) ?_
          refine y_iload 107 c136_106 rfl rfl ?_
          refine y_iadd 108 c136_107 rfl ?_
          refine y_iload 110 c136_108 rfl rfl ?_
          refine y_iastore 111 c136_110 rfl ka401 (by omega) (y_nar0 _) ?_
          have hT6732 := hTq6725.up 401 ((0 + (m 387 0)).toNat) rq6725 ((-1)) 47 rfl (by omega)
          have hF6733 := hF6731.up 401 ((0 + (m 387 0)).toNat) rq6725 (wSt0_401 (by omega))
          refine y_aload 112 c136_111 rfl rfl rfl ?_
          refine y_getX 115 (mq6725 376 8) c136_112 rfl kf376_8 rfl ?_
          have tb6734 := hTq6725.atp 376 8 ((-1)) 320 rfl
          refine y_if 129 118 c136_115 rfl rfl (yz_ge (by omega)) (fun hb6735 => ?_) (fun hb6735 => ?_)
          · have es6736 : (yup mq6725 401 ((0 + (m 387 0)).toNat) rq6725) 376 1 = m 376 1 := ((yup_na (by decide)).trans ((hFq6725 376 1 rfl).trans ((hFq6718 376 1 rfl).trans ((hFq6709 376 1 rfl).trans ((yup_na (by decide)).trans ((yup_na (by decide)).trans ((yup_nk (by decide)).trans ((yup_na (by decide)).trans ((yup_na (by decide)).trans (hFq6686 376 1 rfl))))))))))
            have es6737 : (yup mq6725 401 ((0 + (m 387 0)).toNat) rq6725) 376 3 = mq6725 376 3 := rfl
            have tb6738 := hTq6725.atp 376 3 0 3 rfl
            have es6739 : (yup mq6725 401 ((0 + (m 387 0)).toNat) rq6725) 376 6 = mq6725 376 6 := rfl
            have tb6740 := hTq6725.atp 376 6 0 320 rfl
            have es6741 : (yup mq6725 401 ((0 + (m 387 0)).toNat) rq6725) 376 8 = mq6725 376 8 := rfl
            exact y_retU c136_129 ⟨rfl, hT6732, hF6733, by omega, Or.inl (by omega)⟩
          · refine y_aload 119 c136_118 rfl rfl rfl ?_
            refine y_iconst 120 c136_119 rfl ?_
            refine y_iload 121 c136_120 rfl rfl ?_
            refine y_iload 123 c136_121 rfl rfl ?_
            refine y_iload 124 c136_123 rfl rfl ?_
            have es6743 : (yup mq6725 401 ((0 + (m 387 0)).toNat) rq6725) 376 1 = m 376 1 := ((yup_na (by decide)).trans ((hFq6725 376 1 rfl).trans ((hFq6718 376 1 rfl).trans ((hFq6709 376 1 rfl).trans ((yup_na (by decide)).trans ((yup_na (by decide)).trans ((yup_nk (by decide)).trans ((yup_na (by decide)).trans ((yup_na (by decide)).trans (hFq6686 376 1 rfl))))))))))
            have es6744 : (yup mq6725 401 ((0 + (m 387 0)).toNat) rq6725) 376 3 = mq6725 376 3 := rfl
            have tb6745 := hTq6725.atp 376 3 0 3 rfl
            have es6746 : (yup mq6725 401 ((0 + (m 387 0)).toNat) rq6725) 376 6 = mq6725 376 6 := rfl
            have tb6747 := hTq6725.atp 376 6 0 320 rfl
            have es6748 : (yup mq6725 401 ((0 + (m 387 0)).toNat) rq6725) 376 8 = mq6725 376 8 := rfl
            have es6749 : (yup mq6725 401 ((0 + (m 387 0)).toNat) rq6725) 376 18 = m 376 18 := ((yup_na (by decide)).trans ((hFq6725 376 18 rfl).trans ((hFq6718 376 18 rfl).trans ((hFq6709 376 18 rfl).trans ((yup_na (by decide)).trans ((yup_na (by decide)).trans ((yup_nk (by decide)).trans ((yup_na (by decide)).trans ((yup_na (by decide)).trans (hFq6686 376 18 rfl))))))))))
            have es6750 : (yup mq6725 401 ((0 + (m 387 0)).toNat) rq6725) 390 0 = m 390 0 := ((yup_na (by decide)).trans ((hFq6725 390 0 rfl).trans ((hFq6718 390 0 rfl).trans ((hFq6709 390 0 rfl).trans ((yup_na (by decide)).trans ((yup_na (by decide)).trans ((yup_na (by decide)).trans ((yup_na (by decide)).trans ((yup_na (by decide)).trans (hFq6686 390 0 rfl))))))))))
            have es6751 : (yup mq6725 401 ((0 + (m 387 0)).toNat) rq6725) 386 0 = m 386 0 := ((yup_na (by decide)).trans ((hFq6725 386 0 rfl).trans ((hFq6718 386 0 rfl).trans ((hFq6709 386 0 rfl).trans ((yup_na (by decide)).trans ((yup_na (by decide)).trans ((yup_na (by decide)).trans ((yup_na (by decide)).trans ((yup_na (by decide)).trans (hFq6686 386 0 rfl))))))))))
            have es6752 : (yup mq6725 401 ((0 + (m 387 0)).toNat) rq6725) 387 0 = (m 387 0) + 1 := ((yup_na (by decide)).trans ((hFq6725 387 0 rfl).trans ((hFq6718 387 0 rfl).trans ((hFq6709 387 0 rfl).trans (yup_eq _ _ _ _)))))
            have es6753 : (yup mq6725 401 ((0 + (m 387 0)).toNat) rq6725) 388 0 = m 388 0 := ((yup_na (by decide)).trans ((hFq6725 388 0 rfl).trans ((hFq6718 388 0 rfl).trans ((hFq6709 388 0 rfl).trans ((yup_na (by decide)).trans ((yup_na (by decide)).trans ((yup_na (by decide)).trans ((yup_na (by decide)).trans ((yup_na (by decide)).trans (hFq6686 388 0 rfl))))))))))
            have es6754 : (yup mq6725 401 ((0 + (m 387 0)).toNat) rq6725) 376 17 = (m 376 17) + 1 := ((yup_na (by decide)).trans ((hFq6725 376 17 rfl).trans ((hFq6718 376 17 rfl).trans ((hFq6709 376 17 rfl).trans ((yup_na (by decide)).trans ((yup_na (by decide)).trans (yup_eq _ _ _ _)))))))
            have es6755 : (yup mq6725 401 ((0 + (m 387 0)).toNat) rq6725) 384 0 = m 384 0 := ((yup_na (by decide)).trans ((hFq6725 384 0 rfl).trans ((hFq6718 384 0 rfl).trans ((hFq6709 384 0 rfl).trans ((yup_na (by decide)).trans ((yup_na (by decide)).trans ((yup_na (by decide)).trans ((yup_na (by decide)).trans ((yup_na (by decide)).trans (hFq6686 384 0 rfl))))))))))
            have em6756 : mu (yup mq6725 401 ((0 + (m 387 0)).toNat) rq6725) = mu mq6725 := mu_fr (yup_na (by decide)) (yup_na (by decide)) (yup_na (by decide))
            refine y_callIB 127 [.ref 376, yI 3, yI v, yI rq6725, yI (m 387 0)] [] c136_124 rfl rfl rfl rfl rfl (ycanO km127 ko376) (t127_0 hT6732 (by omega) (by omega) (by omega) (by omega) (by omega) (by omega)) (fun rq6742 mq6742 nq6742 hq6742 => ?_)
            obtain ⟨rfl, hTq6742, hFq6742, hq6742, hE⟩ := hq6742
            unfold EM at hE
            rw [show (yup mq6725 401 ((0 + (m 387 0)).toNat) rq6725) 390 0 = m 390 0 from ((yup_na (by decide)).trans ((hFq6725 390 0 rfl).trans ((hFq6718 390 0 rfl).trans ((hFq6709 390 0 rfl).trans ((yup_na (by decide)).trans ((yup_na (by decide)).trans ((yup_na (by decide)).trans ((yup_na (by decide)).trans ((yup_na (by decide)).trans (hFq6686 390 0 rfl))))))))))] at hE
            obtain ⟨k1, k2, k3, k4, k5, k6, k7⟩ := hE
            have k8 : ∀ q, q < 1000 * 0 + 8 * (m 390 0).toNat ∨ 1000 * 0 + 8 * (m 390 0).toNat + 8 ≤ q → mq6742 403 q = m 403 q := fun q hq => (k7 q hq).trans (((yup_na (by decide)).trans ((hFq6725 403 q rfl).trans ((hFq6718 403 q rfl).trans ((hFq6709 403 q rfl).trans ((yup_na (by decide)).trans ((yup_na (by decide)).trans ((yup_na (by decide)).trans ((yup_na (by decide)).trans ((yup_na (by decide)).trans (hFq6686 403 q rfl)))))))))))
            have x1q6742 : mq6742 376 1 = m 376 1 := ((hFq6742 376 1 rfl).trans ((yup_na (by decide)).trans ((hFq6725 376 1 rfl).trans ((hFq6718 376 1 rfl).trans ((hFq6709 376 1 rfl).trans ((yup_na (by decide)).trans ((yup_na (by decide)).trans ((yup_nk (by decide)).trans ((yup_na (by decide)).trans ((yup_na (by decide)).trans (hFq6686 376 1 rfl)))))))))))
            have hF6757 := hF6733.tr hFq6742 wEm0_wSt0
            refine y_istore 129 c136_127 rfl rfl ?_
            have es6758 : mq6742 376 1 = m 376 1 := ((hFq6742 376 1 rfl).trans ((yup_na (by decide)).trans ((hFq6725 376 1 rfl).trans ((hFq6718 376 1 rfl).trans ((hFq6709 376 1 rfl).trans ((yup_na (by decide)).trans ((yup_na (by decide)).trans ((yup_nk (by decide)).trans ((yup_na (by decide)).trans ((yup_na (by decide)).trans (hFq6686 376 1 rfl)))))))))))
            have es6759 : mq6742 376 3 = mq6725 376 3 := ((hFq6742 376 3 rfl).trans (yup_na (by decide)))
            have es6760 : mq6742 376 6 = mq6725 376 6 := ((hFq6742 376 6 rfl).trans (yup_na (by decide)))
            have es6761 : mq6742 376 8 = mq6725 376 8 := ((hFq6742 376 8 rfl).trans (yup_na (by decide)))
            have tb6762 := hTq6742.atp 390 0 0 125 rfl
            have es6763 : mq6742 386 0 = m 386 0 := ((hFq6742 386 0 rfl).trans ((yup_na (by decide)).trans ((hFq6725 386 0 rfl).trans ((hFq6718 386 0 rfl).trans ((hFq6709 386 0 rfl).trans ((yup_na (by decide)).trans ((yup_na (by decide)).trans ((yup_na (by decide)).trans ((yup_na (by decide)).trans ((yup_na (by decide)).trans (hFq6686 386 0 rfl)))))))))))
            have es6764 : mq6742 387 0 = (m 387 0) + 1 := ((hFq6742 387 0 rfl).trans ((yup_na (by decide)).trans ((hFq6725 387 0 rfl).trans ((hFq6718 387 0 rfl).trans ((hFq6709 387 0 rfl).trans (yup_eq _ _ _ _))))))
            have es6765 : mq6742 388 0 = m 388 0 := ((hFq6742 388 0 rfl).trans ((yup_na (by decide)).trans ((hFq6725 388 0 rfl).trans ((hFq6718 388 0 rfl).trans ((hFq6709 388 0 rfl).trans ((yup_na (by decide)).trans ((yup_na (by decide)).trans ((yup_na (by decide)).trans ((yup_na (by decide)).trans ((yup_na (by decide)).trans (hFq6686 388 0 rfl)))))))))))
            have es6766 : mq6742 376 17 = (m 376 17) + 1 := ((hFq6742 376 17 rfl).trans ((yup_na (by decide)).trans ((hFq6725 376 17 rfl).trans ((hFq6718 376 17 rfl).trans ((hFq6709 376 17 rfl).trans ((yup_na (by decide)).trans ((yup_na (by decide)).trans (yup_eq _ _ _ _))))))))
            have es6767 : mq6742 384 0 = m 384 0 := ((hFq6742 384 0 rfl).trans ((yup_na (by decide)).trans ((hFq6725 384 0 rfl).trans ((hFq6718 384 0 rfl).trans ((hFq6709 384 0 rfl).trans ((yup_na (by decide)).trans ((yup_na (by decide)).trans ((yup_na (by decide)).trans ((yup_na (by decide)).trans ((yup_na (by decide)).trans (hFq6686 384 0 rfl)))))))))))
            have em6768 : mu mq6742 = mu mq6725 := mu_fr ((hFq6742 376 1 rfl).trans (yup_na (by decide))) ((hFq6742 376 3 rfl).trans (yup_na (by decide))) ((hFq6742 376 6 rfl).trans (yup_na (by decide)))
            have f0 : mq6742 403 (1000 * 0 + 8 * (m 390 0).toNat) = _ := k2
            have f1 : mq6742 403 (1000 * 0 + 8 * (m 390 0).toNat + 1) = _ := k3
            have f2 : mq6742 403 (1000 * 0 + 8 * (m 390 0).toNat + 2) = _ := k4
            have f3 : mq6742 403 (1000 * 0 + 8 * (m 390 0).toNat + 3) = _ := k5
            have f4 : mq6742 403 (1000 * 0 + 8 * (m 390 0).toNat + 4) = _ := k6
            have hw : OW mq6742 (1000 * 0 + 8 * (m 390 0).toNat) := by unfold OW; omega
            have hx : XS 0 mq6742 := XS.add hX (by omega) (fun a q ha => hF6757 a q (wSt0_Y a q ha)) (fun q hq => k8 q hq) hw (by omega) (by omega) (by omega) (by omega) (by omega) (by omega) (by omega) (fun c hc => by
      by_cases ec : c = (m 387 0).toNat
      · subst ec; rw [show mq6742 401 (8 * 0 + (m 387 0).toNat) = rq6725 from by rw [show 8 * 0 + (m 387 0).toNat = (0 + (m 387 0)).toNat by omega]; exact ((hFq6742 401 _ rfl).trans (yup_eq _ _ _ _))]; omega
      · rw [show mq6742 401 (8 * 0 + c) = m 401 (8 * 0 + c) from ((hFq6742 401 _ rfl).trans ((yup_nk (by omega)).trans ((hFq6725 401 _ rfl).trans ((hFq6718 401 _ rfl).trans ((hFq6709 401 _ rfl).trans ((yup_na (by decide)).trans ((yup_na (by decide)).trans ((yup_na (by decide)).trans ((yup_na (by decide)).trans ((yup_na (by decide)).trans (hFq6686 401 _ rfl)))))))))))]; exact hCV c (by omega)) (by omega) (by omega)
            exact y_retU c136_129 ⟨rfl, hTq6742, hF6757, by omega, by first | exact Or.inl (by omega) | exact Or.inr ⟨by omega, by omega, by omega, hx⟩⟩
        · have es6769 : mq6718 376 1 = m 376 1 := ((hFq6718 376 1 rfl).trans ((hFq6709 376 1 rfl).trans ((yup_na (by decide)).trans ((yup_na (by decide)).trans ((yup_nk (by decide)).trans ((yup_na (by decide)).trans ((yup_na (by decide)).trans (hFq6686 376 1 rfl))))))))
          have tb6770 := hTq6718.atp 376 3 0 3 rfl
          have tb6771 := hTq6718.atp 376 6 0 320 rfl
          have tb6772 := hTq6718.atp 376 8 ((-1)) 320 rfl
          exact y_retU c136_91 ⟨rfl, hTq6718, hF6723, by omega, Or.inl (by omega)⟩
      · refine y_aload 37 c136_36 rfl rfl rfl ?_
        have es6774 : mq6686 376 1 = m 376 1 := (hFq6686 376 1 rfl)
        have tb6775 := hTq6686.atp 376 6 0 320 rfl
        have tb6776 := hTq6686.atp 376 8 ((-1)) 320 rfl
        refine y_callUB 40 [.ref 376] [] c136_37 rfl rfl rfl rfl rfl (ycanO km104 ko376) (t104 hTq6686) (fun mq6773 nq6773 hq6773 => ?_)
        obtain ⟨rfl, hTq6773, hFq6773, hq6773⟩ := hq6773
        have x1q6773 : mq6773 376 1 = m 376 1 := ((hFq6773 376 1 rfl).trans (hFq6686 376 1 rfl))
        have hF6777 := hF6691.tr hFq6773 wWr_wSt0
        have es6778 : mq6773 376 1 = m 376 1 := ((hFq6773 376 1 rfl).trans (hFq6686 376 1 rfl))
        have es6779 : mq6773 376 3 = mq6686 376 3 := (hFq6773 376 3 rfl)
        have es6780 : mq6773 376 6 = mq6686 376 6 := (hFq6773 376 6 rfl)
        have tb6781 := hTq6773.atp 376 8 ((-1)) 320 rfl
        exact y_retU c136_40 ⟨rfl, hTq6773, hF6777, by omega, Or.inl (by omega)⟩
    · have es6782 : mq6686 376 1 = m 376 1 := (hFq6686 376 1 rfl)
      have tb6783 := hTq6686.atp 376 3 0 3 rfl
      have tb6784 := hTq6686.atp 376 6 0 320 rfl
      have tb6785 := hTq6686.atp 376 8 ((-1)) 320 rfl
      exact y_retU c136_28 ⟨rfl, hTq6686, hF6691, by omega, Or.inl (by omega)⟩
  · refine y_iconst 18 c136_17 rfl ?_
    refine y_goto 22 c136_18 rfl ?_
    have tb6787 := hT.atp 376 1 0 320 rfl
    have tb6788 := hT.atp 376 3 0 3 rfl
    have tb6789 := hT.atp 376 6 0 320 rfl
    have tb6790 := hT.atp 376 8 ((-1)) 320 rfl
    refine y_callIB 25 [.ref 376, yI 1] [] c136_22 rfl rfl rfl rfl rfl (ycanO km105 ko376) (t105 (g := 1) hT (by omega) (by omega)) (fun rq6786 mq6786 nq6786 hq6786 => ?_)
    obtain ⟨rfl, hTq6786, hFq6786, hq6786⟩ := hq6786
    have x1q6786 : mq6786 376 1 = m 376 1 := (hFq6786 376 1 rfl)
    have hF6791 := hF.tr hFq6786 wNw_wSt0
    refine y_if 29 28 c136_25 rfl rfl (yz_ne (by omega)) (fun hb6792 => ?_) (fun hb6792 => ?_)
    · refine y_aload 30 c136_29 rfl rfl rfl ?_
      have tb6793 := hTq6786.atp 376 3 0 3 rfl
      refine y_callP 33 [.ref 376] [] c136_30 rfl rfl rfl rfl rfl (ycanO km115 ko376) (t115 hTq6786) (fun r6794 hr6794 => ?_)
      refine y_if 41 36 c136_33 rfl rfl (yz_ne (by omega)) (fun hb6795 => ?_) (fun hb6795 => ?_)
      · refine y_aload 42 c136_41 rfl rfl rfl ?_
        refine y_iconst 43 c136_42 rfl ?_
        refine y_inlB 46 [.ref 376, yI 1] [] [some (.ref 376), some (yI 1)] c136_43 rfl rfl rfl rfl rfl (ycanO km134 ko376) kn134 rfl rfl ?_
        refine y_aload 1 c134_0 rfl rfl rfl ?_
        refine y_getR 4 c134_1 rfl kf376_15 ?_
        refine y_aload 5 c134_4 rfl rfl rfl ?_
        refine y_getX 8 (m 376 17) c134_5 rfl kf376_17 (hFq6786 376 17 rfl) ?_
        have tb6796 := hT.atp 376 17 0 20 rfl
        refine y_aload 9 c134_8 rfl rfl rfl ?_
        refine y_getX 12 (mq6786 376 4) c134_9 rfl kf376_4 rfl ?_
        have tb6797 := hTq6786.atp 376 4 ((-2147483648)) 2147483647 rfl
        refine y_iastore 13 c134_12 rfl ka381 (by omega) (y_nar0 _) ?_
        have hT6798 := hTq6786.up 381 ((m 376 17).toNat) (mq6786 376 4) ((-2147483648)) 2147483647 rfl (by omega)
        have hF6799 := hF6791.up 381 ((m 376 17).toNat) (mq6786 376 4) rfl
        refine y_aload 14 c134_13 rfl rfl rfl ?_
        refine y_getR 17 c134_14 rfl kf376_16 ?_
        refine y_aload 18 c134_17 rfl rfl rfl ?_
        refine y_getX 21 (m 376 17) c134_18 rfl kf376_17 ((yup_na (by decide)).trans (hFq6786 376 17 rfl)) ?_
        refine y_aload 22 c134_21 rfl rfl rfl ?_
        refine y_getX 25 (mq6786 376 5) c134_22 rfl kf376_5 rfl ?_
        have tb6800 := hTq6786.atp 376 5 0 320 rfl
        refine y_iastore 26 c134_25 rfl ka382 (by omega) (y_nar0 _) ?_
        have hT6801 := hT6798.up 382 ((m 376 17).toNat) (mq6786 376 5) 0 320 rfl (by omega)
        have hF6802 := hF6799.up 382 ((m 376 17).toNat) (mq6786 376 5) rfl
        refine y_aload 27 c134_26 rfl rfl rfl ?_
        refine y_dup 28 c134_27 rfl rfl ?_
        refine y_getX 31 (m 376 17) c134_28 rfl kf376_17 ((yup_na (by decide)).trans ((yup_na (by decide)).trans (hFq6786 376 17 rfl))) ?_
        refine y_iconst 32 c134_31 rfl ?_
        refine y_iadd 33 c134_32 rfl ?_
        refine y_putI 36 c134_33 rfl kf376_17 (y_fit0 _) ?_
        have hT6803 := hT6801.up 376 17 ((m 376 17) + 1) 0 20 rfl (by omega)
        have hF6804 := hF6802.up 376 17 ((m 376 17) + 1) rfl
        refine y_returnK c134_36 ?_
        refine y_aload 47 c136_46 rfl rfl rfl ?_
        refine y_getR 50 c136_47 rfl kf376_24 ?_
        refine y_iload 51 c136_50 rfl rfl ?_
        refine y_iaX 52 (m 387 0) c136_51 rfl ka387 (by decide) ((yup_na (by decide)).trans ((yup_na (by decide)).trans ((yup_na (by decide)).trans (hFq6786 387 0 rfl)))) ?_
        refine y_istore 53 c136_52 rfl rfl ?_
        refine y_aload 54 c136_53 rfl rfl rfl ?_
        refine y_getR 57 c136_54 rfl kf376_39 ?_
        refine y_iconst 59 c136_57 rfl ?_
        refine y_iload 60 c136_59 rfl rfl ?_
        refine y_imul 61 c136_60 rfl ?_
        refine y_top 0 (by decide) ?_
        refine y_iload 62 c136_61 rfl rfl ?_
        refine y_iadd 63 c136_62 rfl ?_
        refine y_aload 64 c136_63 rfl rfl rfl ?_
        refine y_getX 67 (mq6786 376 4) c136_64 rfl kf376_4 rfl ?_
        refine y_iastore 68 c136_67 rfl ka402 (by omega) (y_nar0 _) ?_
        have hT6805 := hT6803.up 402 ((0 + (m 387 0)).toNat) (mq6786 376 4) ((-2147483648)) 2147483647 rfl (by omega)
        have hF6806 := hF6804.up 402 ((0 + (m 387 0)).toNat) (mq6786 376 4) (wSt0_402 (by omega))
        refine y_aload 69 c136_68 rfl rfl rfl ?_
        refine y_getR 72 c136_69 rfl kf376_24 ?_
        refine y_iload 73 c136_72 rfl rfl ?_
        refine y_dup2 74 c136_73 rfl ⟨rfl, rfl⟩ ?_
        refine y_iaX 75 (m 387 0) c136_74 rfl ka387 (by decide) ((yup_na (by decide)).trans ((yup_na (by decide)).trans ((yup_na (by decide)).trans ((yup_na (by decide)).trans (hFq6786 387 0 rfl))))) ?_
        refine y_iconst 76 c136_75 rfl ?_
        refine y_iadd 77 c136_76 rfl ?_
        refine y_iastore 78 c136_77 rfl ka387 (by omega) (y_nar0 _) ?_
        have hT6807 := hT6805.up 387 ((0 : Int).toNat) ((m 387 0) + 1) 0 8 rfl (by omega)
        have hF6808 := hF6806.up 387 ((0 : Int).toNat) ((m 387 0) + 1) rfl
        refine y_aload 79 c136_78 rfl rfl rfl ?_
        have es6810 : (yup (yup (yup (yup (yup mq6786 381 ((m 376 17).toNat) (mq6786 376 4)) 382 ((m 376 17).toNat) (mq6786 376 5)) 376 17 ((m 376 17) + 1)) 402 ((0 + (m 387 0)).toNat) (mq6786 376 4)) 387 ((0 : Int).toNat) ((m 387 0) + 1)) 376 1 = m 376 1 := ((yup_na (by decide)).trans ((yup_na (by decide)).trans ((yup_nk (by decide)).trans ((yup_na (by decide)).trans ((yup_na (by decide)).trans (hFq6786 376 1 rfl))))))
        have es6811 : (yup (yup (yup (yup (yup mq6786 381 ((m 376 17).toNat) (mq6786 376 4)) 382 ((m 376 17).toNat) (mq6786 376 5)) 376 17 ((m 376 17) + 1)) 402 ((0 + (m 387 0)).toNat) (mq6786 376 4)) 387 ((0 : Int).toNat) ((m 387 0) + 1)) 376 3 = mq6786 376 3 := rfl
        have es6812 : (yup (yup (yup (yup (yup mq6786 381 ((m 376 17).toNat) (mq6786 376 4)) 382 ((m 376 17).toNat) (mq6786 376 5)) 376 17 ((m 376 17) + 1)) 402 ((0 + (m 387 0)).toNat) (mq6786 376 4)) 387 ((0 : Int).toNat) ((m 387 0) + 1)) 376 6 = mq6786 376 6 := rfl
        have tb6813 := hTq6786.atp 376 6 0 320 rfl
        have es6814 : (yup (yup (yup (yup (yup mq6786 381 ((m 376 17).toNat) (mq6786 376 4)) 382 ((m 376 17).toNat) (mq6786 376 5)) 376 17 ((m 376 17) + 1)) 402 ((0 + (m 387 0)).toNat) (mq6786 376 4)) 387 ((0 : Int).toNat) ((m 387 0) + 1)) 376 8 = mq6786 376 8 := rfl
        have tb6815 := hTq6786.atp 376 8 ((-1)) 320 rfl
        have em6816 : mu (yup (yup (yup (yup (yup mq6786 381 ((m 376 17).toNat) (mq6786 376 4)) 382 ((m 376 17).toNat) (mq6786 376 5)) 376 17 ((m 376 17) + 1)) 402 ((0 + (m 387 0)).toNat) (mq6786 376 4)) 387 ((0 : Int).toNat) ((m 387 0) + 1)) = mu mq6786 := mu_fr ((yup_na (by decide)).trans ((yup_na (by decide)).trans ((yup_nk (by decide)).trans ((yup_na (by decide)).trans (yup_na (by decide)))))) ((yup_na (by decide)).trans ((yup_na (by decide)).trans ((yup_nk (by decide)).trans ((yup_na (by decide)).trans (yup_na (by decide)))))) ((yup_na (by decide)).trans ((yup_na (by decide)).trans ((yup_nk (by decide)).trans ((yup_na (by decide)).trans (yup_na (by decide))))))
        refine y_callUB 82 [.ref 376] [] c136_79 rfl rfl rfl rfl rfl (ycanO km99 ko376) (t99u hT6807 (by omega)) (fun mq6809 nq6809 hq6809 => ?_)
        obtain ⟨rfl, hTq6809, hFq6809, hq6809⟩ := hq6809
        have x1q6809 : mq6809 376 1 = m 376 1 := ((hFq6809 376 1 rfl).trans ((yup_na (by decide)).trans ((yup_na (by decide)).trans ((yup_nk (by decide)).trans ((yup_na (by decide)).trans ((yup_na (by decide)).trans (hFq6786 376 1 rfl)))))))
        have hF6817 := hF6808.tr hFq6809 wNx_wSt0
        refine y_aload 83 c136_82 rfl rfl rfl ?_
        refine y_iconst 85 c136_83 rfl ?_
        have es6819 : mq6809 376 1 = m 376 1 := ((hFq6809 376 1 rfl).trans ((yup_na (by decide)).trans ((yup_na (by decide)).trans ((yup_nk (by decide)).trans ((yup_na (by decide)).trans ((yup_na (by decide)).trans (hFq6786 376 1 rfl)))))))
        have tb6820 := hTq6809.atp 376 3 0 3 rfl
        have tb6821 := hTq6809.atp 376 6 0 320 rfl
        have es6822 : mq6809 376 8 = mq6786 376 8 := ((hFq6809 376 8 rfl).trans ((yup_na (by decide)).trans ((yup_na (by decide)).trans ((yup_nk (by decide)).trans ((yup_na (by decide)).trans (yup_na (by decide)))))))
        refine y_callIB 88 [.ref 376, yI 41] [] c136_85 rfl rfl rfl rfl rfl (ycanO km118 ko376) (t118 hTq6809 (by omega) (by omega)) (fun rq6818 mq6818 nq6818 hq6818 => ?_)
        obtain ⟨rfl, hTq6818, hFq6818, hq6818⟩ := hq6818
        have x1q6818 : mq6818 376 1 = m 376 1 := ((hFq6818 376 1 rfl).trans ((hFq6809 376 1 rfl).trans ((yup_na (by decide)).trans ((yup_na (by decide)).trans ((yup_nk (by decide)).trans ((yup_na (by decide)).trans ((yup_na (by decide)).trans (hFq6786 376 1 rfl))))))))
        have hF6823 := hF6817.tr hFq6818 wNw_wSt0
        refine y_if 92 91 c136_88 rfl rfl (yz_ne (by omega)) (fun hb6824 => ?_) (fun hb6824 => ?_)
        · refine y_aload 93 c136_92 rfl rfl rfl ?_
          have es6826 : mq6818 376 1 = m 376 1 := ((hFq6818 376 1 rfl).trans ((hFq6809 376 1 rfl).trans ((yup_na (by decide)).trans ((yup_na (by decide)).trans ((yup_nk (by decide)).trans ((yup_na (by decide)).trans ((yup_na (by decide)).trans (hFq6786 376 1 rfl))))))))
          have tb6827 := hTq6818.atp 376 3 0 3 rfl
          have tb6828 := hTq6818.atp 376 6 0 320 rfl
          have tb6829 := hTq6818.atp 376 8 ((-1)) 320 rfl
          have es6830 : mq6818 376 18 = m 376 18 := ((hFq6818 376 18 rfl).trans ((hFq6809 376 18 rfl).trans ((yup_na (by decide)).trans ((yup_na (by decide)).trans ((yup_nk (by decide)).trans ((yup_na (by decide)).trans ((yup_na (by decide)).trans (hFq6786 376 18 rfl))))))))
          refine y_callIB 96 [.ref 376] [] c136_93 rfl rfl rfl rfl rfl (ycanO km130 ko376) (t130_0 hTq6818 (by omega) (by omega) (by omega)) (fun rq6825 mq6825 nq6825 hq6825 => ?_)
          obtain ⟨rfl, hTq6825, hFq6825, hq6825⟩ := hq6825
          have x1q6825 : mq6825 376 1 = m 376 1 := ((hFq6825 376 1 rfl).trans ((hFq6818 376 1 rfl).trans ((hFq6809 376 1 rfl).trans ((yup_na (by decide)).trans ((yup_na (by decide)).trans ((yup_nk (by decide)).trans ((yup_na (by decide)).trans ((yup_na (by decide)).trans (hFq6786 376 1 rfl)))))))))
          have hF6831 := hF6823.tr hFq6825 wVr0_wSt0
          refine y_istore 98 c136_96 rfl rfl ?_
          refine y_aload 99 c136_98 rfl rfl rfl ?_
          refine y_getR 102 c136_99 rfl kf376_38 ?_
          refine y_iconst 104 c136_102 rfl ?_
          refine y_iload 105 c136_104 rfl rfl ?_
          refine y_imul 106 c136_105 rfl ?_
          refine y_top 0 (by decide) ?_
          refine y_iload 107 c136_106 rfl rfl ?_
          refine y_iadd 108 c136_107 rfl ?_
          refine y_iload 110 c136_108 rfl rfl ?_
          refine y_iastore 111 c136_110 rfl ka401 (by omega) (y_nar0 _) ?_
          have hT6832 := hTq6825.up 401 ((0 + (m 387 0)).toNat) rq6825 ((-1)) 47 rfl (by omega)
          have hF6833 := hF6831.up 401 ((0 + (m 387 0)).toNat) rq6825 (wSt0_401 (by omega))
          refine y_aload 112 c136_111 rfl rfl rfl ?_
          refine y_getX 115 (mq6825 376 8) c136_112 rfl kf376_8 rfl ?_
          have tb6834 := hTq6825.atp 376 8 ((-1)) 320 rfl
          refine y_if 129 118 c136_115 rfl rfl (yz_ge (by omega)) (fun hb6835 => ?_) (fun hb6835 => ?_)
          · have es6836 : (yup mq6825 401 ((0 + (m 387 0)).toNat) rq6825) 376 1 = m 376 1 := ((yup_na (by decide)).trans ((hFq6825 376 1 rfl).trans ((hFq6818 376 1 rfl).trans ((hFq6809 376 1 rfl).trans ((yup_na (by decide)).trans ((yup_na (by decide)).trans ((yup_nk (by decide)).trans ((yup_na (by decide)).trans ((yup_na (by decide)).trans (hFq6786 376 1 rfl))))))))))
            have es6837 : (yup mq6825 401 ((0 + (m 387 0)).toNat) rq6825) 376 3 = mq6825 376 3 := rfl
            have tb6838 := hTq6825.atp 376 3 0 3 rfl
            have es6839 : (yup mq6825 401 ((0 + (m 387 0)).toNat) rq6825) 376 6 = mq6825 376 6 := rfl
            have tb6840 := hTq6825.atp 376 6 0 320 rfl
            have es6841 : (yup mq6825 401 ((0 + (m 387 0)).toNat) rq6825) 376 8 = mq6825 376 8 := rfl
            exact y_retU c136_129 ⟨rfl, hT6832, hF6833, by omega, Or.inl (by omega)⟩
          · refine y_aload 119 c136_118 rfl rfl rfl ?_
            refine y_iconst 120 c136_119 rfl ?_
            refine y_iload 121 c136_120 rfl rfl ?_
            refine y_iload 123 c136_121 rfl rfl ?_
            refine y_iload 124 c136_123 rfl rfl ?_
            have es6843 : (yup mq6825 401 ((0 + (m 387 0)).toNat) rq6825) 376 1 = m 376 1 := ((yup_na (by decide)).trans ((hFq6825 376 1 rfl).trans ((hFq6818 376 1 rfl).trans ((hFq6809 376 1 rfl).trans ((yup_na (by decide)).trans ((yup_na (by decide)).trans ((yup_nk (by decide)).trans ((yup_na (by decide)).trans ((yup_na (by decide)).trans (hFq6786 376 1 rfl))))))))))
            have es6844 : (yup mq6825 401 ((0 + (m 387 0)).toNat) rq6825) 376 3 = mq6825 376 3 := rfl
            have tb6845 := hTq6825.atp 376 3 0 3 rfl
            have es6846 : (yup mq6825 401 ((0 + (m 387 0)).toNat) rq6825) 376 6 = mq6825 376 6 := rfl
            have tb6847 := hTq6825.atp 376 6 0 320 rfl
            have es6848 : (yup mq6825 401 ((0 + (m 387 0)).toNat) rq6825) 376 8 = mq6825 376 8 := rfl
            have es6849 : (yup mq6825 401 ((0 + (m 387 0)).toNat) rq6825) 376 18 = m 376 18 := ((yup_na (by decide)).trans ((hFq6825 376 18 rfl).trans ((hFq6818 376 18 rfl).trans ((hFq6809 376 18 rfl).trans ((yup_na (by decide)).trans ((yup_na (by decide)).trans ((yup_nk (by decide)).trans ((yup_na (by decide)).trans ((yup_na (by decide)).trans (hFq6786 376 18 rfl))))))))))
            have es6850 : (yup mq6825 401 ((0 + (m 387 0)).toNat) rq6825) 390 0 = m 390 0 := ((yup_na (by decide)).trans ((hFq6825 390 0 rfl).trans ((hFq6818 390 0 rfl).trans ((hFq6809 390 0 rfl).trans ((yup_na (by decide)).trans ((yup_na (by decide)).trans ((yup_na (by decide)).trans ((yup_na (by decide)).trans ((yup_na (by decide)).trans (hFq6786 390 0 rfl))))))))))
            have es6851 : (yup mq6825 401 ((0 + (m 387 0)).toNat) rq6825) 386 0 = m 386 0 := ((yup_na (by decide)).trans ((hFq6825 386 0 rfl).trans ((hFq6818 386 0 rfl).trans ((hFq6809 386 0 rfl).trans ((yup_na (by decide)).trans ((yup_na (by decide)).trans ((yup_na (by decide)).trans ((yup_na (by decide)).trans ((yup_na (by decide)).trans (hFq6786 386 0 rfl))))))))))
            have es6852 : (yup mq6825 401 ((0 + (m 387 0)).toNat) rq6825) 387 0 = (m 387 0) + 1 := ((yup_na (by decide)).trans ((hFq6825 387 0 rfl).trans ((hFq6818 387 0 rfl).trans ((hFq6809 387 0 rfl).trans (yup_eq _ _ _ _)))))
            have es6853 : (yup mq6825 401 ((0 + (m 387 0)).toNat) rq6825) 388 0 = m 388 0 := ((yup_na (by decide)).trans ((hFq6825 388 0 rfl).trans ((hFq6818 388 0 rfl).trans ((hFq6809 388 0 rfl).trans ((yup_na (by decide)).trans ((yup_na (by decide)).trans ((yup_na (by decide)).trans ((yup_na (by decide)).trans ((yup_na (by decide)).trans (hFq6786 388 0 rfl))))))))))
            have es6854 : (yup mq6825 401 ((0 + (m 387 0)).toNat) rq6825) 376 17 = (m 376 17) + 1 := ((yup_na (by decide)).trans ((hFq6825 376 17 rfl).trans ((hFq6818 376 17 rfl).trans ((hFq6809 376 17 rfl).trans ((yup_na (by decide)).trans ((yup_na (by decide)).trans (yup_eq _ _ _ _)))))))
            have es6855 : (yup mq6825 401 ((0 + (m 387 0)).toNat) rq6825) 384 0 = m 384 0 := ((yup_na (by decide)).trans ((hFq6825 384 0 rfl).trans ((hFq6818 384 0 rfl).trans ((hFq6809 384 0 rfl).trans ((yup_na (by decide)).trans ((yup_na (by decide)).trans ((yup_na (by decide)).trans ((yup_na (by decide)).trans ((yup_na (by decide)).trans (hFq6786 384 0 rfl))))))))))
            have em6856 : mu (yup mq6825 401 ((0 + (m 387 0)).toNat) rq6825) = mu mq6825 := mu_fr (yup_na (by decide)) (yup_na (by decide)) (yup_na (by decide))
            refine y_callIB 127 [.ref 376, yI 3, yI v, yI rq6825, yI (m 387 0)] [] c136_124 rfl rfl rfl rfl rfl (ycanO km127 ko376) (t127_0 hT6832 (by omega) (by omega) (by omega) (by omega) (by omega) (by omega)) (fun rq6842 mq6842 nq6842 hq6842 => ?_)
            obtain ⟨rfl, hTq6842, hFq6842, hq6842, hE⟩ := hq6842
            unfold EM at hE
            rw [show (yup mq6825 401 ((0 + (m 387 0)).toNat) rq6825) 390 0 = m 390 0 from ((yup_na (by decide)).trans ((hFq6825 390 0 rfl).trans ((hFq6818 390 0 rfl).trans ((hFq6809 390 0 rfl).trans ((yup_na (by decide)).trans ((yup_na (by decide)).trans ((yup_na (by decide)).trans ((yup_na (by decide)).trans ((yup_na (by decide)).trans (hFq6786 390 0 rfl))))))))))] at hE
            obtain ⟨k1, k2, k3, k4, k5, k6, k7⟩ := hE
            have k8 : ∀ q, q < 1000 * 0 + 8 * (m 390 0).toNat ∨ 1000 * 0 + 8 * (m 390 0).toNat + 8 ≤ q → mq6842 403 q = m 403 q := fun q hq => (k7 q hq).trans (((yup_na (by decide)).trans ((hFq6825 403 q rfl).trans ((hFq6818 403 q rfl).trans ((hFq6809 403 q rfl).trans ((yup_na (by decide)).trans ((yup_na (by decide)).trans ((yup_na (by decide)).trans ((yup_na (by decide)).trans ((yup_na (by decide)).trans (hFq6786 403 q rfl)))))))))))
            have x1q6842 : mq6842 376 1 = m 376 1 := ((hFq6842 376 1 rfl).trans ((yup_na (by decide)).trans ((hFq6825 376 1 rfl).trans ((hFq6818 376 1 rfl).trans ((hFq6809 376 1 rfl).trans ((yup_na (by decide)).trans ((yup_na (by decide)).trans ((yup_nk (by decide)).trans ((yup_na (by decide)).trans ((yup_na (by decide)).trans (hFq6786 376 1 rfl)))))))))))
            have hF6857 := hF6833.tr hFq6842 wEm0_wSt0
            refine y_istore 129 c136_127 rfl rfl ?_
            have es6858 : mq6842 376 1 = m 376 1 := ((hFq6842 376 1 rfl).trans ((yup_na (by decide)).trans ((hFq6825 376 1 rfl).trans ((hFq6818 376 1 rfl).trans ((hFq6809 376 1 rfl).trans ((yup_na (by decide)).trans ((yup_na (by decide)).trans ((yup_nk (by decide)).trans ((yup_na (by decide)).trans ((yup_na (by decide)).trans (hFq6786 376 1 rfl)))))))))))
            have es6859 : mq6842 376 3 = mq6825 376 3 := ((hFq6842 376 3 rfl).trans (yup_na (by decide)))
            have es6860 : mq6842 376 6 = mq6825 376 6 := ((hFq6842 376 6 rfl).trans (yup_na (by decide)))
            have es6861 : mq6842 376 8 = mq6825 376 8 := ((hFq6842 376 8 rfl).trans (yup_na (by decide)))
            have tb6862 := hTq6842.atp 390 0 0 125 rfl
            have es6863 : mq6842 386 0 = m 386 0 := ((hFq6842 386 0 rfl).trans ((yup_na (by decide)).trans ((hFq6825 386 0 rfl).trans ((hFq6818 386 0 rfl).trans ((hFq6809 386 0 rfl).trans ((yup_na (by decide)).trans ((yup_na (by decide)).trans ((yup_na (by decide)).trans ((yup_na (by decide)).trans ((yup_na (by decide)).trans (hFq6786 386 0 rfl)))))))))))
            have es6864 : mq6842 387 0 = (m 387 0) + 1 := ((hFq6842 387 0 rfl).trans ((yup_na (by decide)).trans ((hFq6825 387 0 rfl).trans ((hFq6818 387 0 rfl).trans ((hFq6809 387 0 rfl).trans (yup_eq _ _ _ _))))))
            have es6865 : mq6842 388 0 = m 388 0 := ((hFq6842 388 0 rfl).trans ((yup_na (by decide)).trans ((hFq6825 388 0 rfl).trans ((hFq6818 388 0 rfl).trans ((hFq6809 388 0 rfl).trans ((yup_na (by decide)).trans ((yup_na (by decide)).trans ((yup_na (by decide)).trans ((yup_na (by decide)).trans ((yup_na (by decide)).trans (hFq6786 388 0 rfl)))))))))))
            have es6866 : mq6842 376 17 = (m 376 17) + 1 := ((hFq6842 376 17 rfl).trans ((yup_na (by decide)).trans ((hFq6825 376 17 rfl).trans ((hFq6818 376 17 rfl).trans ((hFq6809 376 17 rfl).trans ((yup_na (by decide)).trans ((yup_na (by decide)).trans (yup_eq _ _ _ _))))))))
            have es6867 : mq6842 384 0 = m 384 0 := ((hFq6842 384 0 rfl).trans ((yup_na (by decide)).trans ((hFq6825 384 0 rfl).trans ((hFq6818 384 0 rfl).trans ((hFq6809 384 0 rfl).trans ((yup_na (by decide)).trans ((yup_na (by decide)).trans ((yup_na (by decide)).trans ((yup_na (by decide)).trans ((yup_na (by decide)).trans (hFq6786 384 0 rfl)))))))))))
            have em6868 : mu mq6842 = mu mq6825 := mu_fr ((hFq6842 376 1 rfl).trans (yup_na (by decide))) ((hFq6842 376 3 rfl).trans (yup_na (by decide))) ((hFq6842 376 6 rfl).trans (yup_na (by decide)))
            have f0 : mq6842 403 (1000 * 0 + 8 * (m 390 0).toNat) = _ := k2
            have f1 : mq6842 403 (1000 * 0 + 8 * (m 390 0).toNat + 1) = _ := k3
            have f2 : mq6842 403 (1000 * 0 + 8 * (m 390 0).toNat + 2) = _ := k4
            have f3 : mq6842 403 (1000 * 0 + 8 * (m 390 0).toNat + 3) = _ := k5
            have f4 : mq6842 403 (1000 * 0 + 8 * (m 390 0).toNat + 4) = _ := k6
            have hw : OW mq6842 (1000 * 0 + 8 * (m 390 0).toNat) := by unfold OW; omega
            have hx : XS 0 mq6842 := XS.add hX (by omega) (fun a q ha => hF6857 a q (wSt0_Y a q ha)) (fun q hq => k8 q hq) hw (by omega) (by omega) (by omega) (by omega) (by omega) (by omega) (by omega) (fun c hc => by
      by_cases ec : c = (m 387 0).toNat
      · subst ec; rw [show mq6842 401 (8 * 0 + (m 387 0).toNat) = rq6825 from by rw [show 8 * 0 + (m 387 0).toNat = (0 + (m 387 0)).toNat by omega]; exact ((hFq6842 401 _ rfl).trans (yup_eq _ _ _ _))]; omega
      · rw [show mq6842 401 (8 * 0 + c) = m 401 (8 * 0 + c) from ((hFq6842 401 _ rfl).trans ((yup_nk (by omega)).trans ((hFq6825 401 _ rfl).trans ((hFq6818 401 _ rfl).trans ((hFq6809 401 _ rfl).trans ((yup_na (by decide)).trans ((yup_na (by decide)).trans ((yup_na (by decide)).trans ((yup_na (by decide)).trans ((yup_na (by decide)).trans (hFq6786 401 _ rfl)))))))))))]; exact hCV c (by omega)) (by omega) (by omega)
            exact y_retU c136_129 ⟨rfl, hTq6842, hF6857, by omega, by first | exact Or.inl (by omega) | exact Or.inr ⟨by omega, by omega, by omega, hx⟩⟩
        · have es6869 : mq6818 376 1 = m 376 1 := ((hFq6818 376 1 rfl).trans ((hFq6809 376 1 rfl).trans ((yup_na (by decide)).trans ((yup_na (by decide)).trans ((yup_nk (by decide)).trans ((yup_na (by decide)).trans ((yup_na (by decide)).trans (hFq6786 376 1 rfl))))))))
          have tb6870 := hTq6818.atp 376 3 0 3 rfl
          have tb6871 := hTq6818.atp 376 6 0 320 rfl
          have tb6872 := hTq6818.atp 376 8 ((-1)) 320 rfl
          exact y_retU c136_91 ⟨rfl, hTq6818, hF6823, by omega, Or.inl (by omega)⟩
      · refine y_aload 37 c136_36 rfl rfl rfl ?_
        have es6874 : mq6786 376 1 = m 376 1 := (hFq6786 376 1 rfl)
        have tb6875 := hTq6786.atp 376 6 0 320 rfl
        have tb6876 := hTq6786.atp 376 8 ((-1)) 320 rfl
        refine y_callUB 40 [.ref 376] [] c136_37 rfl rfl rfl rfl rfl (ycanO km104 ko376) (t104 hTq6786) (fun mq6873 nq6873 hq6873 => ?_)
        obtain ⟨rfl, hTq6873, hFq6873, hq6873⟩ := hq6873
        have x1q6873 : mq6873 376 1 = m 376 1 := ((hFq6873 376 1 rfl).trans (hFq6786 376 1 rfl))
        have hF6877 := hF6791.tr hFq6873 wWr_wSt0
        have es6878 : mq6873 376 1 = m 376 1 := ((hFq6873 376 1 rfl).trans (hFq6786 376 1 rfl))
        have es6879 : mq6873 376 3 = mq6786 376 3 := (hFq6873 376 3 rfl)
        have es6880 : mq6873 376 6 = mq6786 376 6 := (hFq6873 376 6 rfl)
        have tb6881 := hTq6873.atp 376 8 ((-1)) 320 rfl
        exact y_retU c136_40 ⟨rfl, hTq6873, hF6877, by omega, Or.inl (by omega)⟩
    · have es6882 : mq6786 376 1 = m 376 1 := (hFq6786 376 1 rfl)
      have tb6883 := hTq6786.atp 376 3 0 3 rfl
      have tb6884 := hTq6786.atp 376 6 0 320 rfl
      have tb6885 := hTq6786.atp 376 8 ((-1)) 320 rfl
      exact y_retU c136_28 ⟨rfl, hTq6786, hF6791, by omega, Or.inl (by omega)⟩
def wSt1 (a q : Nat) : Bool := (a == 376 && ((decide (3 ≤ q) && decide (q ≤ 8)) || q == 17)) || ((a == 386 || a == 387 || a == 388 || a == 389 || a == 390) && q == 1) || a == 380 || a == 381 || a == 382 || (a == 400 && decide (13 ≤ q ∧ q < 24)) || ((a == 401 || a == 402) && decide (8 ≤ q ∧ q < 16)) || (a == 403 && decide (1000 ≤ q ∧ q < 2000))
theorem wNx_wSt1 : ∀ a q, wNx a q = true → wSt1 a q = true := by
  intro a q h
  simp [wNx] at h
  simp [wSt1]
  omega
theorem wWr_wSt1 : ∀ a q, wWr a q = true → wSt1 a q = true := by
  intro a q h
  simp [wWr] at h
  simp [wSt1]
  omega
theorem wNw_wSt1 : ∀ a q, wNw a q = true → wSt1 a q = true := by
  intro a q h
  simp [wNw] at h
  simp [wSt1]
  omega
theorem wVp1_wSt1 : ∀ a q, wVp1 a q = true → wSt1 a q = true := by
  intro a q h
  simp [wVp1] at h
  simp [wSt1]
  omega
theorem wVr1_wSt1 : ∀ a q, wVr1 a q = true → wSt1 a q = true := by
  intro a q h
  simp [wVr1] at h
  simp [wSt1]
  omega
theorem wEm1_wSt1 : ∀ a q, wEm1 a q = true → wSt1 a q = true := by
  intro a q h
  simp [wEm1] at h
  simp [wSt1]
  omega
theorem wSt1_400 {q : Nat} (h : 13 ≤ q ∧ q < 24) : wSt1 400 q = true := by
  simp [wSt1]
  omega
theorem wSt1_401 {q : Nat} (h : 8 ≤ q ∧ q < 16) : wSt1 401 q = true := by
  simp [wSt1]
  omega
theorem wSt1_402 {q : Nat} (h : 8 ≤ q ∧ q < 16) : wSt1 402 q = true := by
  simp [wSt1]
  omega
theorem wSt1_403 {q : Nat} (h : 1000 ≤ q ∧ q < 2000) : wSt1 403 q = true := by
  simp [wSt1]
  omega
theorem wSt1_Y : ∀ a q, vYs 1 a q = true → wSt1 a q = false := by
  intro a q h
  cases e : wSt1 a q with
  | false => rfl
  | true => simp [wSt1] at e; simp [vYs] at h; omega
set_option maxRecDepth 100000 in
theorem t135_1 {L : Nat} {xs : Nat → Int32} {d nn : Nat} {m : yM} {v : Int} (hT : Ty gT m) (hl : m 376 6 ≤ m 376 1) (hn : m 376 18 = 0) (h8 : m 376 8 < 0) (hX : XS 1 m) (h84 : 1 ≤ m 384 1) (h90 : m 390 1 ≤ 100) (hv : 0 ≤ v ∧ v ≤ 47) : YC (gZ L xs) (d + 5) 135 [.ref 376, yI v] m nn (qU (fun m' n' => n' = nn ∧ Ty gT m' ∧ Fr wSt1 m m' ∧ m' 376 6 ≤ m' 376 1 ∧ (0 ≤ m' 376 8 ∨ (m' 376 8 < 0 ∧ mu m' ≤ mu m ∧ m' 390 1 = m 390 1 + 1 ∧ XS 1 m')))) := by
  have tb8 := hT.atp 376 8 (-1) 320 rfl
  have tc384 := hT.atp 384 1 0 10 rfl
  have tc386 := hT.atp 386 1 0 12 rfl
  have tc387 := hT.atp 387 1 0 8 rfl
  have tc388 := hT.atp 388 1 0 12 rfl
  have tc389 := hT.atp 389 1 0 48 rfl
  have tc390 := hT.atp 390 1 0 125 rfl
  have hsc := hX.2.2.2.2.2
  have hCV := hX.2.2.2.2.2.2.2.1
  refine YC.mkB [some (.ref 376), some (yI v), none, none] kn135 rfl rfl ?_
  have hF : Fr wSt1 m m := Fr.rf
  refine y_aload 1 c135_0 rfl rfl rfl ?_
  have tb7745 := hT.atp 376 18 0 1 rfl
  refine y_callP 4 [.ref 376] [] c135_1 rfl rfl rfl rfl rfl (ycanO km96 ko376) (t96_1 (by omega)) (fun r7744 hr7744 => ?_)
  subst hr7744
  refine y_istore 5 c135_4 rfl rfl ?_
  refine y_aload 6 c135_5 rfl rfl rfl ?_
  refine y_aload 7 c135_6 rfl rfl rfl ?_
  refine y_getR 10 c135_7 rfl kf376_25 ?_
  refine y_iload 11 c135_10 rfl rfl ?_
  refine y_iaX 12 (m 388 1) c135_11 rfl ka388 (by decide) rfl ?_
  refine y_iconst 14 c135_12 rfl ?_
  refine y_icmp 21 17 c135_14 rfl rfl (yc_ge (by omega) (by omega)) (fun hb7746 => ?_) (fun hb7746 => ?_)
  · refine y_iconst 22 c135_21 rfl ?_
    have tb7748 := hT.atp 376 1 0 320 rfl
    have tb7749 := hT.atp 376 3 0 3 rfl
    have tb7750 := hT.atp 376 6 0 320 rfl
    have tb7751 := hT.atp 376 8 ((-1)) 320 rfl
    refine y_callIB 25 [.ref 376, yI 0] [] c135_22 rfl rfl rfl rfl rfl (ycanO km105 ko376) (t105 (g := 0) hT (by omega) (by omega)) (fun rq7747 mq7747 nq7747 hq7747 => ?_)
    obtain ⟨rfl, hTq7747, hFq7747, hq7747⟩ := hq7747
    have x1q7747 : mq7747 376 1 = m 376 1 := (hFq7747 376 1 rfl)
    have hF7752 := hF.tr hFq7747 wNw_wSt1
    refine y_if 29 28 c135_25 rfl rfl (yz_ne (by omega)) (fun hb7753 => ?_) (fun hb7753 => ?_)
    · refine y_aload 30 c135_29 rfl rfl rfl ?_
      have tb7754 := hTq7747.atp 376 3 0 3 rfl
      refine y_callP 33 [.ref 376] [] c135_30 rfl rfl rfl rfl rfl (ycanO km115 ko376) (t115 hTq7747) (fun r7755 hr7755 => ?_)
      refine y_if 41 36 c135_33 rfl rfl (yz_ne (by omega)) (fun hb7756 => ?_) (fun hb7756 => ?_)
      · refine y_aload 42 c135_41 rfl rfl rfl ?_
        refine y_iconst 43 c135_42 rfl ?_
        refine y_inlB 46 [.ref 376, yI 0] [] [some (.ref 376), some (yI 0)] c135_43 rfl rfl rfl rfl rfl (ycanO km134 ko376) kn134 rfl rfl ?_
        refine y_aload 1 c134_0 rfl rfl rfl ?_
        refine y_getR 4 c134_1 rfl kf376_15 ?_
        refine y_aload 5 c134_4 rfl rfl rfl ?_
        refine y_getX 8 (m 376 17) c134_5 rfl kf376_17 (hFq7747 376 17 rfl) ?_
        have tb7757 := hT.atp 376 17 0 20 rfl
        refine y_aload 9 c134_8 rfl rfl rfl ?_
        refine y_getX 12 (mq7747 376 4) c134_9 rfl kf376_4 rfl ?_
        have tb7758 := hTq7747.atp 376 4 ((-2147483648)) 2147483647 rfl
        refine y_iastore 13 c134_12 rfl ka381 (by omega) (y_nar0 _) ?_
        have hT7759 := hTq7747.up 381 ((m 376 17).toNat) (mq7747 376 4) ((-2147483648)) 2147483647 rfl (by omega)
        have hF7760 := hF7752.up 381 ((m 376 17).toNat) (mq7747 376 4) rfl
        refine y_aload 14 c134_13 rfl rfl rfl ?_
        refine y_getR 17 c134_14 rfl kf376_16 ?_
        refine y_aload 18 c134_17 rfl rfl rfl ?_
        refine y_getX 21 (m 376 17) c134_18 rfl kf376_17 ((yup_na (by decide)).trans (hFq7747 376 17 rfl)) ?_
        refine y_aload 22 c134_21 rfl rfl rfl ?_
        refine y_getX 25 (mq7747 376 5) c134_22 rfl kf376_5 rfl ?_
        have tb7761 := hTq7747.atp 376 5 0 320 rfl
        refine y_iastore 26 c134_25 rfl ka382 (by omega) (y_nar0 _) ?_
        have hT7762 := hT7759.up 382 ((m 376 17).toNat) (mq7747 376 5) 0 320 rfl (by omega)
        have hF7763 := hF7760.up 382 ((m 376 17).toNat) (mq7747 376 5) rfl
        refine y_aload 27 c134_26 rfl rfl rfl ?_
        refine y_dup 28 c134_27 rfl rfl ?_
        refine y_getX 31 (m 376 17) c134_28 rfl kf376_17 ((yup_na (by decide)).trans ((yup_na (by decide)).trans (hFq7747 376 17 rfl))) ?_
        refine y_iconst 32 c134_31 rfl ?_
        refine y_iadd 33 c134_32 rfl ?_
        refine y_putI 36 c134_33 rfl kf376_17 (y_fit0 _) ?_
        have hT7764 := hT7762.up 376 17 ((m 376 17) + 1) 0 20 rfl (by omega)
        have hF7765 := hF7763.up 376 17 ((m 376 17) + 1) rfl
        refine y_returnK c134_36 ?_
        refine y_aload 47 c135_46 rfl rfl rfl ?_
        refine y_getR 50 c135_47 rfl kf376_37 ?_
        refine y_iconst 52 c135_50 rfl ?_
        refine y_iload 53 c135_52 rfl rfl ?_
        refine y_imul 54 c135_53 rfl ?_
        refine y_top 12 (by decide) ?_
        refine y_aload 55 c135_54 rfl rfl rfl ?_
        refine y_getR 58 c135_55 rfl kf376_25 ?_
        refine y_iload 59 c135_58 rfl rfl ?_
        refine y_iaX 60 (m 388 1) c135_59 rfl ka388 (by decide) ((yup_na (by decide)).trans ((yup_na (by decide)).trans ((yup_na (by decide)).trans (hFq7747 388 1 rfl)))) ?_
        refine y_iadd 61 c135_60 rfl ?_
        refine y_aload 62 c135_61 rfl rfl rfl ?_
        refine y_getX 65 (mq7747 376 4) c135_62 rfl kf376_4 rfl ?_
        refine y_iastore 66 c135_65 rfl ka400 (by omega) (y_nar0 _) ?_
        have hT7766 := hT7764.up 400 ((12 + (m 388 1)).toNat) (mq7747 376 4) ((-2147483648)) 2147483647 rfl (by omega)
        have hF7767 := hF7765.up 400 ((12 + (m 388 1)).toNat) (mq7747 376 4) (wSt1_400 (by omega))
        refine y_aload 67 c135_66 rfl rfl rfl ?_
        refine y_iconst 68 c135_67 rfl ?_
        refine y_iload 69 c135_68 rfl rfl ?_
        refine y_aload 70 c135_69 rfl rfl rfl ?_
        refine y_getR 73 c135_70 rfl kf376_25 ?_
        refine y_iload 74 c135_73 rfl rfl ?_
        refine y_iaX 75 (m 388 1) c135_74 rfl ka388 (by decide) ((yup_na (by decide)).trans ((yup_na (by decide)).trans ((yup_na (by decide)).trans ((yup_na (by decide)).trans (hFq7747 388 1 rfl))))) ?_
        refine y_iconst 76 c135_75 rfl ?_
        have es7769 : (yup (yup (yup (yup mq7747 381 ((m 376 17).toNat) (mq7747 376 4)) 382 ((m 376 17).toNat) (mq7747 376 5)) 376 17 ((m 376 17) + 1)) 400 ((12 + (m 388 1)).toNat) (mq7747 376 4)) 376 1 = m 376 1 := ((yup_na (by decide)).trans ((yup_nk (by decide)).trans ((yup_na (by decide)).trans ((yup_na (by decide)).trans (hFq7747 376 1 rfl)))))
        have es7770 : (yup (yup (yup (yup mq7747 381 ((m 376 17).toNat) (mq7747 376 4)) 382 ((m 376 17).toNat) (mq7747 376 5)) 376 17 ((m 376 17) + 1)) 400 ((12 + (m 388 1)).toNat) (mq7747 376 4)) 376 3 = mq7747 376 3 := rfl
        have es7771 : (yup (yup (yup (yup mq7747 381 ((m 376 17).toNat) (mq7747 376 4)) 382 ((m 376 17).toNat) (mq7747 376 5)) 376 17 ((m 376 17) + 1)) 400 ((12 + (m 388 1)).toNat) (mq7747 376 4)) 376 6 = mq7747 376 6 := rfl
        have tb7772 := hTq7747.atp 376 6 0 320 rfl
        have es7773 : (yup (yup (yup (yup mq7747 381 ((m 376 17).toNat) (mq7747 376 4)) 382 ((m 376 17).toNat) (mq7747 376 5)) 376 17 ((m 376 17) + 1)) 400 ((12 + (m 388 1)).toNat) (mq7747 376 4)) 376 8 = mq7747 376 8 := rfl
        have tb7774 := hTq7747.atp 376 8 ((-1)) 320 rfl
        have es7775 : (yup (yup (yup (yup mq7747 381 ((m 376 17).toNat) (mq7747 376 4)) 382 ((m 376 17).toNat) (mq7747 376 5)) 376 17 ((m 376 17) + 1)) 400 ((12 + (m 388 1)).toNat) (mq7747 376 4)) 376 18 = m 376 18 := ((yup_na (by decide)).trans ((yup_nk (by decide)).trans ((yup_na (by decide)).trans ((yup_na (by decide)).trans (hFq7747 376 18 rfl)))))
        have es7776 : (yup (yup (yup (yup mq7747 381 ((m 376 17).toNat) (mq7747 376 4)) 382 ((m 376 17).toNat) (mq7747 376 5)) 376 17 ((m 376 17) + 1)) 400 ((12 + (m 388 1)).toNat) (mq7747 376 4)) 390 1 = m 390 1 := ((yup_na (by decide)).trans ((yup_na (by decide)).trans ((yup_na (by decide)).trans ((yup_na (by decide)).trans (hFq7747 390 1 rfl)))))
        have es7777 : (yup (yup (yup (yup mq7747 381 ((m 376 17).toNat) (mq7747 376 4)) 382 ((m 376 17).toNat) (mq7747 376 5)) 376 17 ((m 376 17) + 1)) 400 ((12 + (m 388 1)).toNat) (mq7747 376 4)) 386 1 = m 386 1 := ((yup_na (by decide)).trans ((yup_na (by decide)).trans ((yup_na (by decide)).trans ((yup_na (by decide)).trans (hFq7747 386 1 rfl)))))
        have es7778 : (yup (yup (yup (yup mq7747 381 ((m 376 17).toNat) (mq7747 376 4)) 382 ((m 376 17).toNat) (mq7747 376 5)) 376 17 ((m 376 17) + 1)) 400 ((12 + (m 388 1)).toNat) (mq7747 376 4)) 387 1 = m 387 1 := ((yup_na (by decide)).trans ((yup_na (by decide)).trans ((yup_na (by decide)).trans ((yup_na (by decide)).trans (hFq7747 387 1 rfl)))))
        have es7779 : (yup (yup (yup (yup mq7747 381 ((m 376 17).toNat) (mq7747 376 4)) 382 ((m 376 17).toNat) (mq7747 376 5)) 376 17 ((m 376 17) + 1)) 400 ((12 + (m 388 1)).toNat) (mq7747 376 4)) 388 1 = m 388 1 := ((yup_na (by decide)).trans ((yup_na (by decide)).trans ((yup_na (by decide)).trans ((yup_na (by decide)).trans (hFq7747 388 1 rfl)))))
        have es7780 : (yup (yup (yup (yup mq7747 381 ((m 376 17).toNat) (mq7747 376 4)) 382 ((m 376 17).toNat) (mq7747 376 5)) 376 17 ((m 376 17) + 1)) 400 ((12 + (m 388 1)).toNat) (mq7747 376 4)) 376 17 = (m 376 17) + 1 := rfl
        have es7781 : (yup (yup (yup (yup mq7747 381 ((m 376 17).toNat) (mq7747 376 4)) 382 ((m 376 17).toNat) (mq7747 376 5)) 376 17 ((m 376 17) + 1)) 400 ((12 + (m 388 1)).toNat) (mq7747 376 4)) 384 1 = m 384 1 := ((yup_na (by decide)).trans ((yup_na (by decide)).trans ((yup_na (by decide)).trans ((yup_na (by decide)).trans (hFq7747 384 1 rfl)))))
        have em7782 : mu (yup (yup (yup (yup mq7747 381 ((m 376 17).toNat) (mq7747 376 4)) 382 ((m 376 17).toNat) (mq7747 376 5)) 376 17 ((m 376 17) + 1)) 400 ((12 + (m 388 1)).toNat) (mq7747 376 4)) = mu mq7747 := mu_fr ((yup_na (by decide)).trans ((yup_nk (by decide)).trans ((yup_na (by decide)).trans (yup_na (by decide))))) ((yup_na (by decide)).trans ((yup_nk (by decide)).trans ((yup_na (by decide)).trans (yup_na (by decide))))) ((yup_na (by decide)).trans ((yup_nk (by decide)).trans ((yup_na (by decide)).trans (yup_na (by decide)))))
        refine y_callIB 79 [.ref 376, yI 1, yI v, yI (m 388 1), yI 0] [] c135_76 rfl rfl rfl rfl rfl (ycanO km127 ko376) (t127_1 hT7766 (by omega) (by omega) (by omega) (by omega) (by omega) (by omega)) (fun rq7768 mq7768 nq7768 hq7768 => ?_)
        obtain ⟨rfl, hTq7768, hFq7768, hq7768, hE⟩ := hq7768
        unfold EM at hE
        rw [show (yup (yup (yup (yup mq7747 381 ((m 376 17).toNat) (mq7747 376 4)) 382 ((m 376 17).toNat) (mq7747 376 5)) 376 17 ((m 376 17) + 1)) 400 ((12 + (m 388 1)).toNat) (mq7747 376 4)) 390 1 = m 390 1 from ((yup_na (by decide)).trans ((yup_na (by decide)).trans ((yup_na (by decide)).trans ((yup_na (by decide)).trans (hFq7747 390 1 rfl)))))] at hE
        obtain ⟨k1, k2, k3, k4, k5, k6, k7⟩ := hE
        have k8 : ∀ q, q < 1000 * 1 + 8 * (m 390 1).toNat ∨ 1000 * 1 + 8 * (m 390 1).toNat + 8 ≤ q → mq7768 403 q = m 403 q := fun q hq => (k7 q hq).trans (((yup_na (by decide)).trans ((yup_na (by decide)).trans ((yup_na (by decide)).trans ((yup_na (by decide)).trans (hFq7747 403 q rfl))))))
        have x1q7768 : mq7768 376 1 = m 376 1 := ((hFq7768 376 1 rfl).trans ((yup_na (by decide)).trans ((yup_nk (by decide)).trans ((yup_na (by decide)).trans ((yup_na (by decide)).trans (hFq7747 376 1 rfl))))))
        have hF7783 := hF7767.tr hFq7768 wEm1_wSt1
        refine y_istore 80 c135_79 rfl rfl ?_
        refine y_aload 81 c135_80 rfl rfl rfl ?_
        refine y_getR 84 c135_81 rfl kf376_25 ?_
        refine y_iload 85 c135_84 rfl rfl ?_
        refine y_dup2 86 c135_85 rfl ⟨rfl, rfl⟩ ?_
        refine y_iaX 87 (m 388 1) c135_86 rfl ka388 (by decide) ((hFq7768 388 1 rfl).trans ((yup_na (by decide)).trans ((yup_na (by decide)).trans ((yup_na (by decide)).trans ((yup_na (by decide)).trans (hFq7747 388 1 rfl)))))) ?_
        refine y_iconst 88 c135_87 rfl ?_
        refine y_iadd 89 c135_88 rfl ?_
        refine y_iastore 90 c135_89 rfl ka388 (by omega) (y_nar0 _) ?_
        have hT7784 := hTq7768.up 388 ((1 : Int).toNat) ((m 388 1) + 1) 0 12 rfl (by omega)
        have hF7785 := hF7783.up 388 ((1 : Int).toNat) ((m 388 1) + 1) rfl
        refine y_aload 91 c135_90 rfl rfl rfl ?_
        have es7787 : (yup mq7768 388 ((1 : Int).toNat) ((m 388 1) + 1)) 376 1 = m 376 1 := ((yup_na (by decide)).trans ((hFq7768 376 1 rfl).trans ((yup_na (by decide)).trans ((yup_nk (by decide)).trans ((yup_na (by decide)).trans ((yup_na (by decide)).trans (hFq7747 376 1 rfl)))))))
        have es7788 : (yup mq7768 388 ((1 : Int).toNat) ((m 388 1) + 1)) 376 3 = mq7747 376 3 := ((yup_na (by decide)).trans ((hFq7768 376 3 rfl).trans ((yup_na (by decide)).trans ((yup_nk (by decide)).trans ((yup_na (by decide)).trans (yup_na (by decide)))))))
        have es7789 : (yup mq7768 388 ((1 : Int).toNat) ((m 388 1) + 1)) 376 6 = mq7747 376 6 := ((yup_na (by decide)).trans ((hFq7768 376 6 rfl).trans ((yup_na (by decide)).trans ((yup_nk (by decide)).trans ((yup_na (by decide)).trans (yup_na (by decide)))))))
        have es7790 : (yup mq7768 388 ((1 : Int).toNat) ((m 388 1) + 1)) 376 8 = mq7747 376 8 := ((yup_na (by decide)).trans ((hFq7768 376 8 rfl).trans ((yup_na (by decide)).trans ((yup_nk (by decide)).trans ((yup_na (by decide)).trans (yup_na (by decide)))))))
        have em7791 : mu (yup mq7768 388 ((1 : Int).toNat) ((m 388 1) + 1)) = mu mq7747 := mu_fr ((yup_na (by decide)).trans ((hFq7768 376 1 rfl).trans ((yup_na (by decide)).trans ((yup_nk (by decide)).trans ((yup_na (by decide)).trans (yup_na (by decide))))))) ((yup_na (by decide)).trans ((hFq7768 376 3 rfl).trans ((yup_na (by decide)).trans ((yup_nk (by decide)).trans ((yup_na (by decide)).trans (yup_na (by decide))))))) ((yup_na (by decide)).trans ((hFq7768 376 6 rfl).trans ((yup_na (by decide)).trans ((yup_nk (by decide)).trans ((yup_na (by decide)).trans (yup_na (by decide)))))))
        refine y_callUB 94 [.ref 376] [] c135_91 rfl rfl rfl rfl rfl (ycanO km99 ko376) (t99u hT7784 (by omega)) (fun mq7786 nq7786 hq7786 => ?_)
        obtain ⟨rfl, hTq7786, hFq7786, hq7786⟩ := hq7786
        have x1q7786 : mq7786 376 1 = m 376 1 := ((hFq7786 376 1 rfl).trans ((yup_na (by decide)).trans ((hFq7768 376 1 rfl).trans ((yup_na (by decide)).trans ((yup_nk (by decide)).trans ((yup_na (by decide)).trans ((yup_na (by decide)).trans (hFq7747 376 1 rfl))))))))
        have hF7792 := hF7785.tr hFq7786 wNx_wSt1
        have es7793 : mq7786 376 1 = m 376 1 := ((hFq7786 376 1 rfl).trans ((yup_na (by decide)).trans ((hFq7768 376 1 rfl).trans ((yup_na (by decide)).trans ((yup_nk (by decide)).trans ((yup_na (by decide)).trans ((yup_na (by decide)).trans (hFq7747 376 1 rfl))))))))
        have tb7794 := hTq7786.atp 376 3 0 3 rfl
        have tb7795 := hTq7786.atp 376 6 0 320 rfl
        have es7796 : mq7786 376 8 = mq7747 376 8 := ((hFq7786 376 8 rfl).trans ((yup_na (by decide)).trans ((hFq7768 376 8 rfl).trans ((yup_na (by decide)).trans ((yup_nk (by decide)).trans ((yup_na (by decide)).trans (yup_na (by decide))))))))
        have es7797 : mq7786 390 1 = mq7768 390 1 := ((hFq7786 390 1 rfl).trans (yup_na (by decide)))
        have tb7798 := hTq7768.atp 390 1 0 125 rfl
        have es7799 : mq7786 386 1 = m 386 1 := ((hFq7786 386 1 rfl).trans ((yup_na (by decide)).trans ((hFq7768 386 1 rfl).trans ((yup_na (by decide)).trans ((yup_na (by decide)).trans ((yup_na (by decide)).trans ((yup_na (by decide)).trans (hFq7747 386 1 rfl))))))))
        have es7800 : mq7786 387 1 = m 387 1 := ((hFq7786 387 1 rfl).trans ((yup_na (by decide)).trans ((hFq7768 387 1 rfl).trans ((yup_na (by decide)).trans ((yup_na (by decide)).trans ((yup_na (by decide)).trans ((yup_na (by decide)).trans (hFq7747 387 1 rfl))))))))
        have es7801 : mq7786 388 1 = (m 388 1) + 1 := ((hFq7786 388 1 rfl).trans (yup_eq _ _ _ _))
        have es7802 : mq7786 376 17 = (m 376 17) + 1 := ((hFq7786 376 17 rfl).trans ((yup_na (by decide)).trans ((hFq7768 376 17 rfl).trans ((yup_na (by decide)).trans (yup_eq _ _ _ _)))))
        have es7803 : mq7786 384 1 = m 384 1 := ((hFq7786 384 1 rfl).trans ((yup_na (by decide)).trans ((hFq7768 384 1 rfl).trans ((yup_na (by decide)).trans ((yup_na (by decide)).trans ((yup_na (by decide)).trans ((yup_na (by decide)).trans (hFq7747 384 1 rfl))))))))
        have f0 : mq7786 403 (1000 * 1 + 8 * (m 390 1).toNat) = _ := (((hFq7786 403 _ rfl).trans (yup_na (by decide)))).trans k2
        have f1 : mq7786 403 (1000 * 1 + 8 * (m 390 1).toNat + 1) = _ := (((hFq7786 403 _ rfl).trans (yup_na (by decide)))).trans k3
        have f2 : mq7786 403 (1000 * 1 + 8 * (m 390 1).toNat + 2) = _ := (((hFq7786 403 _ rfl).trans (yup_na (by decide)))).trans k4
        have f3 : mq7786 403 (1000 * 1 + 8 * (m 390 1).toNat + 3) = _ := (((hFq7786 403 _ rfl).trans (yup_na (by decide)))).trans k5
        have f4 : mq7786 403 (1000 * 1 + 8 * (m 390 1).toNat + 4) = _ := (((hFq7786 403 _ rfl).trans (yup_na (by decide)))).trans k6
        have hw : OW mq7786 (1000 * 1 + 8 * (m 390 1).toNat) := by unfold OW; omega
        have hx : XS 1 mq7786 := XS.add hX (by omega) (fun a q ha => hF7792 a q (wSt1_Y a q ha)) (fun q hq => (((hFq7786 403 q rfl).trans (yup_na (by decide)))).trans (k8 q hq)) hw (by omega) (by omega) (by omega) (by omega) (by omega) (by omega) (by omega) (fun c hc => by rw [show mq7786 401 (8 * 1 + c) = m 401 (8 * 1 + c) from ((hFq7786 401 _ rfl).trans ((yup_na (by decide)).trans ((hFq7768 401 _ rfl).trans ((yup_na (by decide)).trans ((yup_na (by decide)).trans ((yup_na (by decide)).trans ((yup_na (by decide)).trans (hFq7747 401 _ rfl))))))))]; exact hCV c (by omega)) (by omega) (by omega)
        exact y_retU c135_94 ⟨rfl, hTq7786, hF7792, by omega, by first | exact Or.inl (by omega) | exact Or.inr ⟨by omega, by omega, by omega, hx⟩⟩
      · refine y_aload 37 c135_36 rfl rfl rfl ?_
        have es7805 : mq7747 376 1 = m 376 1 := (hFq7747 376 1 rfl)
        have tb7806 := hTq7747.atp 376 6 0 320 rfl
        have tb7807 := hTq7747.atp 376 8 ((-1)) 320 rfl
        refine y_callUB 40 [.ref 376] [] c135_37 rfl rfl rfl rfl rfl (ycanO km104 ko376) (t104 hTq7747) (fun mq7804 nq7804 hq7804 => ?_)
        obtain ⟨rfl, hTq7804, hFq7804, hq7804⟩ := hq7804
        have x1q7804 : mq7804 376 1 = m 376 1 := ((hFq7804 376 1 rfl).trans (hFq7747 376 1 rfl))
        have hF7808 := hF7752.tr hFq7804 wWr_wSt1
        have es7809 : mq7804 376 1 = m 376 1 := ((hFq7804 376 1 rfl).trans (hFq7747 376 1 rfl))
        have es7810 : mq7804 376 3 = mq7747 376 3 := (hFq7804 376 3 rfl)
        have es7811 : mq7804 376 6 = mq7747 376 6 := (hFq7804 376 6 rfl)
        have tb7812 := hTq7804.atp 376 8 ((-1)) 320 rfl
        exact y_retU c135_40 ⟨rfl, hTq7804, hF7808, by omega, Or.inl (by omega)⟩
    · have es7813 : mq7747 376 1 = m 376 1 := (hFq7747 376 1 rfl)
      have tb7814 := hTq7747.atp 376 3 0 3 rfl
      have tb7815 := hTq7747.atp 376 6 0 320 rfl
      have tb7816 := hTq7747.atp 376 8 ((-1)) 320 rfl
      exact y_retU c135_28 ⟨rfl, hTq7747, hF7752, by omega, Or.inl (by omega)⟩
  · refine y_iconst 18 c135_17 rfl ?_
    refine y_goto 22 c135_18 rfl ?_
    have tb7818 := hT.atp 376 1 0 320 rfl
    have tb7819 := hT.atp 376 3 0 3 rfl
    have tb7820 := hT.atp 376 6 0 320 rfl
    have tb7821 := hT.atp 376 8 ((-1)) 320 rfl
    refine y_callIB 25 [.ref 376, yI 1] [] c135_22 rfl rfl rfl rfl rfl (ycanO km105 ko376) (t105 (g := 1) hT (by omega) (by omega)) (fun rq7817 mq7817 nq7817 hq7817 => ?_)
    obtain ⟨rfl, hTq7817, hFq7817, hq7817⟩ := hq7817
    have x1q7817 : mq7817 376 1 = m 376 1 := (hFq7817 376 1 rfl)
    have hF7822 := hF.tr hFq7817 wNw_wSt1
    refine y_if 29 28 c135_25 rfl rfl (yz_ne (by omega)) (fun hb7823 => ?_) (fun hb7823 => ?_)
    · refine y_aload 30 c135_29 rfl rfl rfl ?_
      have tb7824 := hTq7817.atp 376 3 0 3 rfl
      refine y_callP 33 [.ref 376] [] c135_30 rfl rfl rfl rfl rfl (ycanO km115 ko376) (t115 hTq7817) (fun r7825 hr7825 => ?_)
      refine y_if 41 36 c135_33 rfl rfl (yz_ne (by omega)) (fun hb7826 => ?_) (fun hb7826 => ?_)
      · refine y_aload 42 c135_41 rfl rfl rfl ?_
        refine y_iconst 43 c135_42 rfl ?_
        refine y_inlB 46 [.ref 376, yI 0] [] [some (.ref 376), some (yI 0)] c135_43 rfl rfl rfl rfl rfl (ycanO km134 ko376) kn134 rfl rfl ?_
        refine y_aload 1 c134_0 rfl rfl rfl ?_
        refine y_getR 4 c134_1 rfl kf376_15 ?_
        refine y_aload 5 c134_4 rfl rfl rfl ?_
        refine y_getX 8 (m 376 17) c134_5 rfl kf376_17 (hFq7817 376 17 rfl) ?_
        have tb7827 := hT.atp 376 17 0 20 rfl
        refine y_aload 9 c134_8 rfl rfl rfl ?_
        refine y_getX 12 (mq7817 376 4) c134_9 rfl kf376_4 rfl ?_
        have tb7828 := hTq7817.atp 376 4 ((-2147483648)) 2147483647 rfl
        refine y_iastore 13 c134_12 rfl ka381 (by omega) (y_nar0 _) ?_
        have hT7829 := hTq7817.up 381 ((m 376 17).toNat) (mq7817 376 4) ((-2147483648)) 2147483647 rfl (by omega)
        have hF7830 := hF7822.up 381 ((m 376 17).toNat) (mq7817 376 4) rfl
        refine y_aload 14 c134_13 rfl rfl rfl ?_
        refine y_getR 17 c134_14 rfl kf376_16 ?_
        refine y_aload 18 c134_17 rfl rfl rfl ?_
        refine y_getX 21 (m 376 17) c134_18 rfl kf376_17 ((yup_na (by decide)).trans (hFq7817 376 17 rfl)) ?_
        refine y_aload 22 c134_21 rfl rfl rfl ?_
        refine y_getX 25 (mq7817 376 5) c134_22 rfl kf376_5 rfl ?_
        have tb7831 := hTq7817.atp 376 5 0 320 rfl
        refine y_iastore 26 c134_25 rfl ka382 (by omega) (y_nar0 _) ?_
        have hT7832 := hT7829.up 382 ((m 376 17).toNat) (mq7817 376 5) 0 320 rfl (by omega)
        have hF7833 := hF7830.up 382 ((m 376 17).toNat) (mq7817 376 5) rfl
        refine y_aload 27 c134_26 rfl rfl rfl ?_
        refine y_dup 28 c134_27 rfl rfl ?_
        refine y_getX 31 (m 376 17) c134_28 rfl kf376_17 ((yup_na (by decide)).trans ((yup_na (by decide)).trans (hFq7817 376 17 rfl))) ?_
        refine y_iconst 32 c134_31 rfl ?_
        refine y_iadd 33 c134_32 rfl ?_
        refine y_putI 36 c134_33 rfl kf376_17 (y_fit0 _) ?_
        have hT7834 := hT7832.up 376 17 ((m 376 17) + 1) 0 20 rfl (by omega)
        have hF7835 := hF7833.up 376 17 ((m 376 17) + 1) rfl
        refine y_returnK c134_36 ?_
        refine y_aload 47 c135_46 rfl rfl rfl ?_
        refine y_getR 50 c135_47 rfl kf376_37 ?_
        refine y_iconst 52 c135_50 rfl ?_
        refine y_iload 53 c135_52 rfl rfl ?_
        refine y_imul 54 c135_53 rfl ?_
        refine y_top 12 (by decide) ?_
        refine y_aload 55 c135_54 rfl rfl rfl ?_
        refine y_getR 58 c135_55 rfl kf376_25 ?_
        refine y_iload 59 c135_58 rfl rfl ?_
        refine y_iaX 60 (m 388 1) c135_59 rfl ka388 (by decide) ((yup_na (by decide)).trans ((yup_na (by decide)).trans ((yup_na (by decide)).trans (hFq7817 388 1 rfl)))) ?_
        refine y_iadd 61 c135_60 rfl ?_
        refine y_aload 62 c135_61 rfl rfl rfl ?_
        refine y_getX 65 (mq7817 376 4) c135_62 rfl kf376_4 rfl ?_
        refine y_iastore 66 c135_65 rfl ka400 (by omega) (y_nar0 _) ?_
        have hT7836 := hT7834.up 400 ((12 + (m 388 1)).toNat) (mq7817 376 4) ((-2147483648)) 2147483647 rfl (by omega)
        have hF7837 := hF7835.up 400 ((12 + (m 388 1)).toNat) (mq7817 376 4) (wSt1_400 (by omega))
        refine y_aload 67 c135_66 rfl rfl rfl ?_
        refine y_iconst 68 c135_67 rfl ?_
        refine y_iload 69 c135_68 rfl rfl ?_
        refine y_aload 70 c135_69 rfl rfl rfl ?_
        refine y_getR 73 c135_70 rfl kf376_25 ?_
        refine y_iload 74 c135_73 rfl rfl ?_
        refine y_iaX 75 (m 388 1) c135_74 rfl ka388 (by decide) ((yup_na (by decide)).trans ((yup_na (by decide)).trans ((yup_na (by decide)).trans ((yup_na (by decide)).trans (hFq7817 388 1 rfl))))) ?_
        refine y_iconst 76 c135_75 rfl ?_
        have es7839 : (yup (yup (yup (yup mq7817 381 ((m 376 17).toNat) (mq7817 376 4)) 382 ((m 376 17).toNat) (mq7817 376 5)) 376 17 ((m 376 17) + 1)) 400 ((12 + (m 388 1)).toNat) (mq7817 376 4)) 376 1 = m 376 1 := ((yup_na (by decide)).trans ((yup_nk (by decide)).trans ((yup_na (by decide)).trans ((yup_na (by decide)).trans (hFq7817 376 1 rfl)))))
        have es7840 : (yup (yup (yup (yup mq7817 381 ((m 376 17).toNat) (mq7817 376 4)) 382 ((m 376 17).toNat) (mq7817 376 5)) 376 17 ((m 376 17) + 1)) 400 ((12 + (m 388 1)).toNat) (mq7817 376 4)) 376 3 = mq7817 376 3 := rfl
        have es7841 : (yup (yup (yup (yup mq7817 381 ((m 376 17).toNat) (mq7817 376 4)) 382 ((m 376 17).toNat) (mq7817 376 5)) 376 17 ((m 376 17) + 1)) 400 ((12 + (m 388 1)).toNat) (mq7817 376 4)) 376 6 = mq7817 376 6 := rfl
        have tb7842 := hTq7817.atp 376 6 0 320 rfl
        have es7843 : (yup (yup (yup (yup mq7817 381 ((m 376 17).toNat) (mq7817 376 4)) 382 ((m 376 17).toNat) (mq7817 376 5)) 376 17 ((m 376 17) + 1)) 400 ((12 + (m 388 1)).toNat) (mq7817 376 4)) 376 8 = mq7817 376 8 := rfl
        have tb7844 := hTq7817.atp 376 8 ((-1)) 320 rfl
        have es7845 : (yup (yup (yup (yup mq7817 381 ((m 376 17).toNat) (mq7817 376 4)) 382 ((m 376 17).toNat) (mq7817 376 5)) 376 17 ((m 376 17) + 1)) 400 ((12 + (m 388 1)).toNat) (mq7817 376 4)) 376 18 = m 376 18 := ((yup_na (by decide)).trans ((yup_nk (by decide)).trans ((yup_na (by decide)).trans ((yup_na (by decide)).trans (hFq7817 376 18 rfl)))))
        have es7846 : (yup (yup (yup (yup mq7817 381 ((m 376 17).toNat) (mq7817 376 4)) 382 ((m 376 17).toNat) (mq7817 376 5)) 376 17 ((m 376 17) + 1)) 400 ((12 + (m 388 1)).toNat) (mq7817 376 4)) 390 1 = m 390 1 := ((yup_na (by decide)).trans ((yup_na (by decide)).trans ((yup_na (by decide)).trans ((yup_na (by decide)).trans (hFq7817 390 1 rfl)))))
        have es7847 : (yup (yup (yup (yup mq7817 381 ((m 376 17).toNat) (mq7817 376 4)) 382 ((m 376 17).toNat) (mq7817 376 5)) 376 17 ((m 376 17) + 1)) 400 ((12 + (m 388 1)).toNat) (mq7817 376 4)) 386 1 = m 386 1 := ((yup_na (by decide)).trans ((yup_na (by decide)).trans ((yup_na (by decide)).trans ((yup_na (by decide)).trans (hFq7817 386 1 rfl)))))
        have es7848 : (yup (yup (yup (yup mq7817 381 ((m 376 17).toNat) (mq7817 376 4)) 382 ((m 376 17).toNat) (mq7817 376 5)) 376 17 ((m 376 17) + 1)) 400 ((12 + (m 388 1)).toNat) (mq7817 376 4)) 387 1 = m 387 1 := ((yup_na (by decide)).trans ((yup_na (by decide)).trans ((yup_na (by decide)).trans ((yup_na (by decide)).trans (hFq7817 387 1 rfl)))))
        have es7849 : (yup (yup (yup (yup mq7817 381 ((m 376 17).toNat) (mq7817 376 4)) 382 ((m 376 17).toNat) (mq7817 376 5)) 376 17 ((m 376 17) + 1)) 400 ((12 + (m 388 1)).toNat) (mq7817 376 4)) 388 1 = m 388 1 := ((yup_na (by decide)).trans ((yup_na (by decide)).trans ((yup_na (by decide)).trans ((yup_na (by decide)).trans (hFq7817 388 1 rfl)))))
        have es7850 : (yup (yup (yup (yup mq7817 381 ((m 376 17).toNat) (mq7817 376 4)) 382 ((m 376 17).toNat) (mq7817 376 5)) 376 17 ((m 376 17) + 1)) 400 ((12 + (m 388 1)).toNat) (mq7817 376 4)) 376 17 = (m 376 17) + 1 := rfl
        have es7851 : (yup (yup (yup (yup mq7817 381 ((m 376 17).toNat) (mq7817 376 4)) 382 ((m 376 17).toNat) (mq7817 376 5)) 376 17 ((m 376 17) + 1)) 400 ((12 + (m 388 1)).toNat) (mq7817 376 4)) 384 1 = m 384 1 := ((yup_na (by decide)).trans ((yup_na (by decide)).trans ((yup_na (by decide)).trans ((yup_na (by decide)).trans (hFq7817 384 1 rfl)))))
        have em7852 : mu (yup (yup (yup (yup mq7817 381 ((m 376 17).toNat) (mq7817 376 4)) 382 ((m 376 17).toNat) (mq7817 376 5)) 376 17 ((m 376 17) + 1)) 400 ((12 + (m 388 1)).toNat) (mq7817 376 4)) = mu mq7817 := mu_fr ((yup_na (by decide)).trans ((yup_nk (by decide)).trans ((yup_na (by decide)).trans (yup_na (by decide))))) ((yup_na (by decide)).trans ((yup_nk (by decide)).trans ((yup_na (by decide)).trans (yup_na (by decide))))) ((yup_na (by decide)).trans ((yup_nk (by decide)).trans ((yup_na (by decide)).trans (yup_na (by decide)))))
        refine y_callIB 79 [.ref 376, yI 1, yI v, yI (m 388 1), yI 0] [] c135_76 rfl rfl rfl rfl rfl (ycanO km127 ko376) (t127_1 hT7836 (by omega) (by omega) (by omega) (by omega) (by omega) (by omega)) (fun rq7838 mq7838 nq7838 hq7838 => ?_)
        obtain ⟨rfl, hTq7838, hFq7838, hq7838, hE⟩ := hq7838
        unfold EM at hE
        rw [show (yup (yup (yup (yup mq7817 381 ((m 376 17).toNat) (mq7817 376 4)) 382 ((m 376 17).toNat) (mq7817 376 5)) 376 17 ((m 376 17) + 1)) 400 ((12 + (m 388 1)).toNat) (mq7817 376 4)) 390 1 = m 390 1 from ((yup_na (by decide)).trans ((yup_na (by decide)).trans ((yup_na (by decide)).trans ((yup_na (by decide)).trans (hFq7817 390 1 rfl)))))] at hE
        obtain ⟨k1, k2, k3, k4, k5, k6, k7⟩ := hE
        have k8 : ∀ q, q < 1000 * 1 + 8 * (m 390 1).toNat ∨ 1000 * 1 + 8 * (m 390 1).toNat + 8 ≤ q → mq7838 403 q = m 403 q := fun q hq => (k7 q hq).trans (((yup_na (by decide)).trans ((yup_na (by decide)).trans ((yup_na (by decide)).trans ((yup_na (by decide)).trans (hFq7817 403 q rfl))))))
        have x1q7838 : mq7838 376 1 = m 376 1 := ((hFq7838 376 1 rfl).trans ((yup_na (by decide)).trans ((yup_nk (by decide)).trans ((yup_na (by decide)).trans ((yup_na (by decide)).trans (hFq7817 376 1 rfl))))))
        have hF7853 := hF7837.tr hFq7838 wEm1_wSt1
        refine y_istore 80 c135_79 rfl rfl ?_
        refine y_aload 81 c135_80 rfl rfl rfl ?_
        refine y_getR 84 c135_81 rfl kf376_25 ?_
        refine y_iload 85 c135_84 rfl rfl ?_
        refine y_dup2 86 c135_85 rfl ⟨rfl, rfl⟩ ?_
        refine y_iaX 87 (m 388 1) c135_86 rfl ka388 (by decide) ((hFq7838 388 1 rfl).trans ((yup_na (by decide)).trans ((yup_na (by decide)).trans ((yup_na (by decide)).trans ((yup_na (by decide)).trans (hFq7817 388 1 rfl)))))) ?_
        refine y_iconst 88 c135_87 rfl ?_
        refine y_iadd 89 c135_88 rfl ?_
        refine y_iastore 90 c135_89 rfl ka388 (by omega) (y_nar0 _) ?_
        have hT7854 := hTq7838.up 388 ((1 : Int).toNat) ((m 388 1) + 1) 0 12 rfl (by omega)
        have hF7855 := hF7853.up 388 ((1 : Int).toNat) ((m 388 1) + 1) rfl
        refine y_aload 91 c135_90 rfl rfl rfl ?_
        have es7857 : (yup mq7838 388 ((1 : Int).toNat) ((m 388 1) + 1)) 376 1 = m 376 1 := ((yup_na (by decide)).trans ((hFq7838 376 1 rfl).trans ((yup_na (by decide)).trans ((yup_nk (by decide)).trans ((yup_na (by decide)).trans ((yup_na (by decide)).trans (hFq7817 376 1 rfl)))))))
        have es7858 : (yup mq7838 388 ((1 : Int).toNat) ((m 388 1) + 1)) 376 3 = mq7817 376 3 := ((yup_na (by decide)).trans ((hFq7838 376 3 rfl).trans ((yup_na (by decide)).trans ((yup_nk (by decide)).trans ((yup_na (by decide)).trans (yup_na (by decide)))))))
        have es7859 : (yup mq7838 388 ((1 : Int).toNat) ((m 388 1) + 1)) 376 6 = mq7817 376 6 := ((yup_na (by decide)).trans ((hFq7838 376 6 rfl).trans ((yup_na (by decide)).trans ((yup_nk (by decide)).trans ((yup_na (by decide)).trans (yup_na (by decide)))))))
        have es7860 : (yup mq7838 388 ((1 : Int).toNat) ((m 388 1) + 1)) 376 8 = mq7817 376 8 := ((yup_na (by decide)).trans ((hFq7838 376 8 rfl).trans ((yup_na (by decide)).trans ((yup_nk (by decide)).trans ((yup_na (by decide)).trans (yup_na (by decide)))))))
        have em7861 : mu (yup mq7838 388 ((1 : Int).toNat) ((m 388 1) + 1)) = mu mq7817 := mu_fr ((yup_na (by decide)).trans ((hFq7838 376 1 rfl).trans ((yup_na (by decide)).trans ((yup_nk (by decide)).trans ((yup_na (by decide)).trans (yup_na (by decide))))))) ((yup_na (by decide)).trans ((hFq7838 376 3 rfl).trans ((yup_na (by decide)).trans ((yup_nk (by decide)).trans ((yup_na (by decide)).trans (yup_na (by decide))))))) ((yup_na (by decide)).trans ((hFq7838 376 6 rfl).trans ((yup_na (by decide)).trans ((yup_nk (by decide)).trans ((yup_na (by decide)).trans (yup_na (by decide)))))))
        refine y_callUB 94 [.ref 376] [] c135_91 rfl rfl rfl rfl rfl (ycanO km99 ko376) (t99u hT7854 (by omega)) (fun mq7856 nq7856 hq7856 => ?_)
        obtain ⟨rfl, hTq7856, hFq7856, hq7856⟩ := hq7856
        have x1q7856 : mq7856 376 1 = m 376 1 := ((hFq7856 376 1 rfl).trans ((yup_na (by decide)).trans ((hFq7838 376 1 rfl).trans ((yup_na (by decide)).trans ((yup_nk (by decide)).trans ((yup_na (by decide)).trans ((yup_na (by decide)).trans (hFq7817 376 1 rfl))))))))
        have hF7862 := hF7855.tr hFq7856 wNx_wSt1
        have es7863 : mq7856 376 1 = m 376 1 := ((hFq7856 376 1 rfl).trans ((yup_na (by decide)).trans ((hFq7838 376 1 rfl).trans ((yup_na (by decide)).trans ((yup_nk (by decide)).trans ((yup_na (by decide)).trans ((yup_na (by decide)).trans (hFq7817 376 1 rfl))))))))
        have tb7864 := hTq7856.atp 376 3 0 3 rfl
        have tb7865 := hTq7856.atp 376 6 0 320 rfl
        have es7866 : mq7856 376 8 = mq7817 376 8 := ((hFq7856 376 8 rfl).trans ((yup_na (by decide)).trans ((hFq7838 376 8 rfl).trans ((yup_na (by decide)).trans ((yup_nk (by decide)).trans ((yup_na (by decide)).trans (yup_na (by decide))))))))
        have es7867 : mq7856 390 1 = mq7838 390 1 := ((hFq7856 390 1 rfl).trans (yup_na (by decide)))
        have tb7868 := hTq7838.atp 390 1 0 125 rfl
        have es7869 : mq7856 386 1 = m 386 1 := ((hFq7856 386 1 rfl).trans ((yup_na (by decide)).trans ((hFq7838 386 1 rfl).trans ((yup_na (by decide)).trans ((yup_na (by decide)).trans ((yup_na (by decide)).trans ((yup_na (by decide)).trans (hFq7817 386 1 rfl))))))))
        have es7870 : mq7856 387 1 = m 387 1 := ((hFq7856 387 1 rfl).trans ((yup_na (by decide)).trans ((hFq7838 387 1 rfl).trans ((yup_na (by decide)).trans ((yup_na (by decide)).trans ((yup_na (by decide)).trans ((yup_na (by decide)).trans (hFq7817 387 1 rfl))))))))
        have es7871 : mq7856 388 1 = (m 388 1) + 1 := ((hFq7856 388 1 rfl).trans (yup_eq _ _ _ _))
        have es7872 : mq7856 376 17 = (m 376 17) + 1 := ((hFq7856 376 17 rfl).trans ((yup_na (by decide)).trans ((hFq7838 376 17 rfl).trans ((yup_na (by decide)).trans (yup_eq _ _ _ _)))))
        have es7873 : mq7856 384 1 = m 384 1 := ((hFq7856 384 1 rfl).trans ((yup_na (by decide)).trans ((hFq7838 384 1 rfl).trans ((yup_na (by decide)).trans ((yup_na (by decide)).trans ((yup_na (by decide)).trans ((yup_na (by decide)).trans (hFq7817 384 1 rfl))))))))
        have f0 : mq7856 403 (1000 * 1 + 8 * (m 390 1).toNat) = _ := (((hFq7856 403 _ rfl).trans (yup_na (by decide)))).trans k2
        have f1 : mq7856 403 (1000 * 1 + 8 * (m 390 1).toNat + 1) = _ := (((hFq7856 403 _ rfl).trans (yup_na (by decide)))).trans k3
        have f2 : mq7856 403 (1000 * 1 + 8 * (m 390 1).toNat + 2) = _ := (((hFq7856 403 _ rfl).trans (yup_na (by decide)))).trans k4
        have f3 : mq7856 403 (1000 * 1 + 8 * (m 390 1).toNat + 3) = _ := (((hFq7856 403 _ rfl).trans (yup_na (by decide)))).trans k5
        have f4 : mq7856 403 (1000 * 1 + 8 * (m 390 1).toNat + 4) = _ := (((hFq7856 403 _ rfl).trans (yup_na (by decide)))).trans k6
        have hw : OW mq7856 (1000 * 1 + 8 * (m 390 1).toNat) := by unfold OW; omega
        have hx : XS 1 mq7856 := XS.add hX (by omega) (fun a q ha => hF7862 a q (wSt1_Y a q ha)) (fun q hq => (((hFq7856 403 q rfl).trans (yup_na (by decide)))).trans (k8 q hq)) hw (by omega) (by omega) (by omega) (by omega) (by omega) (by omega) (by omega) (fun c hc => by rw [show mq7856 401 (8 * 1 + c) = m 401 (8 * 1 + c) from ((hFq7856 401 _ rfl).trans ((yup_na (by decide)).trans ((hFq7838 401 _ rfl).trans ((yup_na (by decide)).trans ((yup_na (by decide)).trans ((yup_na (by decide)).trans ((yup_na (by decide)).trans (hFq7817 401 _ rfl))))))))]; exact hCV c (by omega)) (by omega) (by omega)
        exact y_retU c135_94 ⟨rfl, hTq7856, hF7862, by omega, by first | exact Or.inl (by omega) | exact Or.inr ⟨by omega, by omega, by omega, hx⟩⟩
      · refine y_aload 37 c135_36 rfl rfl rfl ?_
        have es7875 : mq7817 376 1 = m 376 1 := (hFq7817 376 1 rfl)
        have tb7876 := hTq7817.atp 376 6 0 320 rfl
        have tb7877 := hTq7817.atp 376 8 ((-1)) 320 rfl
        refine y_callUB 40 [.ref 376] [] c135_37 rfl rfl rfl rfl rfl (ycanO km104 ko376) (t104 hTq7817) (fun mq7874 nq7874 hq7874 => ?_)
        obtain ⟨rfl, hTq7874, hFq7874, hq7874⟩ := hq7874
        have x1q7874 : mq7874 376 1 = m 376 1 := ((hFq7874 376 1 rfl).trans (hFq7817 376 1 rfl))
        have hF7878 := hF7822.tr hFq7874 wWr_wSt1
        have es7879 : mq7874 376 1 = m 376 1 := ((hFq7874 376 1 rfl).trans (hFq7817 376 1 rfl))
        have es7880 : mq7874 376 3 = mq7817 376 3 := (hFq7874 376 3 rfl)
        have es7881 : mq7874 376 6 = mq7817 376 6 := (hFq7874 376 6 rfl)
        have tb7882 := hTq7874.atp 376 8 ((-1)) 320 rfl
        exact y_retU c135_40 ⟨rfl, hTq7874, hF7878, by omega, Or.inl (by omega)⟩
    · have es7883 : mq7817 376 1 = m 376 1 := (hFq7817 376 1 rfl)
      have tb7884 := hTq7817.atp 376 3 0 3 rfl
      have tb7885 := hTq7817.atp 376 6 0 320 rfl
      have tb7886 := hTq7817.atp 376 8 ((-1)) 320 rfl
      exact y_retU c135_28 ⟨rfl, hTq7817, hF7822, by omega, Or.inl (by omega)⟩
set_option maxRecDepth 100000 in
theorem t136_1 {L : Nat} {xs : Nat → Int32} {d nn : Nat} {m : yM} {v : Int} (hT : Ty gT m) (hl : m 376 6 ≤ m 376 1) (hn : m 376 18 = 0) (h8 : m 376 8 < 0) (hX : XS 1 m) (h84 : 1 ≤ m 384 1) (h90 : m 390 1 ≤ 100) (hv : 0 ≤ v ∧ v ≤ 47) : YC (gZ L xs) (d + 5) 136 [.ref 376, yI v] m nn (qU (fun m' n' => n' = nn ∧ Ty gT m' ∧ Fr wSt1 m m' ∧ m' 376 6 ≤ m' 376 1 ∧ (0 ≤ m' 376 8 ∨ (m' 376 8 < 0 ∧ mu m' ≤ mu m ∧ m' 390 1 = m 390 1 + 1 ∧ XS 1 m')))) := by
  have tb8 := hT.atp 376 8 (-1) 320 rfl
  have tc384 := hT.atp 384 1 0 10 rfl
  have tc386 := hT.atp 386 1 0 12 rfl
  have tc387 := hT.atp 387 1 0 8 rfl
  have tc388 := hT.atp 388 1 0 12 rfl
  have tc389 := hT.atp 389 1 0 48 rfl
  have tc390 := hT.atp 390 1 0 125 rfl
  have hsc := hX.2.2.2.2.2
  have hCV := hX.2.2.2.2.2.2.2.1
  refine YC.mkB [some (.ref 376), some (yI v), none, none, none] kn136 rfl rfl ?_
  have hF : Fr wSt1 m m := Fr.rf
  refine y_aload 1 c136_0 rfl rfl rfl ?_
  have tb7888 := hT.atp 376 18 0 1 rfl
  refine y_callP 4 [.ref 376] [] c136_1 rfl rfl rfl rfl rfl (ycanO km96 ko376) (t96_1 (by omega)) (fun r7887 hr7887 => ?_)
  subst hr7887
  refine y_istore 5 c136_4 rfl rfl ?_
  refine y_aload 6 c136_5 rfl rfl rfl ?_
  refine y_aload 7 c136_6 rfl rfl rfl ?_
  refine y_getR 10 c136_7 rfl kf376_24 ?_
  refine y_iload 11 c136_10 rfl rfl ?_
  refine y_iaX 12 (m 387 1) c136_11 rfl ka387 (by decide) rfl ?_
  refine y_iconst 14 c136_12 rfl ?_
  refine y_icmp 21 17 c136_14 rfl rfl (yc_ge (by omega) (by omega)) (fun hb7889 => ?_) (fun hb7889 => ?_)
  · refine y_iconst 22 c136_21 rfl ?_
    have tb7891 := hT.atp 376 1 0 320 rfl
    have tb7892 := hT.atp 376 3 0 3 rfl
    have tb7893 := hT.atp 376 6 0 320 rfl
    have tb7894 := hT.atp 376 8 ((-1)) 320 rfl
    refine y_callIB 25 [.ref 376, yI 0] [] c136_22 rfl rfl rfl rfl rfl (ycanO km105 ko376) (t105 (g := 0) hT (by omega) (by omega)) (fun rq7890 mq7890 nq7890 hq7890 => ?_)
    obtain ⟨rfl, hTq7890, hFq7890, hq7890⟩ := hq7890
    have x1q7890 : mq7890 376 1 = m 376 1 := (hFq7890 376 1 rfl)
    have hF7895 := hF.tr hFq7890 wNw_wSt1
    refine y_if 29 28 c136_25 rfl rfl (yz_ne (by omega)) (fun hb7896 => ?_) (fun hb7896 => ?_)
    · refine y_aload 30 c136_29 rfl rfl rfl ?_
      have tb7897 := hTq7890.atp 376 3 0 3 rfl
      refine y_callP 33 [.ref 376] [] c136_30 rfl rfl rfl rfl rfl (ycanO km115 ko376) (t115 hTq7890) (fun r7898 hr7898 => ?_)
      refine y_if 41 36 c136_33 rfl rfl (yz_ne (by omega)) (fun hb7899 => ?_) (fun hb7899 => ?_)
      · refine y_aload 42 c136_41 rfl rfl rfl ?_
        refine y_iconst 43 c136_42 rfl ?_
        refine y_inlB 46 [.ref 376, yI 1] [] [some (.ref 376), some (yI 1)] c136_43 rfl rfl rfl rfl rfl (ycanO km134 ko376) kn134 rfl rfl ?_
        refine y_aload 1 c134_0 rfl rfl rfl ?_
        refine y_getR 4 c134_1 rfl kf376_15 ?_
        refine y_aload 5 c134_4 rfl rfl rfl ?_
        refine y_getX 8 (m 376 17) c134_5 rfl kf376_17 (hFq7890 376 17 rfl) ?_
        have tb7900 := hT.atp 376 17 0 20 rfl
        refine y_aload 9 c134_8 rfl rfl rfl ?_
        refine y_getX 12 (mq7890 376 4) c134_9 rfl kf376_4 rfl ?_
        have tb7901 := hTq7890.atp 376 4 ((-2147483648)) 2147483647 rfl
        refine y_iastore 13 c134_12 rfl ka381 (by omega) (y_nar0 _) ?_
        have hT7902 := hTq7890.up 381 ((m 376 17).toNat) (mq7890 376 4) ((-2147483648)) 2147483647 rfl (by omega)
        have hF7903 := hF7895.up 381 ((m 376 17).toNat) (mq7890 376 4) rfl
        refine y_aload 14 c134_13 rfl rfl rfl ?_
        refine y_getR 17 c134_14 rfl kf376_16 ?_
        refine y_aload 18 c134_17 rfl rfl rfl ?_
        refine y_getX 21 (m 376 17) c134_18 rfl kf376_17 ((yup_na (by decide)).trans (hFq7890 376 17 rfl)) ?_
        refine y_aload 22 c134_21 rfl rfl rfl ?_
        refine y_getX 25 (mq7890 376 5) c134_22 rfl kf376_5 rfl ?_
        have tb7904 := hTq7890.atp 376 5 0 320 rfl
        refine y_iastore 26 c134_25 rfl ka382 (by omega) (y_nar0 _) ?_
        have hT7905 := hT7902.up 382 ((m 376 17).toNat) (mq7890 376 5) 0 320 rfl (by omega)
        have hF7906 := hF7903.up 382 ((m 376 17).toNat) (mq7890 376 5) rfl
        refine y_aload 27 c134_26 rfl rfl rfl ?_
        refine y_dup 28 c134_27 rfl rfl ?_
        refine y_getX 31 (m 376 17) c134_28 rfl kf376_17 ((yup_na (by decide)).trans ((yup_na (by decide)).trans (hFq7890 376 17 rfl))) ?_
        refine y_iconst 32 c134_31 rfl ?_
        refine y_iadd 33 c134_32 rfl ?_
        refine y_putI 36 c134_33 rfl kf376_17 (y_fit0 _) ?_
        have hT7907 := hT7905.up 376 17 ((m 376 17) + 1) 0 20 rfl (by omega)
        have hF7908 := hF7906.up 376 17 ((m 376 17) + 1) rfl
        refine y_returnK c134_36 ?_
        refine y_aload 47 c136_46 rfl rfl rfl ?_
        refine y_getR 50 c136_47 rfl kf376_24 ?_
        refine y_iload 51 c136_50 rfl rfl ?_
        refine y_iaX 52 (m 387 1) c136_51 rfl ka387 (by decide) ((yup_na (by decide)).trans ((yup_na (by decide)).trans ((yup_na (by decide)).trans (hFq7890 387 1 rfl)))) ?_
        refine y_istore 53 c136_52 rfl rfl ?_
        refine y_aload 54 c136_53 rfl rfl rfl ?_
        refine y_getR 57 c136_54 rfl kf376_39 ?_
        refine y_iconst 59 c136_57 rfl ?_
        refine y_iload 60 c136_59 rfl rfl ?_
        refine y_imul 61 c136_60 rfl ?_
        refine y_top 8 (by decide) ?_
        refine y_iload 62 c136_61 rfl rfl ?_
        refine y_iadd 63 c136_62 rfl ?_
        refine y_aload 64 c136_63 rfl rfl rfl ?_
        refine y_getX 67 (mq7890 376 4) c136_64 rfl kf376_4 rfl ?_
        refine y_iastore 68 c136_67 rfl ka402 (by omega) (y_nar0 _) ?_
        have hT7909 := hT7907.up 402 ((8 + (m 387 1)).toNat) (mq7890 376 4) ((-2147483648)) 2147483647 rfl (by omega)
        have hF7910 := hF7908.up 402 ((8 + (m 387 1)).toNat) (mq7890 376 4) (wSt1_402 (by omega))
        refine y_aload 69 c136_68 rfl rfl rfl ?_
        refine y_getR 72 c136_69 rfl kf376_24 ?_
        refine y_iload 73 c136_72 rfl rfl ?_
        refine y_dup2 74 c136_73 rfl ⟨rfl, rfl⟩ ?_
        refine y_iaX 75 (m 387 1) c136_74 rfl ka387 (by decide) ((yup_na (by decide)).trans ((yup_na (by decide)).trans ((yup_na (by decide)).trans ((yup_na (by decide)).trans (hFq7890 387 1 rfl))))) ?_
        refine y_iconst 76 c136_75 rfl ?_
        refine y_iadd 77 c136_76 rfl ?_
        refine y_iastore 78 c136_77 rfl ka387 (by omega) (y_nar0 _) ?_
        have hT7911 := hT7909.up 387 ((1 : Int).toNat) ((m 387 1) + 1) 0 8 rfl (by omega)
        have hF7912 := hF7910.up 387 ((1 : Int).toNat) ((m 387 1) + 1) rfl
        refine y_aload 79 c136_78 rfl rfl rfl ?_
        have es7914 : (yup (yup (yup (yup (yup mq7890 381 ((m 376 17).toNat) (mq7890 376 4)) 382 ((m 376 17).toNat) (mq7890 376 5)) 376 17 ((m 376 17) + 1)) 402 ((8 + (m 387 1)).toNat) (mq7890 376 4)) 387 ((1 : Int).toNat) ((m 387 1) + 1)) 376 1 = m 376 1 := ((yup_na (by decide)).trans ((yup_na (by decide)).trans ((yup_nk (by decide)).trans ((yup_na (by decide)).trans ((yup_na (by decide)).trans (hFq7890 376 1 rfl))))))
        have es7915 : (yup (yup (yup (yup (yup mq7890 381 ((m 376 17).toNat) (mq7890 376 4)) 382 ((m 376 17).toNat) (mq7890 376 5)) 376 17 ((m 376 17) + 1)) 402 ((8 + (m 387 1)).toNat) (mq7890 376 4)) 387 ((1 : Int).toNat) ((m 387 1) + 1)) 376 3 = mq7890 376 3 := rfl
        have es7916 : (yup (yup (yup (yup (yup mq7890 381 ((m 376 17).toNat) (mq7890 376 4)) 382 ((m 376 17).toNat) (mq7890 376 5)) 376 17 ((m 376 17) + 1)) 402 ((8 + (m 387 1)).toNat) (mq7890 376 4)) 387 ((1 : Int).toNat) ((m 387 1) + 1)) 376 6 = mq7890 376 6 := rfl
        have tb7917 := hTq7890.atp 376 6 0 320 rfl
        have es7918 : (yup (yup (yup (yup (yup mq7890 381 ((m 376 17).toNat) (mq7890 376 4)) 382 ((m 376 17).toNat) (mq7890 376 5)) 376 17 ((m 376 17) + 1)) 402 ((8 + (m 387 1)).toNat) (mq7890 376 4)) 387 ((1 : Int).toNat) ((m 387 1) + 1)) 376 8 = mq7890 376 8 := rfl
        have tb7919 := hTq7890.atp 376 8 ((-1)) 320 rfl
        have em7920 : mu (yup (yup (yup (yup (yup mq7890 381 ((m 376 17).toNat) (mq7890 376 4)) 382 ((m 376 17).toNat) (mq7890 376 5)) 376 17 ((m 376 17) + 1)) 402 ((8 + (m 387 1)).toNat) (mq7890 376 4)) 387 ((1 : Int).toNat) ((m 387 1) + 1)) = mu mq7890 := mu_fr ((yup_na (by decide)).trans ((yup_na (by decide)).trans ((yup_nk (by decide)).trans ((yup_na (by decide)).trans (yup_na (by decide)))))) ((yup_na (by decide)).trans ((yup_na (by decide)).trans ((yup_nk (by decide)).trans ((yup_na (by decide)).trans (yup_na (by decide)))))) ((yup_na (by decide)).trans ((yup_na (by decide)).trans ((yup_nk (by decide)).trans ((yup_na (by decide)).trans (yup_na (by decide))))))
        refine y_callUB 82 [.ref 376] [] c136_79 rfl rfl rfl rfl rfl (ycanO km99 ko376) (t99u hT7911 (by omega)) (fun mq7913 nq7913 hq7913 => ?_)
        obtain ⟨rfl, hTq7913, hFq7913, hq7913⟩ := hq7913
        have x1q7913 : mq7913 376 1 = m 376 1 := ((hFq7913 376 1 rfl).trans ((yup_na (by decide)).trans ((yup_na (by decide)).trans ((yup_nk (by decide)).trans ((yup_na (by decide)).trans ((yup_na (by decide)).trans (hFq7890 376 1 rfl)))))))
        have hF7921 := hF7912.tr hFq7913 wNx_wSt1
        refine y_aload 83 c136_82 rfl rfl rfl ?_
        refine y_iconst 85 c136_83 rfl ?_
        have es7923 : mq7913 376 1 = m 376 1 := ((hFq7913 376 1 rfl).trans ((yup_na (by decide)).trans ((yup_na (by decide)).trans ((yup_nk (by decide)).trans ((yup_na (by decide)).trans ((yup_na (by decide)).trans (hFq7890 376 1 rfl)))))))
        have tb7924 := hTq7913.atp 376 3 0 3 rfl
        have tb7925 := hTq7913.atp 376 6 0 320 rfl
        have es7926 : mq7913 376 8 = mq7890 376 8 := ((hFq7913 376 8 rfl).trans ((yup_na (by decide)).trans ((yup_na (by decide)).trans ((yup_nk (by decide)).trans ((yup_na (by decide)).trans (yup_na (by decide)))))))
        refine y_callIB 88 [.ref 376, yI 41] [] c136_85 rfl rfl rfl rfl rfl (ycanO km118 ko376) (t118 hTq7913 (by omega) (by omega)) (fun rq7922 mq7922 nq7922 hq7922 => ?_)
        obtain ⟨rfl, hTq7922, hFq7922, hq7922⟩ := hq7922
        have x1q7922 : mq7922 376 1 = m 376 1 := ((hFq7922 376 1 rfl).trans ((hFq7913 376 1 rfl).trans ((yup_na (by decide)).trans ((yup_na (by decide)).trans ((yup_nk (by decide)).trans ((yup_na (by decide)).trans ((yup_na (by decide)).trans (hFq7890 376 1 rfl))))))))
        have hF7927 := hF7921.tr hFq7922 wNw_wSt1
        refine y_if 92 91 c136_88 rfl rfl (yz_ne (by omega)) (fun hb7928 => ?_) (fun hb7928 => ?_)
        · refine y_aload 93 c136_92 rfl rfl rfl ?_
          have es7930 : mq7922 376 1 = m 376 1 := ((hFq7922 376 1 rfl).trans ((hFq7913 376 1 rfl).trans ((yup_na (by decide)).trans ((yup_na (by decide)).trans ((yup_nk (by decide)).trans ((yup_na (by decide)).trans ((yup_na (by decide)).trans (hFq7890 376 1 rfl))))))))
          have tb7931 := hTq7922.atp 376 3 0 3 rfl
          have tb7932 := hTq7922.atp 376 6 0 320 rfl
          have tb7933 := hTq7922.atp 376 8 ((-1)) 320 rfl
          have es7934 : mq7922 376 18 = m 376 18 := ((hFq7922 376 18 rfl).trans ((hFq7913 376 18 rfl).trans ((yup_na (by decide)).trans ((yup_na (by decide)).trans ((yup_nk (by decide)).trans ((yup_na (by decide)).trans ((yup_na (by decide)).trans (hFq7890 376 18 rfl))))))))
          refine y_callIB 96 [.ref 376] [] c136_93 rfl rfl rfl rfl rfl (ycanO km130 ko376) (t130_1 hTq7922 (by omega) (by omega) (by omega)) (fun rq7929 mq7929 nq7929 hq7929 => ?_)
          obtain ⟨rfl, hTq7929, hFq7929, hq7929⟩ := hq7929
          have x1q7929 : mq7929 376 1 = m 376 1 := ((hFq7929 376 1 rfl).trans ((hFq7922 376 1 rfl).trans ((hFq7913 376 1 rfl).trans ((yup_na (by decide)).trans ((yup_na (by decide)).trans ((yup_nk (by decide)).trans ((yup_na (by decide)).trans ((yup_na (by decide)).trans (hFq7890 376 1 rfl)))))))))
          have hF7935 := hF7927.tr hFq7929 wVr1_wSt1
          refine y_istore 98 c136_96 rfl rfl ?_
          refine y_aload 99 c136_98 rfl rfl rfl ?_
          refine y_getR 102 c136_99 rfl kf376_38 ?_
          refine y_iconst 104 c136_102 rfl ?_
          refine y_iload 105 c136_104 rfl rfl ?_
          refine y_imul 106 c136_105 rfl ?_
          refine y_top 8 (by decide) ?_
          refine y_iload 107 c136_106 rfl rfl ?_
          refine y_iadd 108 c136_107 rfl ?_
          refine y_iload 110 c136_108 rfl rfl ?_
          refine y_iastore 111 c136_110 rfl ka401 (by omega) (y_nar0 _) ?_
          have hT7936 := hTq7929.up 401 ((8 + (m 387 1)).toNat) rq7929 ((-1)) 47 rfl (by omega)
          have hF7937 := hF7935.up 401 ((8 + (m 387 1)).toNat) rq7929 (wSt1_401 (by omega))
          refine y_aload 112 c136_111 rfl rfl rfl ?_
          refine y_getX 115 (mq7929 376 8) c136_112 rfl kf376_8 rfl ?_
          have tb7938 := hTq7929.atp 376 8 ((-1)) 320 rfl
          refine y_if 129 118 c136_115 rfl rfl (yz_ge (by omega)) (fun hb7939 => ?_) (fun hb7939 => ?_)
          · have es7940 : (yup mq7929 401 ((8 + (m 387 1)).toNat) rq7929) 376 1 = m 376 1 := ((yup_na (by decide)).trans ((hFq7929 376 1 rfl).trans ((hFq7922 376 1 rfl).trans ((hFq7913 376 1 rfl).trans ((yup_na (by decide)).trans ((yup_na (by decide)).trans ((yup_nk (by decide)).trans ((yup_na (by decide)).trans ((yup_na (by decide)).trans (hFq7890 376 1 rfl))))))))))
            have es7941 : (yup mq7929 401 ((8 + (m 387 1)).toNat) rq7929) 376 3 = mq7929 376 3 := rfl
            have tb7942 := hTq7929.atp 376 3 0 3 rfl
            have es7943 : (yup mq7929 401 ((8 + (m 387 1)).toNat) rq7929) 376 6 = mq7929 376 6 := rfl
            have tb7944 := hTq7929.atp 376 6 0 320 rfl
            have es7945 : (yup mq7929 401 ((8 + (m 387 1)).toNat) rq7929) 376 8 = mq7929 376 8 := rfl
            exact y_retU c136_129 ⟨rfl, hT7936, hF7937, by omega, Or.inl (by omega)⟩
          · refine y_aload 119 c136_118 rfl rfl rfl ?_
            refine y_iconst 120 c136_119 rfl ?_
            refine y_iload 121 c136_120 rfl rfl ?_
            refine y_iload 123 c136_121 rfl rfl ?_
            refine y_iload 124 c136_123 rfl rfl ?_
            have es7947 : (yup mq7929 401 ((8 + (m 387 1)).toNat) rq7929) 376 1 = m 376 1 := ((yup_na (by decide)).trans ((hFq7929 376 1 rfl).trans ((hFq7922 376 1 rfl).trans ((hFq7913 376 1 rfl).trans ((yup_na (by decide)).trans ((yup_na (by decide)).trans ((yup_nk (by decide)).trans ((yup_na (by decide)).trans ((yup_na (by decide)).trans (hFq7890 376 1 rfl))))))))))
            have es7948 : (yup mq7929 401 ((8 + (m 387 1)).toNat) rq7929) 376 3 = mq7929 376 3 := rfl
            have tb7949 := hTq7929.atp 376 3 0 3 rfl
            have es7950 : (yup mq7929 401 ((8 + (m 387 1)).toNat) rq7929) 376 6 = mq7929 376 6 := rfl
            have tb7951 := hTq7929.atp 376 6 0 320 rfl
            have es7952 : (yup mq7929 401 ((8 + (m 387 1)).toNat) rq7929) 376 8 = mq7929 376 8 := rfl
            have es7953 : (yup mq7929 401 ((8 + (m 387 1)).toNat) rq7929) 376 18 = m 376 18 := ((yup_na (by decide)).trans ((hFq7929 376 18 rfl).trans ((hFq7922 376 18 rfl).trans ((hFq7913 376 18 rfl).trans ((yup_na (by decide)).trans ((yup_na (by decide)).trans ((yup_nk (by decide)).trans ((yup_na (by decide)).trans ((yup_na (by decide)).trans (hFq7890 376 18 rfl))))))))))
            have es7954 : (yup mq7929 401 ((8 + (m 387 1)).toNat) rq7929) 390 1 = m 390 1 := ((yup_na (by decide)).trans ((hFq7929 390 1 rfl).trans ((hFq7922 390 1 rfl).trans ((hFq7913 390 1 rfl).trans ((yup_na (by decide)).trans ((yup_na (by decide)).trans ((yup_na (by decide)).trans ((yup_na (by decide)).trans ((yup_na (by decide)).trans (hFq7890 390 1 rfl))))))))))
            have es7955 : (yup mq7929 401 ((8 + (m 387 1)).toNat) rq7929) 386 1 = m 386 1 := ((yup_na (by decide)).trans ((hFq7929 386 1 rfl).trans ((hFq7922 386 1 rfl).trans ((hFq7913 386 1 rfl).trans ((yup_na (by decide)).trans ((yup_na (by decide)).trans ((yup_na (by decide)).trans ((yup_na (by decide)).trans ((yup_na (by decide)).trans (hFq7890 386 1 rfl))))))))))
            have es7956 : (yup mq7929 401 ((8 + (m 387 1)).toNat) rq7929) 387 1 = (m 387 1) + 1 := ((yup_na (by decide)).trans ((hFq7929 387 1 rfl).trans ((hFq7922 387 1 rfl).trans ((hFq7913 387 1 rfl).trans (yup_eq _ _ _ _)))))
            have es7957 : (yup mq7929 401 ((8 + (m 387 1)).toNat) rq7929) 388 1 = m 388 1 := ((yup_na (by decide)).trans ((hFq7929 388 1 rfl).trans ((hFq7922 388 1 rfl).trans ((hFq7913 388 1 rfl).trans ((yup_na (by decide)).trans ((yup_na (by decide)).trans ((yup_na (by decide)).trans ((yup_na (by decide)).trans ((yup_na (by decide)).trans (hFq7890 388 1 rfl))))))))))
            have es7958 : (yup mq7929 401 ((8 + (m 387 1)).toNat) rq7929) 376 17 = (m 376 17) + 1 := ((yup_na (by decide)).trans ((hFq7929 376 17 rfl).trans ((hFq7922 376 17 rfl).trans ((hFq7913 376 17 rfl).trans ((yup_na (by decide)).trans ((yup_na (by decide)).trans (yup_eq _ _ _ _)))))))
            have es7959 : (yup mq7929 401 ((8 + (m 387 1)).toNat) rq7929) 384 1 = m 384 1 := ((yup_na (by decide)).trans ((hFq7929 384 1 rfl).trans ((hFq7922 384 1 rfl).trans ((hFq7913 384 1 rfl).trans ((yup_na (by decide)).trans ((yup_na (by decide)).trans ((yup_na (by decide)).trans ((yup_na (by decide)).trans ((yup_na (by decide)).trans (hFq7890 384 1 rfl))))))))))
            have em7960 : mu (yup mq7929 401 ((8 + (m 387 1)).toNat) rq7929) = mu mq7929 := mu_fr (yup_na (by decide)) (yup_na (by decide)) (yup_na (by decide))
            refine y_callIB 127 [.ref 376, yI 3, yI v, yI rq7929, yI (m 387 1)] [] c136_124 rfl rfl rfl rfl rfl (ycanO km127 ko376) (t127_1 hT7936 (by omega) (by omega) (by omega) (by omega) (by omega) (by omega)) (fun rq7946 mq7946 nq7946 hq7946 => ?_)
            obtain ⟨rfl, hTq7946, hFq7946, hq7946, hE⟩ := hq7946
            unfold EM at hE
            rw [show (yup mq7929 401 ((8 + (m 387 1)).toNat) rq7929) 390 1 = m 390 1 from ((yup_na (by decide)).trans ((hFq7929 390 1 rfl).trans ((hFq7922 390 1 rfl).trans ((hFq7913 390 1 rfl).trans ((yup_na (by decide)).trans ((yup_na (by decide)).trans ((yup_na (by decide)).trans ((yup_na (by decide)).trans ((yup_na (by decide)).trans (hFq7890 390 1 rfl))))))))))] at hE
            obtain ⟨k1, k2, k3, k4, k5, k6, k7⟩ := hE
            have k8 : ∀ q, q < 1000 * 1 + 8 * (m 390 1).toNat ∨ 1000 * 1 + 8 * (m 390 1).toNat + 8 ≤ q → mq7946 403 q = m 403 q := fun q hq => (k7 q hq).trans (((yup_na (by decide)).trans ((hFq7929 403 q rfl).trans ((hFq7922 403 q rfl).trans ((hFq7913 403 q rfl).trans ((yup_na (by decide)).trans ((yup_na (by decide)).trans ((yup_na (by decide)).trans ((yup_na (by decide)).trans ((yup_na (by decide)).trans (hFq7890 403 q rfl)))))))))))
            have x1q7946 : mq7946 376 1 = m 376 1 := ((hFq7946 376 1 rfl).trans ((yup_na (by decide)).trans ((hFq7929 376 1 rfl).trans ((hFq7922 376 1 rfl).trans ((hFq7913 376 1 rfl).trans ((yup_na (by decide)).trans ((yup_na (by decide)).trans ((yup_nk (by decide)).trans ((yup_na (by decide)).trans ((yup_na (by decide)).trans (hFq7890 376 1 rfl)))))))))))
            have hF7961 := hF7937.tr hFq7946 wEm1_wSt1
            refine y_istore 129 c136_127 rfl rfl ?_
            have es7962 : mq7946 376 1 = m 376 1 := ((hFq7946 376 1 rfl).trans ((yup_na (by decide)).trans ((hFq7929 376 1 rfl).trans ((hFq7922 376 1 rfl).trans ((hFq7913 376 1 rfl).trans ((yup_na (by decide)).trans ((yup_na (by decide)).trans ((yup_nk (by decide)).trans ((yup_na (by decide)).trans ((yup_na (by decide)).trans (hFq7890 376 1 rfl)))))))))))
            have es7963 : mq7946 376 3 = mq7929 376 3 := ((hFq7946 376 3 rfl).trans (yup_na (by decide)))
            have es7964 : mq7946 376 6 = mq7929 376 6 := ((hFq7946 376 6 rfl).trans (yup_na (by decide)))
            have es7965 : mq7946 376 8 = mq7929 376 8 := ((hFq7946 376 8 rfl).trans (yup_na (by decide)))
            have tb7966 := hTq7946.atp 390 1 0 125 rfl
            have es7967 : mq7946 386 1 = m 386 1 := ((hFq7946 386 1 rfl).trans ((yup_na (by decide)).trans ((hFq7929 386 1 rfl).trans ((hFq7922 386 1 rfl).trans ((hFq7913 386 1 rfl).trans ((yup_na (by decide)).trans ((yup_na (by decide)).trans ((yup_na (by decide)).trans ((yup_na (by decide)).trans ((yup_na (by decide)).trans (hFq7890 386 1 rfl)))))))))))
            have es7968 : mq7946 387 1 = (m 387 1) + 1 := ((hFq7946 387 1 rfl).trans ((yup_na (by decide)).trans ((hFq7929 387 1 rfl).trans ((hFq7922 387 1 rfl).trans ((hFq7913 387 1 rfl).trans (yup_eq _ _ _ _))))))
            have es7969 : mq7946 388 1 = m 388 1 := ((hFq7946 388 1 rfl).trans ((yup_na (by decide)).trans ((hFq7929 388 1 rfl).trans ((hFq7922 388 1 rfl).trans ((hFq7913 388 1 rfl).trans ((yup_na (by decide)).trans ((yup_na (by decide)).trans ((yup_na (by decide)).trans ((yup_na (by decide)).trans ((yup_na (by decide)).trans (hFq7890 388 1 rfl)))))))))))
            have es7970 : mq7946 376 17 = (m 376 17) + 1 := ((hFq7946 376 17 rfl).trans ((yup_na (by decide)).trans ((hFq7929 376 17 rfl).trans ((hFq7922 376 17 rfl).trans ((hFq7913 376 17 rfl).trans ((yup_na (by decide)).trans ((yup_na (by decide)).trans (yup_eq _ _ _ _))))))))
            have es7971 : mq7946 384 1 = m 384 1 := ((hFq7946 384 1 rfl).trans ((yup_na (by decide)).trans ((hFq7929 384 1 rfl).trans ((hFq7922 384 1 rfl).trans ((hFq7913 384 1 rfl).trans ((yup_na (by decide)).trans ((yup_na (by decide)).trans ((yup_na (by decide)).trans ((yup_na (by decide)).trans ((yup_na (by decide)).trans (hFq7890 384 1 rfl)))))))))))
            have em7972 : mu mq7946 = mu mq7929 := mu_fr ((hFq7946 376 1 rfl).trans (yup_na (by decide))) ((hFq7946 376 3 rfl).trans (yup_na (by decide))) ((hFq7946 376 6 rfl).trans (yup_na (by decide)))
            have f0 : mq7946 403 (1000 * 1 + 8 * (m 390 1).toNat) = _ := k2
            have f1 : mq7946 403 (1000 * 1 + 8 * (m 390 1).toNat + 1) = _ := k3
            have f2 : mq7946 403 (1000 * 1 + 8 * (m 390 1).toNat + 2) = _ := k4
            have f3 : mq7946 403 (1000 * 1 + 8 * (m 390 1).toNat + 3) = _ := k5
            have f4 : mq7946 403 (1000 * 1 + 8 * (m 390 1).toNat + 4) = _ := k6
            have hw : OW mq7946 (1000 * 1 + 8 * (m 390 1).toNat) := by unfold OW; omega
            have hx : XS 1 mq7946 := XS.add hX (by omega) (fun a q ha => hF7961 a q (wSt1_Y a q ha)) (fun q hq => k8 q hq) hw (by omega) (by omega) (by omega) (by omega) (by omega) (by omega) (by omega) (fun c hc => by
      by_cases ec : c = (m 387 1).toNat
      · subst ec; rw [show mq7946 401 (8 * 1 + (m 387 1).toNat) = rq7929 from by rw [show 8 * 1 + (m 387 1).toNat = (8 + (m 387 1)).toNat by omega]; exact ((hFq7946 401 _ rfl).trans (yup_eq _ _ _ _))]; omega
      · rw [show mq7946 401 (8 * 1 + c) = m 401 (8 * 1 + c) from ((hFq7946 401 _ rfl).trans ((yup_nk (by omega)).trans ((hFq7929 401 _ rfl).trans ((hFq7922 401 _ rfl).trans ((hFq7913 401 _ rfl).trans ((yup_na (by decide)).trans ((yup_na (by decide)).trans ((yup_na (by decide)).trans ((yup_na (by decide)).trans ((yup_na (by decide)).trans (hFq7890 401 _ rfl)))))))))))]; exact hCV c (by omega)) (by omega) (by omega)
            exact y_retU c136_129 ⟨rfl, hTq7946, hF7961, by omega, by first | exact Or.inl (by omega) | exact Or.inr ⟨by omega, by omega, by omega, hx⟩⟩
        · have es7973 : mq7922 376 1 = m 376 1 := ((hFq7922 376 1 rfl).trans ((hFq7913 376 1 rfl).trans ((yup_na (by decide)).trans ((yup_na (by decide)).trans ((yup_nk (by decide)).trans ((yup_na (by decide)).trans ((yup_na (by decide)).trans (hFq7890 376 1 rfl))))))))
          have tb7974 := hTq7922.atp 376 3 0 3 rfl
          have tb7975 := hTq7922.atp 376 6 0 320 rfl
          have tb7976 := hTq7922.atp 376 8 ((-1)) 320 rfl
          exact y_retU c136_91 ⟨rfl, hTq7922, hF7927, by omega, Or.inl (by omega)⟩
      · refine y_aload 37 c136_36 rfl rfl rfl ?_
        have es7978 : mq7890 376 1 = m 376 1 := (hFq7890 376 1 rfl)
        have tb7979 := hTq7890.atp 376 6 0 320 rfl
        have tb7980 := hTq7890.atp 376 8 ((-1)) 320 rfl
        refine y_callUB 40 [.ref 376] [] c136_37 rfl rfl rfl rfl rfl (ycanO km104 ko376) (t104 hTq7890) (fun mq7977 nq7977 hq7977 => ?_)
        obtain ⟨rfl, hTq7977, hFq7977, hq7977⟩ := hq7977
        have x1q7977 : mq7977 376 1 = m 376 1 := ((hFq7977 376 1 rfl).trans (hFq7890 376 1 rfl))
        have hF7981 := hF7895.tr hFq7977 wWr_wSt1
        have es7982 : mq7977 376 1 = m 376 1 := ((hFq7977 376 1 rfl).trans (hFq7890 376 1 rfl))
        have es7983 : mq7977 376 3 = mq7890 376 3 := (hFq7977 376 3 rfl)
        have es7984 : mq7977 376 6 = mq7890 376 6 := (hFq7977 376 6 rfl)
        have tb7985 := hTq7977.atp 376 8 ((-1)) 320 rfl
        exact y_retU c136_40 ⟨rfl, hTq7977, hF7981, by omega, Or.inl (by omega)⟩
    · have es7986 : mq7890 376 1 = m 376 1 := (hFq7890 376 1 rfl)
      have tb7987 := hTq7890.atp 376 3 0 3 rfl
      have tb7988 := hTq7890.atp 376 6 0 320 rfl
      have tb7989 := hTq7890.atp 376 8 ((-1)) 320 rfl
      exact y_retU c136_28 ⟨rfl, hTq7890, hF7895, by omega, Or.inl (by omega)⟩
  · refine y_iconst 18 c136_17 rfl ?_
    refine y_goto 22 c136_18 rfl ?_
    have tb7991 := hT.atp 376 1 0 320 rfl
    have tb7992 := hT.atp 376 3 0 3 rfl
    have tb7993 := hT.atp 376 6 0 320 rfl
    have tb7994 := hT.atp 376 8 ((-1)) 320 rfl
    refine y_callIB 25 [.ref 376, yI 1] [] c136_22 rfl rfl rfl rfl rfl (ycanO km105 ko376) (t105 (g := 1) hT (by omega) (by omega)) (fun rq7990 mq7990 nq7990 hq7990 => ?_)
    obtain ⟨rfl, hTq7990, hFq7990, hq7990⟩ := hq7990
    have x1q7990 : mq7990 376 1 = m 376 1 := (hFq7990 376 1 rfl)
    have hF7995 := hF.tr hFq7990 wNw_wSt1
    refine y_if 29 28 c136_25 rfl rfl (yz_ne (by omega)) (fun hb7996 => ?_) (fun hb7996 => ?_)
    · refine y_aload 30 c136_29 rfl rfl rfl ?_
      have tb7997 := hTq7990.atp 376 3 0 3 rfl
      refine y_callP 33 [.ref 376] [] c136_30 rfl rfl rfl rfl rfl (ycanO km115 ko376) (t115 hTq7990) (fun r7998 hr7998 => ?_)
      refine y_if 41 36 c136_33 rfl rfl (yz_ne (by omega)) (fun hb7999 => ?_) (fun hb7999 => ?_)
      · refine y_aload 42 c136_41 rfl rfl rfl ?_
        refine y_iconst 43 c136_42 rfl ?_
        refine y_inlB 46 [.ref 376, yI 1] [] [some (.ref 376), some (yI 1)] c136_43 rfl rfl rfl rfl rfl (ycanO km134 ko376) kn134 rfl rfl ?_
        refine y_aload 1 c134_0 rfl rfl rfl ?_
        refine y_getR 4 c134_1 rfl kf376_15 ?_
        refine y_aload 5 c134_4 rfl rfl rfl ?_
        refine y_getX 8 (m 376 17) c134_5 rfl kf376_17 (hFq7990 376 17 rfl) ?_
        have tb8000 := hT.atp 376 17 0 20 rfl
        refine y_aload 9 c134_8 rfl rfl rfl ?_
        refine y_getX 12 (mq7990 376 4) c134_9 rfl kf376_4 rfl ?_
        have tb8001 := hTq7990.atp 376 4 ((-2147483648)) 2147483647 rfl
        refine y_iastore 13 c134_12 rfl ka381 (by omega) (y_nar0 _) ?_
        have hT8002 := hTq7990.up 381 ((m 376 17).toNat) (mq7990 376 4) ((-2147483648)) 2147483647 rfl (by omega)
        have hF8003 := hF7995.up 381 ((m 376 17).toNat) (mq7990 376 4) rfl
        refine y_aload 14 c134_13 rfl rfl rfl ?_
        refine y_getR 17 c134_14 rfl kf376_16 ?_
        refine y_aload 18 c134_17 rfl rfl rfl ?_
        refine y_getX 21 (m 376 17) c134_18 rfl kf376_17 ((yup_na (by decide)).trans (hFq7990 376 17 rfl)) ?_
        refine y_aload 22 c134_21 rfl rfl rfl ?_
        refine y_getX 25 (mq7990 376 5) c134_22 rfl kf376_5 rfl ?_
        have tb8004 := hTq7990.atp 376 5 0 320 rfl
        refine y_iastore 26 c134_25 rfl ka382 (by omega) (y_nar0 _) ?_
        have hT8005 := hT8002.up 382 ((m 376 17).toNat) (mq7990 376 5) 0 320 rfl (by omega)
        have hF8006 := hF8003.up 382 ((m 376 17).toNat) (mq7990 376 5) rfl
        refine y_aload 27 c134_26 rfl rfl rfl ?_
        refine y_dup 28 c134_27 rfl rfl ?_
        refine y_getX 31 (m 376 17) c134_28 rfl kf376_17 ((yup_na (by decide)).trans ((yup_na (by decide)).trans (hFq7990 376 17 rfl))) ?_
        refine y_iconst 32 c134_31 rfl ?_
        refine y_iadd 33 c134_32 rfl ?_
        refine y_putI 36 c134_33 rfl kf376_17 (y_fit0 _) ?_
        have hT8007 := hT8005.up 376 17 ((m 376 17) + 1) 0 20 rfl (by omega)
        have hF8008 := hF8006.up 376 17 ((m 376 17) + 1) rfl
        refine y_returnK c134_36 ?_
        refine y_aload 47 c136_46 rfl rfl rfl ?_
        refine y_getR 50 c136_47 rfl kf376_24 ?_
        refine y_iload 51 c136_50 rfl rfl ?_
        refine y_iaX 52 (m 387 1) c136_51 rfl ka387 (by decide) ((yup_na (by decide)).trans ((yup_na (by decide)).trans ((yup_na (by decide)).trans (hFq7990 387 1 rfl)))) ?_
        refine y_istore 53 c136_52 rfl rfl ?_
        refine y_aload 54 c136_53 rfl rfl rfl ?_
        refine y_getR 57 c136_54 rfl kf376_39 ?_
        refine y_iconst 59 c136_57 rfl ?_
        refine y_iload 60 c136_59 rfl rfl ?_
        refine y_imul 61 c136_60 rfl ?_
        refine y_top 8 (by decide) ?_
        refine y_iload 62 c136_61 rfl rfl ?_
        refine y_iadd 63 c136_62 rfl ?_
        refine y_aload 64 c136_63 rfl rfl rfl ?_
        refine y_getX 67 (mq7990 376 4) c136_64 rfl kf376_4 rfl ?_
        refine y_iastore 68 c136_67 rfl ka402 (by omega) (y_nar0 _) ?_
        have hT8009 := hT8007.up 402 ((8 + (m 387 1)).toNat) (mq7990 376 4) ((-2147483648)) 2147483647 rfl (by omega)
        have hF8010 := hF8008.up 402 ((8 + (m 387 1)).toNat) (mq7990 376 4) (wSt1_402 (by omega))
        refine y_aload 69 c136_68 rfl rfl rfl ?_
        refine y_getR 72 c136_69 rfl kf376_24 ?_
        refine y_iload 73 c136_72 rfl rfl ?_
        refine y_dup2 74 c136_73 rfl ⟨rfl, rfl⟩ ?_
        refine y_iaX 75 (m 387 1) c136_74 rfl ka387 (by decide) ((yup_na (by decide)).trans ((yup_na (by decide)).trans ((yup_na (by decide)).trans ((yup_na (by decide)).trans (hFq7990 387 1 rfl))))) ?_
        refine y_iconst 76 c136_75 rfl ?_
        refine y_iadd 77 c136_76 rfl ?_
        refine y_iastore 78 c136_77 rfl ka387 (by omega) (y_nar0 _) ?_
        have hT8011 := hT8009.up 387 ((1 : Int).toNat) ((m 387 1) + 1) 0 8 rfl (by omega)
        have hF8012 := hF8010.up 387 ((1 : Int).toNat) ((m 387 1) + 1) rfl
        refine y_aload 79 c136_78 rfl rfl rfl ?_
        have es8014 : (yup (yup (yup (yup (yup mq7990 381 ((m 376 17).toNat) (mq7990 376 4)) 382 ((m 376 17).toNat) (mq7990 376 5)) 376 17 ((m 376 17) + 1)) 402 ((8 + (m 387 1)).toNat) (mq7990 376 4)) 387 ((1 : Int).toNat) ((m 387 1) + 1)) 376 1 = m 376 1 := ((yup_na (by decide)).trans ((yup_na (by decide)).trans ((yup_nk (by decide)).trans ((yup_na (by decide)).trans ((yup_na (by decide)).trans (hFq7990 376 1 rfl))))))
        have es8015 : (yup (yup (yup (yup (yup mq7990 381 ((m 376 17).toNat) (mq7990 376 4)) 382 ((m 376 17).toNat) (mq7990 376 5)) 376 17 ((m 376 17) + 1)) 402 ((8 + (m 387 1)).toNat) (mq7990 376 4)) 387 ((1 : Int).toNat) ((m 387 1) + 1)) 376 3 = mq7990 376 3 := rfl
        have es8016 : (yup (yup (yup (yup (yup mq7990 381 ((m 376 17).toNat) (mq7990 376 4)) 382 ((m 376 17).toNat) (mq7990 376 5)) 376 17 ((m 376 17) + 1)) 402 ((8 + (m 387 1)).toNat) (mq7990 376 4)) 387 ((1 : Int).toNat) ((m 387 1) + 1)) 376 6 = mq7990 376 6 := rfl
        have tb8017 := hTq7990.atp 376 6 0 320 rfl
        have es8018 : (yup (yup (yup (yup (yup mq7990 381 ((m 376 17).toNat) (mq7990 376 4)) 382 ((m 376 17).toNat) (mq7990 376 5)) 376 17 ((m 376 17) + 1)) 402 ((8 + (m 387 1)).toNat) (mq7990 376 4)) 387 ((1 : Int).toNat) ((m 387 1) + 1)) 376 8 = mq7990 376 8 := rfl
        have tb8019 := hTq7990.atp 376 8 ((-1)) 320 rfl
        have em8020 : mu (yup (yup (yup (yup (yup mq7990 381 ((m 376 17).toNat) (mq7990 376 4)) 382 ((m 376 17).toNat) (mq7990 376 5)) 376 17 ((m 376 17) + 1)) 402 ((8 + (m 387 1)).toNat) (mq7990 376 4)) 387 ((1 : Int).toNat) ((m 387 1) + 1)) = mu mq7990 := mu_fr ((yup_na (by decide)).trans ((yup_na (by decide)).trans ((yup_nk (by decide)).trans ((yup_na (by decide)).trans (yup_na (by decide)))))) ((yup_na (by decide)).trans ((yup_na (by decide)).trans ((yup_nk (by decide)).trans ((yup_na (by decide)).trans (yup_na (by decide)))))) ((yup_na (by decide)).trans ((yup_na (by decide)).trans ((yup_nk (by decide)).trans ((yup_na (by decide)).trans (yup_na (by decide))))))
        refine y_callUB 82 [.ref 376] [] c136_79 rfl rfl rfl rfl rfl (ycanO km99 ko376) (t99u hT8011 (by omega)) (fun mq8013 nq8013 hq8013 => ?_)
        obtain ⟨rfl, hTq8013, hFq8013, hq8013⟩ := hq8013
        have x1q8013 : mq8013 376 1 = m 376 1 := ((hFq8013 376 1 rfl).trans ((yup_na (by decide)).trans ((yup_na (by decide)).trans ((yup_nk (by decide)).trans ((yup_na (by decide)).trans ((yup_na (by decide)).trans (hFq7990 376 1 rfl)))))))
        have hF8021 := hF8012.tr hFq8013 wNx_wSt1
        refine y_aload 83 c136_82 rfl rfl rfl ?_
        refine y_iconst 85 c136_83 rfl ?_
        have es8023 : mq8013 376 1 = m 376 1 := ((hFq8013 376 1 rfl).trans ((yup_na (by decide)).trans ((yup_na (by decide)).trans ((yup_nk (by decide)).trans ((yup_na (by decide)).trans ((yup_na (by decide)).trans (hFq7990 376 1 rfl)))))))
        have tb8024 := hTq8013.atp 376 3 0 3 rfl
        have tb8025 := hTq8013.atp 376 6 0 320 rfl
        have es8026 : mq8013 376 8 = mq7990 376 8 := ((hFq8013 376 8 rfl).trans ((yup_na (by decide)).trans ((yup_na (by decide)).trans ((yup_nk (by decide)).trans ((yup_na (by decide)).trans (yup_na (by decide)))))))
        refine y_callIB 88 [.ref 376, yI 41] [] c136_85 rfl rfl rfl rfl rfl (ycanO km118 ko376) (t118 hTq8013 (by omega) (by omega)) (fun rq8022 mq8022 nq8022 hq8022 => ?_)
        obtain ⟨rfl, hTq8022, hFq8022, hq8022⟩ := hq8022
        have x1q8022 : mq8022 376 1 = m 376 1 := ((hFq8022 376 1 rfl).trans ((hFq8013 376 1 rfl).trans ((yup_na (by decide)).trans ((yup_na (by decide)).trans ((yup_nk (by decide)).trans ((yup_na (by decide)).trans ((yup_na (by decide)).trans (hFq7990 376 1 rfl))))))))
        have hF8027 := hF8021.tr hFq8022 wNw_wSt1
        refine y_if 92 91 c136_88 rfl rfl (yz_ne (by omega)) (fun hb8028 => ?_) (fun hb8028 => ?_)
        · refine y_aload 93 c136_92 rfl rfl rfl ?_
          have es8030 : mq8022 376 1 = m 376 1 := ((hFq8022 376 1 rfl).trans ((hFq8013 376 1 rfl).trans ((yup_na (by decide)).trans ((yup_na (by decide)).trans ((yup_nk (by decide)).trans ((yup_na (by decide)).trans ((yup_na (by decide)).trans (hFq7990 376 1 rfl))))))))
          have tb8031 := hTq8022.atp 376 3 0 3 rfl
          have tb8032 := hTq8022.atp 376 6 0 320 rfl
          have tb8033 := hTq8022.atp 376 8 ((-1)) 320 rfl
          have es8034 : mq8022 376 18 = m 376 18 := ((hFq8022 376 18 rfl).trans ((hFq8013 376 18 rfl).trans ((yup_na (by decide)).trans ((yup_na (by decide)).trans ((yup_nk (by decide)).trans ((yup_na (by decide)).trans ((yup_na (by decide)).trans (hFq7990 376 18 rfl))))))))
          refine y_callIB 96 [.ref 376] [] c136_93 rfl rfl rfl rfl rfl (ycanO km130 ko376) (t130_1 hTq8022 (by omega) (by omega) (by omega)) (fun rq8029 mq8029 nq8029 hq8029 => ?_)
          obtain ⟨rfl, hTq8029, hFq8029, hq8029⟩ := hq8029
          have x1q8029 : mq8029 376 1 = m 376 1 := ((hFq8029 376 1 rfl).trans ((hFq8022 376 1 rfl).trans ((hFq8013 376 1 rfl).trans ((yup_na (by decide)).trans ((yup_na (by decide)).trans ((yup_nk (by decide)).trans ((yup_na (by decide)).trans ((yup_na (by decide)).trans (hFq7990 376 1 rfl)))))))))
          have hF8035 := hF8027.tr hFq8029 wVr1_wSt1
          refine y_istore 98 c136_96 rfl rfl ?_
          refine y_aload 99 c136_98 rfl rfl rfl ?_
          refine y_getR 102 c136_99 rfl kf376_38 ?_
          refine y_iconst 104 c136_102 rfl ?_
          refine y_iload 105 c136_104 rfl rfl ?_
          refine y_imul 106 c136_105 rfl ?_
          refine y_top 8 (by decide) ?_
          refine y_iload 107 c136_106 rfl rfl ?_
          refine y_iadd 108 c136_107 rfl ?_
          refine y_iload 110 c136_108 rfl rfl ?_
          refine y_iastore 111 c136_110 rfl ka401 (by omega) (y_nar0 _) ?_
          have hT8036 := hTq8029.up 401 ((8 + (m 387 1)).toNat) rq8029 ((-1)) 47 rfl (by omega)
          have hF8037 := hF8035.up 401 ((8 + (m 387 1)).toNat) rq8029 (wSt1_401 (by omega))
          refine y_aload 112 c136_111 rfl rfl rfl ?_
          refine y_getX 115 (mq8029 376 8) c136_112 rfl kf376_8 rfl ?_
          have tb8038 := hTq8029.atp 376 8 ((-1)) 320 rfl
          refine y_if 129 118 c136_115 rfl rfl (yz_ge (by omega)) (fun hb8039 => ?_) (fun hb8039 => ?_)
          · have es8040 : (yup mq8029 401 ((8 + (m 387 1)).toNat) rq8029) 376 1 = m 376 1 := ((yup_na (by decide)).trans ((hFq8029 376 1 rfl).trans ((hFq8022 376 1 rfl).trans ((hFq8013 376 1 rfl).trans ((yup_na (by decide)).trans ((yup_na (by decide)).trans ((yup_nk (by decide)).trans ((yup_na (by decide)).trans ((yup_na (by decide)).trans (hFq7990 376 1 rfl))))))))))
            have es8041 : (yup mq8029 401 ((8 + (m 387 1)).toNat) rq8029) 376 3 = mq8029 376 3 := rfl
            have tb8042 := hTq8029.atp 376 3 0 3 rfl
            have es8043 : (yup mq8029 401 ((8 + (m 387 1)).toNat) rq8029) 376 6 = mq8029 376 6 := rfl
            have tb8044 := hTq8029.atp 376 6 0 320 rfl
            have es8045 : (yup mq8029 401 ((8 + (m 387 1)).toNat) rq8029) 376 8 = mq8029 376 8 := rfl
            exact y_retU c136_129 ⟨rfl, hT8036, hF8037, by omega, Or.inl (by omega)⟩
          · refine y_aload 119 c136_118 rfl rfl rfl ?_
            refine y_iconst 120 c136_119 rfl ?_
            refine y_iload 121 c136_120 rfl rfl ?_
            refine y_iload 123 c136_121 rfl rfl ?_
            refine y_iload 124 c136_123 rfl rfl ?_
            have es8047 : (yup mq8029 401 ((8 + (m 387 1)).toNat) rq8029) 376 1 = m 376 1 := ((yup_na (by decide)).trans ((hFq8029 376 1 rfl).trans ((hFq8022 376 1 rfl).trans ((hFq8013 376 1 rfl).trans ((yup_na (by decide)).trans ((yup_na (by decide)).trans ((yup_nk (by decide)).trans ((yup_na (by decide)).trans ((yup_na (by decide)).trans (hFq7990 376 1 rfl))))))))))
            have es8048 : (yup mq8029 401 ((8 + (m 387 1)).toNat) rq8029) 376 3 = mq8029 376 3 := rfl
            have tb8049 := hTq8029.atp 376 3 0 3 rfl
            have es8050 : (yup mq8029 401 ((8 + (m 387 1)).toNat) rq8029) 376 6 = mq8029 376 6 := rfl
            have tb8051 := hTq8029.atp 376 6 0 320 rfl
            have es8052 : (yup mq8029 401 ((8 + (m 387 1)).toNat) rq8029) 376 8 = mq8029 376 8 := rfl
            have es8053 : (yup mq8029 401 ((8 + (m 387 1)).toNat) rq8029) 376 18 = m 376 18 := ((yup_na (by decide)).trans ((hFq8029 376 18 rfl).trans ((hFq8022 376 18 rfl).trans ((hFq8013 376 18 rfl).trans ((yup_na (by decide)).trans ((yup_na (by decide)).trans ((yup_nk (by decide)).trans ((yup_na (by decide)).trans ((yup_na (by decide)).trans (hFq7990 376 18 rfl))))))))))
            have es8054 : (yup mq8029 401 ((8 + (m 387 1)).toNat) rq8029) 390 1 = m 390 1 := ((yup_na (by decide)).trans ((hFq8029 390 1 rfl).trans ((hFq8022 390 1 rfl).trans ((hFq8013 390 1 rfl).trans ((yup_na (by decide)).trans ((yup_na (by decide)).trans ((yup_na (by decide)).trans ((yup_na (by decide)).trans ((yup_na (by decide)).trans (hFq7990 390 1 rfl))))))))))
            have es8055 : (yup mq8029 401 ((8 + (m 387 1)).toNat) rq8029) 386 1 = m 386 1 := ((yup_na (by decide)).trans ((hFq8029 386 1 rfl).trans ((hFq8022 386 1 rfl).trans ((hFq8013 386 1 rfl).trans ((yup_na (by decide)).trans ((yup_na (by decide)).trans ((yup_na (by decide)).trans ((yup_na (by decide)).trans ((yup_na (by decide)).trans (hFq7990 386 1 rfl))))))))))
            have es8056 : (yup mq8029 401 ((8 + (m 387 1)).toNat) rq8029) 387 1 = (m 387 1) + 1 := ((yup_na (by decide)).trans ((hFq8029 387 1 rfl).trans ((hFq8022 387 1 rfl).trans ((hFq8013 387 1 rfl).trans (yup_eq _ _ _ _)))))
            have es8057 : (yup mq8029 401 ((8 + (m 387 1)).toNat) rq8029) 388 1 = m 388 1 := ((yup_na (by decide)).trans ((hFq8029 388 1 rfl).trans ((hFq8022 388 1 rfl).trans ((hFq8013 388 1 rfl).trans ((yup_na (by decide)).trans ((yup_na (by decide)).trans ((yup_na (by decide)).trans ((yup_na (by decide)).trans ((yup_na (by decide)).trans (hFq7990 388 1 rfl))))))))))
            have es8058 : (yup mq8029 401 ((8 + (m 387 1)).toNat) rq8029) 376 17 = (m 376 17) + 1 := ((yup_na (by decide)).trans ((hFq8029 376 17 rfl).trans ((hFq8022 376 17 rfl).trans ((hFq8013 376 17 rfl).trans ((yup_na (by decide)).trans ((yup_na (by decide)).trans (yup_eq _ _ _ _)))))))
            have es8059 : (yup mq8029 401 ((8 + (m 387 1)).toNat) rq8029) 384 1 = m 384 1 := ((yup_na (by decide)).trans ((hFq8029 384 1 rfl).trans ((hFq8022 384 1 rfl).trans ((hFq8013 384 1 rfl).trans ((yup_na (by decide)).trans ((yup_na (by decide)).trans ((yup_na (by decide)).trans ((yup_na (by decide)).trans ((yup_na (by decide)).trans (hFq7990 384 1 rfl))))))))))
            have em8060 : mu (yup mq8029 401 ((8 + (m 387 1)).toNat) rq8029) = mu mq8029 := mu_fr (yup_na (by decide)) (yup_na (by decide)) (yup_na (by decide))
            refine y_callIB 127 [.ref 376, yI 3, yI v, yI rq8029, yI (m 387 1)] [] c136_124 rfl rfl rfl rfl rfl (ycanO km127 ko376) (t127_1 hT8036 (by omega) (by omega) (by omega) (by omega) (by omega) (by omega)) (fun rq8046 mq8046 nq8046 hq8046 => ?_)
            obtain ⟨rfl, hTq8046, hFq8046, hq8046, hE⟩ := hq8046
            unfold EM at hE
            rw [show (yup mq8029 401 ((8 + (m 387 1)).toNat) rq8029) 390 1 = m 390 1 from ((yup_na (by decide)).trans ((hFq8029 390 1 rfl).trans ((hFq8022 390 1 rfl).trans ((hFq8013 390 1 rfl).trans ((yup_na (by decide)).trans ((yup_na (by decide)).trans ((yup_na (by decide)).trans ((yup_na (by decide)).trans ((yup_na (by decide)).trans (hFq7990 390 1 rfl))))))))))] at hE
            obtain ⟨k1, k2, k3, k4, k5, k6, k7⟩ := hE
            have k8 : ∀ q, q < 1000 * 1 + 8 * (m 390 1).toNat ∨ 1000 * 1 + 8 * (m 390 1).toNat + 8 ≤ q → mq8046 403 q = m 403 q := fun q hq => (k7 q hq).trans (((yup_na (by decide)).trans ((hFq8029 403 q rfl).trans ((hFq8022 403 q rfl).trans ((hFq8013 403 q rfl).trans ((yup_na (by decide)).trans ((yup_na (by decide)).trans ((yup_na (by decide)).trans ((yup_na (by decide)).trans ((yup_na (by decide)).trans (hFq7990 403 q rfl)))))))))))
            have x1q8046 : mq8046 376 1 = m 376 1 := ((hFq8046 376 1 rfl).trans ((yup_na (by decide)).trans ((hFq8029 376 1 rfl).trans ((hFq8022 376 1 rfl).trans ((hFq8013 376 1 rfl).trans ((yup_na (by decide)).trans ((yup_na (by decide)).trans ((yup_nk (by decide)).trans ((yup_na (by decide)).trans ((yup_na (by decide)).trans (hFq7990 376 1 rfl)))))))))))
            have hF8061 := hF8037.tr hFq8046 wEm1_wSt1
            refine y_istore 129 c136_127 rfl rfl ?_
            have es8062 : mq8046 376 1 = m 376 1 := ((hFq8046 376 1 rfl).trans ((yup_na (by decide)).trans ((hFq8029 376 1 rfl).trans ((hFq8022 376 1 rfl).trans ((hFq8013 376 1 rfl).trans ((yup_na (by decide)).trans ((yup_na (by decide)).trans ((yup_nk (by decide)).trans ((yup_na (by decide)).trans ((yup_na (by decide)).trans (hFq7990 376 1 rfl)))))))))))
            have es8063 : mq8046 376 3 = mq8029 376 3 := ((hFq8046 376 3 rfl).trans (yup_na (by decide)))
            have es8064 : mq8046 376 6 = mq8029 376 6 := ((hFq8046 376 6 rfl).trans (yup_na (by decide)))
            have es8065 : mq8046 376 8 = mq8029 376 8 := ((hFq8046 376 8 rfl).trans (yup_na (by decide)))
            have tb8066 := hTq8046.atp 390 1 0 125 rfl
            have es8067 : mq8046 386 1 = m 386 1 := ((hFq8046 386 1 rfl).trans ((yup_na (by decide)).trans ((hFq8029 386 1 rfl).trans ((hFq8022 386 1 rfl).trans ((hFq8013 386 1 rfl).trans ((yup_na (by decide)).trans ((yup_na (by decide)).trans ((yup_na (by decide)).trans ((yup_na (by decide)).trans ((yup_na (by decide)).trans (hFq7990 386 1 rfl)))))))))))
            have es8068 : mq8046 387 1 = (m 387 1) + 1 := ((hFq8046 387 1 rfl).trans ((yup_na (by decide)).trans ((hFq8029 387 1 rfl).trans ((hFq8022 387 1 rfl).trans ((hFq8013 387 1 rfl).trans (yup_eq _ _ _ _))))))
            have es8069 : mq8046 388 1 = m 388 1 := ((hFq8046 388 1 rfl).trans ((yup_na (by decide)).trans ((hFq8029 388 1 rfl).trans ((hFq8022 388 1 rfl).trans ((hFq8013 388 1 rfl).trans ((yup_na (by decide)).trans ((yup_na (by decide)).trans ((yup_na (by decide)).trans ((yup_na (by decide)).trans ((yup_na (by decide)).trans (hFq7990 388 1 rfl)))))))))))
            have es8070 : mq8046 376 17 = (m 376 17) + 1 := ((hFq8046 376 17 rfl).trans ((yup_na (by decide)).trans ((hFq8029 376 17 rfl).trans ((hFq8022 376 17 rfl).trans ((hFq8013 376 17 rfl).trans ((yup_na (by decide)).trans ((yup_na (by decide)).trans (yup_eq _ _ _ _))))))))
            have es8071 : mq8046 384 1 = m 384 1 := ((hFq8046 384 1 rfl).trans ((yup_na (by decide)).trans ((hFq8029 384 1 rfl).trans ((hFq8022 384 1 rfl).trans ((hFq8013 384 1 rfl).trans ((yup_na (by decide)).trans ((yup_na (by decide)).trans ((yup_na (by decide)).trans ((yup_na (by decide)).trans ((yup_na (by decide)).trans (hFq7990 384 1 rfl)))))))))))
            have em8072 : mu mq8046 = mu mq8029 := mu_fr ((hFq8046 376 1 rfl).trans (yup_na (by decide))) ((hFq8046 376 3 rfl).trans (yup_na (by decide))) ((hFq8046 376 6 rfl).trans (yup_na (by decide)))
            have f0 : mq8046 403 (1000 * 1 + 8 * (m 390 1).toNat) = _ := k2
            have f1 : mq8046 403 (1000 * 1 + 8 * (m 390 1).toNat + 1) = _ := k3
            have f2 : mq8046 403 (1000 * 1 + 8 * (m 390 1).toNat + 2) = _ := k4
            have f3 : mq8046 403 (1000 * 1 + 8 * (m 390 1).toNat + 3) = _ := k5
            have f4 : mq8046 403 (1000 * 1 + 8 * (m 390 1).toNat + 4) = _ := k6
            have hw : OW mq8046 (1000 * 1 + 8 * (m 390 1).toNat) := by unfold OW; omega
            have hx : XS 1 mq8046 := XS.add hX (by omega) (fun a q ha => hF8061 a q (wSt1_Y a q ha)) (fun q hq => k8 q hq) hw (by omega) (by omega) (by omega) (by omega) (by omega) (by omega) (by omega) (fun c hc => by
      by_cases ec : c = (m 387 1).toNat
      · subst ec; rw [show mq8046 401 (8 * 1 + (m 387 1).toNat) = rq8029 from by rw [show 8 * 1 + (m 387 1).toNat = (8 + (m 387 1)).toNat by omega]; exact ((hFq8046 401 _ rfl).trans (yup_eq _ _ _ _))]; omega
      · rw [show mq8046 401 (8 * 1 + c) = m 401 (8 * 1 + c) from ((hFq8046 401 _ rfl).trans ((yup_nk (by omega)).trans ((hFq8029 401 _ rfl).trans ((hFq8022 401 _ rfl).trans ((hFq8013 401 _ rfl).trans ((yup_na (by decide)).trans ((yup_na (by decide)).trans ((yup_na (by decide)).trans ((yup_na (by decide)).trans ((yup_na (by decide)).trans (hFq7990 401 _ rfl)))))))))))]; exact hCV c (by omega)) (by omega) (by omega)
            exact y_retU c136_129 ⟨rfl, hTq8046, hF8061, by omega, by first | exact Or.inl (by omega) | exact Or.inr ⟨by omega, by omega, by omega, hx⟩⟩
        · have es8073 : mq8022 376 1 = m 376 1 := ((hFq8022 376 1 rfl).trans ((hFq8013 376 1 rfl).trans ((yup_na (by decide)).trans ((yup_na (by decide)).trans ((yup_nk (by decide)).trans ((yup_na (by decide)).trans ((yup_na (by decide)).trans (hFq7990 376 1 rfl))))))))
          have tb8074 := hTq8022.atp 376 3 0 3 rfl
          have tb8075 := hTq8022.atp 376 6 0 320 rfl
          have tb8076 := hTq8022.atp 376 8 ((-1)) 320 rfl
          exact y_retU c136_91 ⟨rfl, hTq8022, hF8027, by omega, Or.inl (by omega)⟩
      · refine y_aload 37 c136_36 rfl rfl rfl ?_
        have es8078 : mq7990 376 1 = m 376 1 := (hFq7990 376 1 rfl)
        have tb8079 := hTq7990.atp 376 6 0 320 rfl
        have tb8080 := hTq7990.atp 376 8 ((-1)) 320 rfl
        refine y_callUB 40 [.ref 376] [] c136_37 rfl rfl rfl rfl rfl (ycanO km104 ko376) (t104 hTq7990) (fun mq8077 nq8077 hq8077 => ?_)
        obtain ⟨rfl, hTq8077, hFq8077, hq8077⟩ := hq8077
        have x1q8077 : mq8077 376 1 = m 376 1 := ((hFq8077 376 1 rfl).trans (hFq7990 376 1 rfl))
        have hF8081 := hF7995.tr hFq8077 wWr_wSt1
        have es8082 : mq8077 376 1 = m 376 1 := ((hFq8077 376 1 rfl).trans (hFq7990 376 1 rfl))
        have es8083 : mq8077 376 3 = mq7990 376 3 := (hFq8077 376 3 rfl)
        have es8084 : mq8077 376 6 = mq7990 376 6 := (hFq8077 376 6 rfl)
        have tb8085 := hTq8077.atp 376 8 ((-1)) 320 rfl
        exact y_retU c136_40 ⟨rfl, hTq8077, hF8081, by omega, Or.inl (by omega)⟩
    · have es8086 : mq7990 376 1 = m 376 1 := (hFq7990 376 1 rfl)
      have tb8087 := hTq7990.atp 376 3 0 3 rfl
      have tb8088 := hTq7990.atp 376 6 0 320 rfl
      have tb8089 := hTq7990.atp 376 8 ((-1)) 320 rfl
      exact y_retU c136_28 ⟨rfl, hTq7990, hF7995, by omega, Or.inl (by omega)⟩
