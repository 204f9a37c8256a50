/-! CONTRACTS: printed by wip/whole/gen80.py and on -/
def wSr0256 (a q : Nat) : Bool := (a == 2 && (q == 2 || q == 4)) || (a == 256 && (q == 13 || q == 14 || q == 15)) || a == 261 || a == 265
def wSr256 (k a q : Nat) : Bool := ((a == 2 && (q == 2 || q == 4)) || (a == 256 && (q == 13 || q == 14 || q == 15)) || a == 261 || a == 265) || a == 276 + k
theorem wSr256_lt {k a q : Nat} (h : a < 276) : wSr256 k a q = wSr0256 a q := by
  have e : (a == 276 + k) = false := by simp; omega
  simp only [wSr256, wSr0256, e, Bool.or_false]
def wSs0256 (a q : Nat) : Bool := (a == 2 && (q == 2 || q == 4)) || (a == 256 && (q == 12 || q == 13 || q == 14 || q == 15)) || a == 261 || a == 265
def wSs256 (k a q : Nat) : Bool := ((a == 2 && (q == 2 || q == 4)) || (a == 256 && (q == 12 || q == 13 || q == 14 || q == 15)) || a == 261 || a == 265) || a == 276 + k
theorem wSs256_lt {k a q : Nat} (h : a < 276) : wSs256 k a q = wSs0256 a q := by
  have e : (a == 276 + k) = false := by simp; omega
  simp only [wSs256, wSs0256, e, Bool.or_false]
theorem wSr256_s {k j q : Nat} (h : j = k) : wSr256 k (276 + j) q = true := by
  simp [wSr256, h]
theorem wFa_wSr256 {k : Nat} : ∀ a q, wFa a q = true → wSr256 k a q = true := by
  intro a q h
  simp [wFa] at h
  simp [wSr256]
  omega
theorem wAt_wSr256 {k : Nat} : ∀ a q, wAt a q = true → wSr256 k a q = true := by
  intro a q h
  simp [wAt] at h
  simp [wSr256]
  omega
theorem wVr256_wSr256 {k : Nat} : ∀ a q, wVr256 a q = true → wSr256 k a q = true := by
  intro a q h
  simp [wVr256] at h
  simp [wSr256]
  omega
theorem wSv256_wSr256 {k : Nat} : ∀ a q, wSv256 k a q = true → wSr256 k a q = true := by
  intro a q h
  simp [wSv256] at h
  simp [wSr256]
  omega
theorem wSs256_s {k j q : Nat} (h : j = k) : wSs256 k (276 + j) q = true := by
  simp [wSs256, h]
theorem wFa_wSs256 {k : Nat} : ∀ a q, wFa a q = true → wSs256 k a q = true := by
  intro a q h
  simp [wFa] at h
  simp [wSs256]
  omega
theorem wAt_wSs256 {k : Nat} : ∀ a q, wAt a q = true → wSs256 k a q = true := by
  intro a q h
  simp [wAt] at h
  simp [wSs256]
  omega
theorem wVr256_wSs256 {k : Nat} : ∀ a q, wVr256 a q = true → wSs256 k a q = true := by
  intro a q h
  simp [wVr256] at h
  simp [wSs256]
  omega
theorem wSv256_wSs256 {k : Nat} : ∀ a q, wSv256 k a q = true → wSs256 k a q = true := by
  intro a q h
  simp [wSv256] at h
  simp [wSs256]
  omega
theorem wSc256_wSs256 {k : Nat} : ∀ a q, wSc256 k a q = true → wSs256 k a q = true := by
  intro a q h
  simp [wSc256] at h
  simp [wSs256]
  omega
theorem wSr256_wSs256 {k : Nat} : ∀ a q, wSr256 k a q = true → wSs256 k a q = true := by
  intro a q h
  simp [wSr256] at h
  simp [wSs256]
  omega
set_option maxRecDepth 100000 in
theorem t64_256 {L : Nat} {xs : Nat → Int32} {d nn : Nat} {m : yM} {e : Int} (hT : Ty gT m) (he : 0 ≤ e ∧ e ≤ 320) (hE : m 5 e.toNat = 0) (ha : m 2 2 ≤ e) (hp : m 2 1 = 0) {k : Int} (hk : 0 ≤ k ∧ k ≤ 39) (hm : 1 ≤ m 256 10) (h16 : m 256 16 = k + 1) : YC (gZ L xs) (d + 2) 64 [.ref 2, .ref (276 + k.toNat)] m nn (qI (fun r m' n' => n' = nn ∧ Ty gT m' ∧ Fr (wSr256 k.toNat) m m' ∧ ((r = 0 ∨ r = 1) ∧ m' 2 2 ≤ e ∧ m' (276 + k.toNat) 2 = m (276 + k.toNat) 2 ∧ m' (276 + k.toNat) 8 = m (276 + k.toNat) 8 ∧ (r = 1 → (m' (276 + k.toNat) 0 = 5 ∧ 0 ≤ m' (276 + k.toNat) 6) ∨ m' (276 + k.toNat) 0 = 6 ∨ (7 ≤ m' (276 + k.toNat) 0 ∧ m' (276 + k.toNat) 0 ≤ 9 ∧ 0 ≤ m' (276 + k.toNat) 3)) ∧ (m' 256 13 = m 256 13 ∨ (m' 256 13 = m 256 13 + 1 ∧ m' 265 (m 256 13).toNat = k ∧ (r = 1 → m' (276 + k.toNat) 0 = 7)))) ∧ (∀ z, z ≠ (m 256 13).toNat → m' 265 z = m 265 z))) := by
  have tb2 := hT.atp 2 2 0 320 rfl
  have tb13 := hT.atp 256 13 0 8 rfl
  refine YC.mkB [some (.ref 2), some (.ref (276 + k.toNat))] kn64 rfl rfl ?_
  have hF : Fr (wSr256 k.toNat) m m := Fr.rf
  refine y_aload 1 c64_0 rfl rfl rfl ?_
  have tb1426 := hT.atp 2 2 0 320 rfl
  refine y_callP 4 [.ref 2] [] c64_1 rfl rfl rfl rfl rfl (ycanO km38 ko2) (t38 hT he hE (by omega)) (fun r1427 hr1427 => ?_)
  by_cases hk1428 : r1427 = 4
  · refine y_top 4 hk1428 ?_
    refine y_lsw 40 c64_4 (by decide) rfl rfl ?_
    refine y_aload 41 c64_40 rfl rfl rfl ?_
    refine y_getS 44 (B := 256) c64_41 rfl kf2_1 (by rw [show m 2 1 = 0 from by have e : m 2 1 = m 2 1 := rfl; omega]; rfl) ?_
    refine y_aload 45 c64_44 rfl rfl rfl ?_
    have tb1430 := hT.atp 256 14 0 12 rfl
    refine y_callIB 48 [.ref 256, .ref (276 + k.toNat)] [] c64_45 rfl rfl rfl rfl rfl (ycanO km61 ko256) (t61_256 hT (by omega)) (fun rq1429 mq1429 nq1429 hq1429 => ?_)
    obtain ⟨rfl, hq1429⟩ := hq1429
    rcases hq1429 with ⟨rfl, rfl, hq1429⟩ | ⟨rfl, rfl, hq1429⟩
    · refine y_if 60 51 c64_48 rfl rfl (yz_eq (by omega)) (fun hb1431 => ?_) (fun hb1431 => ?_)
      · refine y_aload 61 c64_60 rfl rfl rfl ?_
        refine y_callIB 64 [.ref 2] [] c64_61 rfl rfl rfl rfl rfl (ycanO km43 ko2) (t43 hT) (fun rq1432 mq1432 nq1432 hq1432 => ?_)
        obtain ⟨rfl, hTq1432, hFq1432, hq1432⟩ := hq1432
        have hF1433 := hF.tr hFq1432 wFa_wSr256
        have es1434 : mq1432 2 2 = m 2 2 := (hFq1432 2 2 rfl)
        have es1435 : mq1432 256 13 = m 256 13 := (hFq1432 256 13 rfl)
        have tb1436 := hT.atp 256 13 0 8 rfl
        have es1437 : mq1432 (276 + k.toNat) 0 = m (276 + k.toNat) 0 := (hFq1432 (276 + k.toNat) 0 wFa_n276)
        have tb1438 := hT.atp (276 + k.toNat) 0 0 9 (ft276_0 (by omega))
        have es1439 : mq1432 (276 + k.toNat) 2 = m (276 + k.toNat) 2 := (hFq1432 (276 + k.toNat) 2 wFa_n276)
        have tb1440 := hT.atp (276 + k.toNat) 2 ((-1)) 47 (ft276_2 (by omega))
        have es1441 : mq1432 (276 + k.toNat) 3 = m (276 + k.toNat) 3 := (hFq1432 (276 + k.toNat) 3 wFa_n276)
        have tb1442 := hT.atp (276 + k.toNat) 3 ((-1)) 47 (ft276_3 (by omega))
        have es1443 : mq1432 (276 + k.toNat) 6 = m (276 + k.toNat) 6 := (hFq1432 (276 + k.toNat) 6 wFa_n276)
        have tb1444 := hT.atp (276 + k.toNat) 6 ((-1)) 11 (ft276_6 (by omega))
        have es1445 : mq1432 (276 + k.toNat) 8 = m (276 + k.toNat) 8 := (hFq1432 (276 + k.toNat) 8 wFa_n276)
        have tb1446 := hT.atp (276 + k.toNat) 8 0 2 (ft276_8 (by omega))
        exact y_retI c64_64 (y_fit1 (by omega)) ⟨rfl, hTq1432, hF1433, by omega, fun z hz => (hFq1432 265 z rfl)⟩
      · exfalso; omega
    · have hT1447 := hT.up (276 + k.toNat) 0 5 0 9 (ft276_0 (by omega)) (by omega)
      have hF1448 := hF.up (276 + k.toNat) 0 5 (wSr256_s (by omega))
      have hT1449 := hT1447.up (276 + k.toNat) 6 (m 256 14) ((-1)) 11 (ft276_6 (by omega)) (by omega)
      have hF1450 := hF1448.up (276 + k.toNat) 6 (m 256 14) (wSr256_s (by omega))
      have hT1451 := hT1449.up 256 14 ((m 256 14) + 1) 0 12 rfl (by omega)
      have hF1452 := hF1450.up 256 14 ((m 256 14) + 1) rfl
      refine y_if 60 51 c64_48 rfl rfl (yz_eq (by omega)) (fun hb1453 => ?_) (fun hb1453 => ?_)
      · exfalso; omega
      · refine y_aload 52 c64_51 rfl rfl rfl ?_
        refine y_iconst 53 c64_52 rfl ?_
        refine y_aload 54 c64_53 rfl rfl rfl ?_
        have es1455 : (yup (yup (yup m (276 + k.toNat) 0 5) (276 + k.toNat) 6 (m 256 14)) 256 14 ((m 256 14) + 1)) 2 2 = m 2 2 := ((yup_na (by decide)).trans ((yup_na (by omega)).trans (yup_na (by omega))))
        have es1456 : (yup (yup (yup m (276 + k.toNat) 0 5) (276 + k.toNat) 6 (m 256 14)) 256 14 ((m 256 14) + 1)) 2 1 = m 2 1 := ((yup_na (by decide)).trans ((yup_na (by omega)).trans (yup_na (by omega))))
        have tb1457 := hT.atp 2 1 ((-1)) 1 rfl
        have es1458 : (yup (yup (yup m (276 + k.toNat) 0 5) (276 + k.toNat) 6 (m 256 14)) 256 14 ((m 256 14) + 1)) 256 10 = m 256 10 := ((yup_nk (by decide)).trans ((yup_na (by omega)).trans (yup_na (by omega))))
        have tb1459 := hT.atp 256 10 0 10 rfl
        have es1460 : (yup (yup (yup m (276 + k.toNat) 0 5) (276 + k.toNat) 6 (m 256 14)) 256 14 ((m 256 14) + 1)) (276 + k.toNat) 0 = 5 := ((yup_na (by omega)).trans ((yup_nk (by decide)).trans (yup_eq _ _ _ _)))
        have es1461 : (yup (yup (yup m (276 + k.toNat) 0 5) (276 + k.toNat) 6 (m 256 14)) 256 14 ((m 256 14) + 1)) (276 + k.toNat) 2 = m (276 + k.toNat) 2 := ((yup_na (by omega)).trans ((yup_nk (by decide)).trans (yup_nk (by decide))))
        have tb1462 := hT.atp (276 + k.toNat) 2 ((-1)) 47 (ft276_2 (by omega))
        have es1463 : (yup (yup (yup m (276 + k.toNat) 0 5) (276 + k.toNat) 6 (m 256 14)) 256 14 ((m 256 14) + 1)) (276 + k.toNat) 3 = m (276 + k.toNat) 3 := ((yup_na (by omega)).trans ((yup_nk (by decide)).trans (yup_nk (by decide))))
        have tb1464 := hT.atp (276 + k.toNat) 3 ((-1)) 47 (ft276_3 (by omega))
        have es1465 : (yup (yup (yup m (276 + k.toNat) 0 5) (276 + k.toNat) 6 (m 256 14)) 256 14 ((m 256 14) + 1)) (276 + k.toNat) 6 = m 256 14 := ((yup_na (by omega)).trans (yup_eq _ _ _ _))
        have es1466 : (yup (yup (yup m (276 + k.toNat) 0 5) (276 + k.toNat) 6 (m 256 14)) 256 14 ((m 256 14) + 1)) (276 + k.toNat) 8 = m (276 + k.toNat) 8 := ((yup_na (by omega)).trans ((yup_nk (by decide)).trans (yup_nk (by decide))))
        have tb1467 := hT.atp (276 + k.toNat) 8 0 2 (ft276_8 (by omega))
        refine y_callIB 57 [.ref 2, yI 4, .ref (276 + k.toNat)] [] c64_54 rfl rfl rfl rfl rfl (ycanO km62 ko2) (t62_256 hT1451 he (by have e1 : (yup (yup (yup m (276 + k.toNat) 0 5) (276 + k.toNat) 6 (m 256 14)) 256 14 ((m 256 14) + 1)) 5 e.toNat = m 5 e.toNat := ((yup_na (by decide)).trans ((yup_na (by omega)).trans (yup_na (by omega)))); omega) (by omega) (by omega) (k := k) (by omega) (by omega) (by omega)) (fun rq1454 mq1454 nq1454 hq1454 => ?_)
        obtain ⟨rfl, hTq1454, hFq1454, hq1454⟩ := hq1454
        have hF1468 := hF1452.tr hFq1454 wSv256_wSr256
        refine y_goto 64 c64_57 rfl ?_
        have tb1469 := hTq1454.atp 2 2 0 320 rfl
        have es1470 : mq1454 256 13 = m 256 13 := ((hFq1454 256 13 ((wSv256_lt (by decide)).trans rfl)).trans ((yup_nk (by decide)).trans ((yup_na (by omega)).trans (yup_na (by omega)))))
        have tb1471 := hT.atp 256 13 0 8 rfl
        have tb1472 := hTq1454.atp (276 + k.toNat) 0 0 9 (ft276_0 (by omega))
        have tb1473 := hTq1454.atp (276 + k.toNat) 2 ((-1)) 47 (ft276_2 (by omega))
        have tb1474 := hTq1454.atp (276 + k.toNat) 3 ((-1)) 47 (ft276_3 (by omega))
        have tb1475 := hTq1454.atp (276 + k.toNat) 6 ((-1)) 11 (ft276_6 (by omega))
        have tb1476 := hTq1454.atp (276 + k.toNat) 8 0 2 (ft276_8 (by omega))
        exact y_retI c64_64 (y_fit1 (by omega)) ⟨rfl, hTq1454, hF1468, by omega, fun z hz => ((hFq1454 265 z ((wSv256_lt (by decide)).trans rfl)).trans ((yup_na (by decide)).trans ((yup_na (by omega)).trans (yup_na (by omega)))))⟩
  by_cases hk1477 : r1427 = 5
  · refine y_top 5 hk1477 ?_
    refine y_lsw 65 c64_4 (by decide) rfl rfl ?_
    refine y_aload 66 c64_65 rfl rfl rfl ?_
    refine y_iconst 68 c64_66 rfl ?_
    refine y_putI 71 c64_68 rfl (ff276_0 (by omega)) (y_fit0 _) ?_
    have hT1478 := hT.up (276 + k.toNat) 0 6 0 9 (ft276_0 (by omega)) (by omega)
    have hF1479 := hF.up (276 + k.toNat) 0 6 (wSr256_s (by omega))
    refine y_aload 72 c64_71 rfl rfl rfl ?_
    refine y_iconst 73 c64_72 rfl ?_
    have es1481 : (yup m (276 + k.toNat) 0 6) 2 2 = m 2 2 := (yup_na (by omega))
    refine y_callIB 76 [.ref 2, yI 5] [] c64_73 rfl rfl rfl rfl rfl (ycanO km37 ko2) (t37 hT1478 he (by have e1 : (yup m (276 + k.toNat) 0 6) 5 e.toNat = m 5 e.toNat := (yup_na (by omega)); omega) (by omega) (by omega)) (fun rq1480 mq1480 nq1480 hq1480 => ?_)
    obtain ⟨rfl, hTq1480, hFq1480, hq1480⟩ := hq1480
    have hF1482 := hF1479.tr hFq1480 wAt_wSr256
    have tb1483 := hTq1480.atp 2 2 0 320 rfl
    have es1484 : mq1480 256 13 = m 256 13 := ((hFq1480 256 13 rfl).trans (yup_na (by omega)))
    have tb1485 := hT.atp 256 13 0 8 rfl
    have es1486 : mq1480 (276 + k.toNat) 0 = 6 := ((hFq1480 (276 + k.toNat) 0 wAt_n276).trans (yup_eq _ _ _ _))
    have es1487 : mq1480 (276 + k.toNat) 2 = m (276 + k.toNat) 2 := ((hFq1480 (276 + k.toNat) 2 wAt_n276).trans (yup_nk (by decide)))
    have tb1488 := hT.atp (276 + k.toNat) 2 ((-1)) 47 (ft276_2 (by omega))
    have es1489 : mq1480 (276 + k.toNat) 3 = m (276 + k.toNat) 3 := ((hFq1480 (276 + k.toNat) 3 wAt_n276).trans (yup_nk (by decide)))
    have tb1490 := hT.atp (276 + k.toNat) 3 ((-1)) 47 (ft276_3 (by omega))
    have es1491 : mq1480 (276 + k.toNat) 6 = m (276 + k.toNat) 6 := ((hFq1480 (276 + k.toNat) 6 wAt_n276).trans (yup_nk (by decide)))
    have tb1492 := hT.atp (276 + k.toNat) 6 ((-1)) 11 (ft276_6 (by omega))
    have es1493 : mq1480 (276 + k.toNat) 8 = m (276 + k.toNat) 8 := ((hFq1480 (276 + k.toNat) 8 wAt_n276).trans (yup_nk (by decide)))
    have tb1494 := hT.atp (276 + k.toNat) 8 0 2 (ft276_8 (by omega))
    exact y_retI c64_76 (y_fit1 (by omega)) ⟨rfl, hTq1480, hF1482, by omega, fun z hz => ((hFq1480 265 z rfl).trans (yup_na (by omega)))⟩
  by_cases hk1495 : r1427 = 40
  · refine y_top 40 hk1495 ?_
    refine y_lsw 77 c64_4 (by decide) rfl rfl ?_
    refine y_aload 78 c64_77 rfl rfl rfl ?_
    refine y_getS 81 (B := 256) c64_78 rfl kf2_1 (by rw [show m 2 1 = 0 from by have e : m 2 1 = m 2 1 := rfl; omega]; rfl) ?_
    refine y_aload 82 c64_81 rfl rfl rfl ?_
    have tb1497 := hT.atp 256 13 0 8 rfl
    have tb1498 := hT.atp 256 16 0 40 rfl
    refine y_callIB 85 [.ref 256, .ref (276 + k.toNat)] [] c64_82 rfl rfl rfl rfl rfl (ycanO km63 ko256) (t63_256 hT (by omega) (by omega)) (fun rq1496 mq1496 nq1496 hq1496 => ?_)
    obtain ⟨rfl, hq1496⟩ := hq1496
    rcases hq1496 with ⟨rfl, rfl, hq1496⟩ | ⟨rfl, rfl, hq1496⟩
    · refine y_if 93 88 c64_85 rfl rfl (yz_ne (by omega)) (fun hb1499 => ?_) (fun hb1499 => ?_)
      · exfalso; omega
      · refine y_aload 89 c64_88 rfl rfl rfl ?_
        refine y_callIB 92 [.ref 2] [] c64_89 rfl rfl rfl rfl rfl (ycanO km43 ko2) (t43 hT) (fun rq1500 mq1500 nq1500 hq1500 => ?_)
        obtain ⟨rfl, hTq1500, hFq1500, hq1500⟩ := hq1500
        have hF1501 := hF.tr hFq1500 wFa_wSr256
        have es1502 : mq1500 2 2 = m 2 2 := (hFq1500 2 2 rfl)
        have es1503 : mq1500 256 13 = m 256 13 := (hFq1500 256 13 rfl)
        have es1504 : mq1500 (276 + k.toNat) 0 = m (276 + k.toNat) 0 := (hFq1500 (276 + k.toNat) 0 wFa_n276)
        have tb1505 := hT.atp (276 + k.toNat) 0 0 9 (ft276_0 (by omega))
        have es1506 : mq1500 (276 + k.toNat) 2 = m (276 + k.toNat) 2 := (hFq1500 (276 + k.toNat) 2 wFa_n276)
        have tb1507 := hT.atp (276 + k.toNat) 2 ((-1)) 47 (ft276_2 (by omega))
        have es1508 : mq1500 (276 + k.toNat) 3 = m (276 + k.toNat) 3 := (hFq1500 (276 + k.toNat) 3 wFa_n276)
        have tb1509 := hT.atp (276 + k.toNat) 3 ((-1)) 47 (ft276_3 (by omega))
        have es1510 : mq1500 (276 + k.toNat) 6 = m (276 + k.toNat) 6 := (hFq1500 (276 + k.toNat) 6 wFa_n276)
        have tb1511 := hT.atp (276 + k.toNat) 6 ((-1)) 11 (ft276_6 (by omega))
        have es1512 : mq1500 (276 + k.toNat) 8 = m (276 + k.toNat) 8 := (hFq1500 (276 + k.toNat) 8 wFa_n276)
        have tb1513 := hT.atp (276 + k.toNat) 8 0 2 (ft276_8 (by omega))
        exact y_retI c64_92 (y_fit1 (by omega)) ⟨rfl, hTq1500, hF1501, by omega, fun z hz => (hFq1500 265 z rfl)⟩
    · have hT1514 := hT.up (276 + k.toNat) 0 7 0 9 (ft276_0 (by omega)) (by omega)
      have hF1515 := hF.up (276 + k.toNat) 0 7 (wSr256_s (by omega))
      have hT1516 := hT1514.up 265 ((m 256 13).toNat) ((m 256 16) - 1) 0 39 rfl (by omega)
      have hF1517 := hF1515.up 265 ((m 256 13).toNat) ((m 256 16) - 1) rfl
      have hT1518 := hT1516.up 256 13 ((m 256 13) + 1) 0 8 rfl (by omega)
      have hF1519 := hF1517.up 256 13 ((m 256 13) + 1) rfl
      refine y_if 93 88 c64_85 rfl rfl (yz_ne (by omega)) (fun hb1520 => ?_) (fun hb1520 => ?_)
      · refine y_aload 94 c64_93 rfl rfl rfl ?_
        refine y_iconst 96 c64_94 rfl ?_
        refine y_aload 97 c64_96 rfl rfl rfl ?_
        have es1522 : (yup (yup (yup m (276 + k.toNat) 0 7) 265 ((m 256 13).toNat) ((m 256 16) - 1)) 256 13 ((m 256 13) + 1)) 2 2 = m 2 2 := ((yup_na (by decide)).trans ((yup_na (by decide)).trans (yup_na (by omega))))
        have es1523 : (yup (yup (yup m (276 + k.toNat) 0 7) 265 ((m 256 13).toNat) ((m 256 16) - 1)) 256 13 ((m 256 13) + 1)) 2 1 = m 2 1 := ((yup_na (by decide)).trans ((yup_na (by decide)).trans (yup_na (by omega))))
        have tb1524 := hT.atp 2 1 ((-1)) 1 rfl
        have es1525 : (yup (yup (yup m (276 + k.toNat) 0 7) 265 ((m 256 13).toNat) ((m 256 16) - 1)) 256 13 ((m 256 13) + 1)) 256 10 = m 256 10 := ((yup_nk (by decide)).trans ((yup_na (by decide)).trans (yup_na (by omega))))
        have tb1526 := hT.atp 256 10 0 10 rfl
        have es1527 : (yup (yup (yup m (276 + k.toNat) 0 7) 265 ((m 256 13).toNat) ((m 256 16) - 1)) 256 13 ((m 256 13) + 1)) (276 + k.toNat) 0 = 7 := ((yup_na (by omega)).trans ((yup_na (by omega)).trans (yup_eq _ _ _ _)))
        have es1528 : (yup (yup (yup m (276 + k.toNat) 0 7) 265 ((m 256 13).toNat) ((m 256 16) - 1)) 256 13 ((m 256 13) + 1)) (276 + k.toNat) 2 = m (276 + k.toNat) 2 := ((yup_na (by omega)).trans ((yup_na (by omega)).trans (yup_nk (by decide))))
        have tb1529 := hT.atp (276 + k.toNat) 2 ((-1)) 47 (ft276_2 (by omega))
        have es1530 : (yup (yup (yup m (276 + k.toNat) 0 7) 265 ((m 256 13).toNat) ((m 256 16) - 1)) 256 13 ((m 256 13) + 1)) (276 + k.toNat) 3 = m (276 + k.toNat) 3 := ((yup_na (by omega)).trans ((yup_na (by omega)).trans (yup_nk (by decide))))
        have tb1531 := hT.atp (276 + k.toNat) 3 ((-1)) 47 (ft276_3 (by omega))
        have es1532 : (yup (yup (yup m (276 + k.toNat) 0 7) 265 ((m 256 13).toNat) ((m 256 16) - 1)) 256 13 ((m 256 13) + 1)) (276 + k.toNat) 6 = m (276 + k.toNat) 6 := ((yup_na (by omega)).trans ((yup_na (by omega)).trans (yup_nk (by decide))))
        have tb1533 := hT.atp (276 + k.toNat) 6 ((-1)) 11 (ft276_6 (by omega))
        have es1534 : (yup (yup (yup m (276 + k.toNat) 0 7) 265 ((m 256 13).toNat) ((m 256 16) - 1)) 256 13 ((m 256 13) + 1)) (276 + k.toNat) 8 = m (276 + k.toNat) 8 := ((yup_na (by omega)).trans ((yup_na (by omega)).trans (yup_nk (by decide))))
        have tb1535 := hT.atp (276 + k.toNat) 8 0 2 (ft276_8 (by omega))
        refine y_callIB 100 [.ref 2, yI 40, .ref (276 + k.toNat)] [] c64_97 rfl rfl rfl rfl rfl (ycanO km62 ko2) (t62_256 hT1518 he (by have e1 : (yup (yup (yup m (276 + k.toNat) 0 7) 265 ((m 256 13).toNat) ((m 256 16) - 1)) 256 13 ((m 256 13) + 1)) 5 e.toNat = m 5 e.toNat := ((yup_na (by decide)).trans ((yup_na (by decide)).trans (yup_na (by omega)))); omega) (by omega) (by omega) (k := k) (by omega) (by omega) (by omega)) (fun rq1521 mq1521 nq1521 hq1521 => ?_)
        obtain ⟨rfl, hTq1521, hFq1521, hq1521⟩ := hq1521
        have hF1536 := hF1519.tr hFq1521 wSv256_wSr256
        refine y_if 112 103 c64_100 rfl rfl (yz_eq (by omega)) (fun hb1537 => ?_) (fun hb1537 => ?_)
        · refine y_iconst 113 c64_112 rfl ?_
          have tb1538 := hTq1521.atp 2 2 0 320 rfl
          have es1539 : mq1521 256 13 = (m 256 13) + 1 := ((hFq1521 256 13 ((wSv256_lt (by decide)).trans rfl)).trans (yup_eq _ _ _ _))
          have tb1540 := hTq1521.atp (276 + k.toNat) 0 0 9 (ft276_0 (by omega))
          have tb1541 := hTq1521.atp (276 + k.toNat) 2 ((-1)) 47 (ft276_2 (by omega))
          have tb1542 := hTq1521.atp (276 + k.toNat) 3 ((-1)) 47 (ft276_3 (by omega))
          have tb1543 := hTq1521.atp (276 + k.toNat) 6 ((-1)) 11 (ft276_6 (by omega))
          have tb1544 := hTq1521.atp (276 + k.toNat) 8 0 2 (ft276_8 (by omega))
          have ek : mq1521 265 (m 256 13).toNat = (m 256 16) - 1 := ((hFq1521 265 ((m 256 13).toNat) ((wSv256_lt (by decide)).trans rfl)).trans ((yup_na (by decide)).trans (yup_eq _ _ _ _)))
          exact y_retI c64_113 (y_fit1 (by omega)) ⟨rfl, hTq1521, hF1536, by omega, fun z hz => ((hFq1521 265 z ((wSv256_lt (by decide)).trans rfl)).trans ((yup_na (by decide)).trans ((yup_nk hz).trans (yup_na (by omega)))))⟩
        · refine y_aload 104 c64_103 rfl rfl rfl ?_
          refine y_iconst 106 c64_104 rfl ?_
          have tb1546 := hTq1521.atp 2 2 0 320 rfl
          refine y_callIB 109 [.ref 2, yI 41] [] c64_106 rfl rfl rfl rfl rfl (ycanO km37 ko2) (t37 hTq1521 he (by have e1 : mq1521 5 e.toNat = m 5 e.toNat := ((hFq1521 5 e.toNat ((wSv256_lt (by decide)).trans rfl)).trans ((yup_na (by decide)).trans ((yup_na (by decide)).trans (yup_na (by omega))))); omega) (by omega) (by omega)) (fun rq1545 mq1545 nq1545 hq1545 => ?_)
          obtain ⟨rfl, hTq1545, hFq1545, hq1545⟩ := hq1545
          have hF1547 := hF1536.tr hFq1545 wAt_wSr256
          refine y_if 114 112 c64_109 rfl rfl (yz_ne (by omega)) (fun hb1548 => ?_) (fun hb1548 => ?_)
          · refine y_aload 115 c64_114 rfl rfl rfl ?_
            refine y_aload 116 c64_115 rfl rfl rfl ?_
            have tb1550 := hTq1545.atp 2 2 0 320 rfl
            have es1551 : mq1545 2 1 = m 2 1 := ((hFq1545 2 1 rfl).trans ((hFq1521 2 1 ((wSv256_lt (by decide)).trans rfl)).trans ((yup_na (by decide)).trans ((yup_na (by decide)).trans (yup_na (by omega))))))
            have es1552 : mq1545 256 10 = m 256 10 := ((hFq1545 256 10 rfl).trans ((hFq1521 256 10 ((wSv256_lt (by decide)).trans rfl)).trans ((yup_nk (by decide)).trans ((yup_na (by decide)).trans (yup_na (by omega))))))
            have es1553 : mq1545 256 15 = mq1521 256 15 := (hFq1545 256 15 rfl)
            have tb1554 := hTq1521.atp 256 15 0 48 rfl
            refine y_callIB 119 [.ref 2] [.ref (276 + k.toNat)] c64_116 rfl rfl rfl rfl rfl (ycanO km58 ko2) (t58_256 hTq1545 he (by have e1 : mq1545 5 e.toNat = m 5 e.toNat := ((hFq1545 5 e.toNat rfl).trans ((hFq1521 5 e.toNat ((wSv256_lt (by decide)).trans rfl)).trans ((yup_na (by decide)).trans ((yup_na (by decide)).trans (yup_na (by omega)))))); omega) (by omega) (by omega) (by omega)) (fun rq1549 mq1549 nq1549 hq1549 => ?_)
            obtain ⟨rfl, hTq1549, hFq1549, hq1549⟩ := hq1549
            have hF1555 := hF1547.tr hFq1549 wVr256_wSr256
            refine y_putI 122 c64_119 rfl (ff276_3 (by omega)) (y_fit0 _) ?_
            have hT1556 := hTq1549.up (276 + k.toNat) 3 rq1549 ((-1)) 47 (ft276_3 (by omega)) (by omega)
            have hF1557 := hF1555.up (276 + k.toNat) 3 rq1549 (wSr256_s (by omega))
            refine y_aload 123 c64_122 rfl rfl rfl ?_
            refine y_getX 126 rq1549 c64_123 rfl (ff276_3 (by omega)) (yup_eq _ _ _ _) ?_
            refine y_iconst 127 c64_126 rfl ?_
            refine y_icmp 134 130 c64_127 rfl rfl (yc_eq (by omega) (by omega)) (fun hb1558 => ?_) (fun hb1558 => ?_)
            · refine y_iconst 135 c64_134 rfl ?_
              have es1559 : (yup mq1549 (276 + k.toNat) 3 rq1549) 2 2 = mq1549 2 2 := (yup_na (by omega))
              have tb1560 := hTq1549.atp 2 2 0 320 rfl
              have es1561 : (yup mq1549 (276 + k.toNat) 3 rq1549) 256 13 = (m 256 13) + 1 := ((yup_na (by omega)).trans ((hFq1549 256 13 rfl).trans ((hFq1545 256 13 rfl).trans ((hFq1521 256 13 ((wSv256_lt (by decide)).trans rfl)).trans (yup_eq _ _ _ _)))))
              have es1562 : (yup mq1549 (276 + k.toNat) 3 rq1549) (276 + k.toNat) 0 = mq1521 (276 + k.toNat) 0 := ((yup_nk (by decide)).trans ((hFq1549 (276 + k.toNat) 0 wVr256_n276).trans (hFq1545 (276 + k.toNat) 0 wAt_n276)))
              have tb1563 := hTq1521.atp (276 + k.toNat) 0 0 9 (ft276_0 (by omega))
              have es1564 : (yup mq1549 (276 + k.toNat) 3 rq1549) (276 + k.toNat) 2 = mq1521 (276 + k.toNat) 2 := ((yup_nk (by decide)).trans ((hFq1549 (276 + k.toNat) 2 wVr256_n276).trans (hFq1545 (276 + k.toNat) 2 wAt_n276)))
              have tb1565 := hTq1521.atp (276 + k.toNat) 2 ((-1)) 47 (ft276_2 (by omega))
              have es1566 : (yup mq1549 (276 + k.toNat) 3 rq1549) (276 + k.toNat) 3 = rq1549 := (yup_eq _ _ _ _)
              have es1567 : (yup mq1549 (276 + k.toNat) 3 rq1549) (276 + k.toNat) 6 = mq1521 (276 + k.toNat) 6 := ((yup_nk (by decide)).trans ((hFq1549 (276 + k.toNat) 6 wVr256_n276).trans (hFq1545 (276 + k.toNat) 6 wAt_n276)))
              have tb1568 := hTq1521.atp (276 + k.toNat) 6 ((-1)) 11 (ft276_6 (by omega))
              have es1569 : (yup mq1549 (276 + k.toNat) 3 rq1549) (276 + k.toNat) 8 = mq1521 (276 + k.toNat) 8 := ((yup_nk (by decide)).trans ((hFq1549 (276 + k.toNat) 8 wVr256_n276).trans (hFq1545 (276 + k.toNat) 8 wAt_n276)))
              have tb1570 := hTq1521.atp (276 + k.toNat) 8 0 2 (ft276_8 (by omega))
              have ek : (yup mq1549 (276 + k.toNat) 3 rq1549) 265 (m 256 13).toNat = (m 256 16) - 1 := ((yup_na (by omega)).trans ((hFq1549 265 ((m 256 13).toNat) rfl).trans ((hFq1545 265 ((m 256 13).toNat) rfl).trans ((hFq1521 265 ((m 256 13).toNat) ((wSv256_lt (by decide)).trans rfl)).trans ((yup_na (by decide)).trans (yup_eq _ _ _ _))))))
              exact y_retI c64_135 (y_fit1 (by omega)) ⟨rfl, hT1556, hF1557, by omega, fun z hz => ((yup_na (by omega)).trans ((hFq1549 265 z rfl).trans ((hFq1545 265 z rfl).trans ((hFq1521 265 z ((wSv256_lt (by decide)).trans rfl)).trans ((yup_na (by decide)).trans ((yup_nk hz).trans (yup_na (by omega))))))))⟩
            · refine y_iconst 131 c64_130 rfl ?_
              refine y_goto 135 c64_131 rfl ?_
              have es1571 : (yup mq1549 (276 + k.toNat) 3 rq1549) 2 2 = mq1549 2 2 := (yup_na (by omega))
              have tb1572 := hTq1549.atp 2 2 0 320 rfl
              have es1573 : (yup mq1549 (276 + k.toNat) 3 rq1549) 256 13 = (m 256 13) + 1 := ((yup_na (by omega)).trans ((hFq1549 256 13 rfl).trans ((hFq1545 256 13 rfl).trans ((hFq1521 256 13 ((wSv256_lt (by decide)).trans rfl)).trans (yup_eq _ _ _ _)))))
              have es1574 : (yup mq1549 (276 + k.toNat) 3 rq1549) (276 + k.toNat) 0 = mq1521 (276 + k.toNat) 0 := ((yup_nk (by decide)).trans ((hFq1549 (276 + k.toNat) 0 wVr256_n276).trans (hFq1545 (276 + k.toNat) 0 wAt_n276)))
              have tb1575 := hTq1521.atp (276 + k.toNat) 0 0 9 (ft276_0 (by omega))
              have es1576 : (yup mq1549 (276 + k.toNat) 3 rq1549) (276 + k.toNat) 2 = mq1521 (276 + k.toNat) 2 := ((yup_nk (by decide)).trans ((hFq1549 (276 + k.toNat) 2 wVr256_n276).trans (hFq1545 (276 + k.toNat) 2 wAt_n276)))
              have tb1577 := hTq1521.atp (276 + k.toNat) 2 ((-1)) 47 (ft276_2 (by omega))
              have es1578 : (yup mq1549 (276 + k.toNat) 3 rq1549) (276 + k.toNat) 3 = rq1549 := (yup_eq _ _ _ _)
              have es1579 : (yup mq1549 (276 + k.toNat) 3 rq1549) (276 + k.toNat) 6 = mq1521 (276 + k.toNat) 6 := ((yup_nk (by decide)).trans ((hFq1549 (276 + k.toNat) 6 wVr256_n276).trans (hFq1545 (276 + k.toNat) 6 wAt_n276)))
              have tb1580 := hTq1521.atp (276 + k.toNat) 6 ((-1)) 11 (ft276_6 (by omega))
              have es1581 : (yup mq1549 (276 + k.toNat) 3 rq1549) (276 + k.toNat) 8 = mq1521 (276 + k.toNat) 8 := ((yup_nk (by decide)).trans ((hFq1549 (276 + k.toNat) 8 wVr256_n276).trans (hFq1545 (276 + k.toNat) 8 wAt_n276)))
              have tb1582 := hTq1521.atp (276 + k.toNat) 8 0 2 (ft276_8 (by omega))
              have ek : (yup mq1549 (276 + k.toNat) 3 rq1549) 265 (m 256 13).toNat = (m 256 16) - 1 := ((yup_na (by omega)).trans ((hFq1549 265 ((m 256 13).toNat) rfl).trans ((hFq1545 265 ((m 256 13).toNat) rfl).trans ((hFq1521 265 ((m 256 13).toNat) ((wSv256_lt (by decide)).trans rfl)).trans ((yup_na (by decide)).trans (yup_eq _ _ _ _))))))
              exact y_retI c64_135 (y_fit1 (by omega)) ⟨rfl, hT1556, hF1557, by omega, fun z hz => ((yup_na (by omega)).trans ((hFq1549 265 z rfl).trans ((hFq1545 265 z rfl).trans ((hFq1521 265 z ((wSv256_lt (by decide)).trans rfl)).trans ((yup_na (by decide)).trans ((yup_nk hz).trans (yup_na (by omega))))))))⟩
          · refine y_iconst 113 c64_112 rfl ?_
            have tb1583 := hTq1545.atp 2 2 0 320 rfl
            have es1584 : mq1545 256 13 = (m 256 13) + 1 := ((hFq1545 256 13 rfl).trans ((hFq1521 256 13 ((wSv256_lt (by decide)).trans rfl)).trans (yup_eq _ _ _ _)))
            have es1585 : mq1545 (276 + k.toNat) 0 = mq1521 (276 + k.toNat) 0 := (hFq1545 (276 + k.toNat) 0 wAt_n276)
            have tb1586 := hTq1521.atp (276 + k.toNat) 0 0 9 (ft276_0 (by omega))
            have es1587 : mq1545 (276 + k.toNat) 2 = mq1521 (276 + k.toNat) 2 := (hFq1545 (276 + k.toNat) 2 wAt_n276)
            have tb1588 := hTq1521.atp (276 + k.toNat) 2 ((-1)) 47 (ft276_2 (by omega))
            have es1589 : mq1545 (276 + k.toNat) 3 = mq1521 (276 + k.toNat) 3 := (hFq1545 (276 + k.toNat) 3 wAt_n276)
            have tb1590 := hTq1521.atp (276 + k.toNat) 3 ((-1)) 47 (ft276_3 (by omega))
            have es1591 : mq1545 (276 + k.toNat) 6 = mq1521 (276 + k.toNat) 6 := (hFq1545 (276 + k.toNat) 6 wAt_n276)
            have tb1592 := hTq1521.atp (276 + k.toNat) 6 ((-1)) 11 (ft276_6 (by omega))
            have es1593 : mq1545 (276 + k.toNat) 8 = mq1521 (276 + k.toNat) 8 := (hFq1545 (276 + k.toNat) 8 wAt_n276)
            have tb1594 := hTq1521.atp (276 + k.toNat) 8 0 2 (ft276_8 (by omega))
            have ek : mq1545 265 (m 256 13).toNat = (m 256 16) - 1 := ((hFq1545 265 ((m 256 13).toNat) rfl).trans ((hFq1521 265 ((m 256 13).toNat) ((wSv256_lt (by decide)).trans rfl)).trans ((yup_na (by decide)).trans (yup_eq _ _ _ _))))
            exact y_retI c64_113 (y_fit1 (by omega)) ⟨rfl, hTq1545, hF1547, by omega, fun z hz => ((hFq1545 265 z rfl).trans ((hFq1521 265 z ((wSv256_lt (by decide)).trans rfl)).trans ((yup_na (by decide)).trans ((yup_nk hz).trans (yup_na (by omega))))))⟩
      · exfalso; omega
  refine y_lsw 136 c64_4 (by omega) (by simp only [Op.lookupswitch.offset]; split <;> first | omega | (split <;> first | omega | (split <;> first | omega | rfl))) rfl ?_
  refine y_aload 137 c64_136 rfl rfl rfl ?_
  refine y_aload 138 c64_137 rfl rfl rfl ?_
  have tb1596 := hT.atp 2 1 ((-1)) 1 rfl
  have tb1597 := hT.atp 256 10 0 10 rfl
  have tb1598 := hT.atp 256 15 0 48 rfl
  refine y_callIB 141 [.ref 2] [.ref (276 + k.toNat)] c64_138 rfl rfl rfl rfl rfl (ycanO km58 ko2) (t58_256 hT he hE (by omega) (by omega) (by omega)) (fun rq1595 mq1595 nq1595 hq1595 => ?_)
  obtain ⟨rfl, hTq1595, hFq1595, hq1595⟩ := hq1595
  have hF1599 := hF.tr hFq1595 wVr256_wSr256
  refine y_putI 144 c64_141 rfl (ff276_3 (by omega)) (y_fit0 _) ?_
  have hT1600 := hTq1595.up (276 + k.toNat) 3 rq1595 ((-1)) 47 (ft276_3 (by omega)) (by omega)
  have hF1601 := hF1599.up (276 + k.toNat) 3 rq1595 (wSr256_s (by omega))
  refine y_aload 145 c64_144 rfl rfl rfl ?_
  refine y_aload 146 c64_145 rfl rfl rfl ?_
  have es1602 : (yup mq1595 (276 + k.toNat) 3 rq1595) 2 2 = mq1595 2 2 := (yup_na (by omega))
  have tb1603 := hTq1595.atp 2 2 0 320 rfl
  refine y_callP 149 [.ref 2] [.ref (276 + k.toNat)] c64_146 rfl rfl rfl rfl rfl (ycanO km38 ko2) (t38 hT1600 he (by have e1 : (yup mq1595 (276 + k.toNat) 3 rq1595) 5 e.toNat = m 5 e.toNat := ((yup_na (by omega)).trans (hFq1595 5 e.toNat rfl)); omega) (by omega)) (fun r1604 hr1604 => ?_)
  refine y_iconst 151 c64_149 rfl ?_
  refine y_icmp 159 154 c64_151 rfl rfl (yc_ne (by omega) (by omega)) (fun hb1605 => ?_) (fun hb1605 => ?_)
  · refine y_iconst 161 c64_159 rfl ?_
    refine y_putI 164 c64_161 rfl (ff276_0 (by omega)) (y_fit0 _) ?_
    have hT1606 := hT1600.up (276 + k.toNat) 0 8 0 9 (ft276_0 (by omega)) (by omega)
    have hF1607 := hF1601.up (276 + k.toNat) 0 8 (wSr256_s (by omega))
    refine y_aload 165 c64_164 rfl rfl rfl ?_
    refine y_getX 168 rq1595 c64_165 rfl (ff276_3 (by omega)) ((yup_nk (by decide)).trans (yup_eq _ _ _ _)) ?_
    refine y_iconst 169 c64_168 rfl ?_
    refine y_icmp 195 172 c64_169 rfl rfl (yc_eq (by omega) (by omega)) (fun hb1608 => ?_) (fun hb1608 => ?_)
    · refine y_iconst 196 c64_195 rfl ?_
      have es1609 : (yup (yup mq1595 (276 + k.toNat) 3 rq1595) (276 + k.toNat) 0 8) 2 2 = mq1595 2 2 := ((yup_na (by omega)).trans (yup_na (by omega)))
      have es1610 : (yup (yup mq1595 (276 + k.toNat) 3 rq1595) (276 + k.toNat) 0 8) 256 13 = m 256 13 := ((yup_na (by omega)).trans ((yup_na (by omega)).trans (hFq1595 256 13 rfl)))
      have tb1611 := hT.atp 256 13 0 8 rfl
      have es1612 : (yup (yup mq1595 (276 + k.toNat) 3 rq1595) (276 + k.toNat) 0 8) (276 + k.toNat) 0 = 8 := (yup_eq _ _ _ _)
      have es1613 : (yup (yup mq1595 (276 + k.toNat) 3 rq1595) (276 + k.toNat) 0 8) (276 + k.toNat) 2 = m (276 + k.toNat) 2 := ((yup_nk (by decide)).trans ((yup_nk (by decide)).trans (hFq1595 (276 + k.toNat) 2 wVr256_n276)))
      have tb1614 := hT.atp (276 + k.toNat) 2 ((-1)) 47 (ft276_2 (by omega))
      have es1615 : (yup (yup mq1595 (276 + k.toNat) 3 rq1595) (276 + k.toNat) 0 8) (276 + k.toNat) 3 = rq1595 := ((yup_nk (by decide)).trans (yup_eq _ _ _ _))
      have es1616 : (yup (yup mq1595 (276 + k.toNat) 3 rq1595) (276 + k.toNat) 0 8) (276 + k.toNat) 6 = m (276 + k.toNat) 6 := ((yup_nk (by decide)).trans ((yup_nk (by decide)).trans (hFq1595 (276 + k.toNat) 6 wVr256_n276)))
      have tb1617 := hT.atp (276 + k.toNat) 6 ((-1)) 11 (ft276_6 (by omega))
      have es1618 : (yup (yup mq1595 (276 + k.toNat) 3 rq1595) (276 + k.toNat) 0 8) (276 + k.toNat) 8 = m (276 + k.toNat) 8 := ((yup_nk (by decide)).trans ((yup_nk (by decide)).trans (hFq1595 (276 + k.toNat) 8 wVr256_n276)))
      have tb1619 := hT.atp (276 + k.toNat) 8 0 2 (ft276_8 (by omega))
      exact y_retI c64_196 (y_fit1 (by omega)) ⟨rfl, hT1606, hF1607, by omega, fun z hz => ((yup_na (by omega)).trans ((yup_na (by omega)).trans (hFq1595 265 z rfl)))⟩
    · refine y_aload 173 c64_172 rfl rfl rfl ?_
      refine y_getX 176 8 c64_173 rfl (ff276_0 (by omega)) (yup_eq _ _ _ _) ?_
      refine y_iconst 178 c64_176 rfl ?_
      refine y_icmp 191 181 c64_178 rfl rfl (yc_eq (by omega) (by omega)) (fun hb1620 => ?_) (fun hb1620 => ?_)
      · refine y_iconst 192 c64_191 rfl ?_
        refine y_goto 196 c64_192 rfl ?_
        have es1621 : (yup (yup mq1595 (276 + k.toNat) 3 rq1595) (276 + k.toNat) 0 8) 2 2 = mq1595 2 2 := ((yup_na (by omega)).trans (yup_na (by omega)))
        have es1622 : (yup (yup mq1595 (276 + k.toNat) 3 rq1595) (276 + k.toNat) 0 8) 256 13 = m 256 13 := ((yup_na (by omega)).trans ((yup_na (by omega)).trans (hFq1595 256 13 rfl)))
        have tb1623 := hT.atp 256 13 0 8 rfl
        have es1624 : (yup (yup mq1595 (276 + k.toNat) 3 rq1595) (276 + k.toNat) 0 8) (276 + k.toNat) 0 = 8 := (yup_eq _ _ _ _)
        have es1625 : (yup (yup mq1595 (276 + k.toNat) 3 rq1595) (276 + k.toNat) 0 8) (276 + k.toNat) 2 = m (276 + k.toNat) 2 := ((yup_nk (by decide)).trans ((yup_nk (by decide)).trans (hFq1595 (276 + k.toNat) 2 wVr256_n276)))
        have tb1626 := hT.atp (276 + k.toNat) 2 ((-1)) 47 (ft276_2 (by omega))
        have es1627 : (yup (yup mq1595 (276 + k.toNat) 3 rq1595) (276 + k.toNat) 0 8) (276 + k.toNat) 3 = rq1595 := ((yup_nk (by decide)).trans (yup_eq _ _ _ _))
        have es1628 : (yup (yup mq1595 (276 + k.toNat) 3 rq1595) (276 + k.toNat) 0 8) (276 + k.toNat) 6 = m (276 + k.toNat) 6 := ((yup_nk (by decide)).trans ((yup_nk (by decide)).trans (hFq1595 (276 + k.toNat) 6 wVr256_n276)))
        have tb1629 := hT.atp (276 + k.toNat) 6 ((-1)) 11 (ft276_6 (by omega))
        have es1630 : (yup (yup mq1595 (276 + k.toNat) 3 rq1595) (276 + k.toNat) 0 8) (276 + k.toNat) 8 = m (276 + k.toNat) 8 := ((yup_nk (by decide)).trans ((yup_nk (by decide)).trans (hFq1595 (276 + k.toNat) 8 wVr256_n276)))
        have tb1631 := hT.atp (276 + k.toNat) 8 0 2 (ft276_8 (by omega))
        exact y_retI c64_196 (y_fit1 (by omega)) ⟨rfl, hT1606, hF1607, by omega, fun z hz => ((yup_na (by omega)).trans ((yup_na (by omega)).trans (hFq1595 265 z rfl)))⟩
      · exfalso; omega
  · refine y_iconst 156 c64_154 rfl ?_
    refine y_goto 161 c64_156 rfl ?_
    refine y_putI 164 c64_161 rfl (ff276_0 (by omega)) (y_fit0 _) ?_
    have hT1632 := hT1600.up (276 + k.toNat) 0 9 0 9 (ft276_0 (by omega)) (by omega)
    have hF1633 := hF1601.up (276 + k.toNat) 0 9 (wSr256_s (by omega))
    refine y_aload 165 c64_164 rfl rfl rfl ?_
    refine y_getX 168 rq1595 c64_165 rfl (ff276_3 (by omega)) ((yup_nk (by decide)).trans (yup_eq _ _ _ _)) ?_
    refine y_iconst 169 c64_168 rfl ?_
    refine y_icmp 195 172 c64_169 rfl rfl (yc_eq (by omega) (by omega)) (fun hb1634 => ?_) (fun hb1634 => ?_)
    · refine y_iconst 196 c64_195 rfl ?_
      have es1635 : (yup (yup mq1595 (276 + k.toNat) 3 rq1595) (276 + k.toNat) 0 9) 2 2 = mq1595 2 2 := ((yup_na (by omega)).trans (yup_na (by omega)))
      have es1636 : (yup (yup mq1595 (276 + k.toNat) 3 rq1595) (276 + k.toNat) 0 9) 256 13 = m 256 13 := ((yup_na (by omega)).trans ((yup_na (by omega)).trans (hFq1595 256 13 rfl)))
      have tb1637 := hT.atp 256 13 0 8 rfl
      have es1638 : (yup (yup mq1595 (276 + k.toNat) 3 rq1595) (276 + k.toNat) 0 9) (276 + k.toNat) 0 = 9 := (yup_eq _ _ _ _)
      have es1639 : (yup (yup mq1595 (276 + k.toNat) 3 rq1595) (276 + k.toNat) 0 9) (276 + k.toNat) 2 = m (276 + k.toNat) 2 := ((yup_nk (by decide)).trans ((yup_nk (by decide)).trans (hFq1595 (276 + k.toNat) 2 wVr256_n276)))
      have tb1640 := hT.atp (276 + k.toNat) 2 ((-1)) 47 (ft276_2 (by omega))
      have es1641 : (yup (yup mq1595 (276 + k.toNat) 3 rq1595) (276 + k.toNat) 0 9) (276 + k.toNat) 3 = rq1595 := ((yup_nk (by decide)).trans (yup_eq _ _ _ _))
      have es1642 : (yup (yup mq1595 (276 + k.toNat) 3 rq1595) (276 + k.toNat) 0 9) (276 + k.toNat) 6 = m (276 + k.toNat) 6 := ((yup_nk (by decide)).trans ((yup_nk (by decide)).trans (hFq1595 (276 + k.toNat) 6 wVr256_n276)))
      have tb1643 := hT.atp (276 + k.toNat) 6 ((-1)) 11 (ft276_6 (by omega))
      have es1644 : (yup (yup mq1595 (276 + k.toNat) 3 rq1595) (276 + k.toNat) 0 9) (276 + k.toNat) 8 = m (276 + k.toNat) 8 := ((yup_nk (by decide)).trans ((yup_nk (by decide)).trans (hFq1595 (276 + k.toNat) 8 wVr256_n276)))
      have tb1645 := hT.atp (276 + k.toNat) 8 0 2 (ft276_8 (by omega))
      exact y_retI c64_196 (y_fit1 (by omega)) ⟨rfl, hT1632, hF1633, by omega, fun z hz => ((yup_na (by omega)).trans ((yup_na (by omega)).trans (hFq1595 265 z rfl)))⟩
    · refine y_aload 173 c64_172 rfl rfl rfl ?_
      refine y_getX 176 9 c64_173 rfl (ff276_0 (by omega)) (yup_eq _ _ _ _) ?_
      refine y_iconst 178 c64_176 rfl ?_
      refine y_icmp 191 181 c64_178 rfl rfl (yc_eq (by omega) (by omega)) (fun hb1646 => ?_) (fun hb1646 => ?_)
      · exfalso; omega
      · refine y_aload 182 c64_181 rfl rfl rfl ?_
        refine y_iconst 184 c64_182 rfl ?_
        refine y_aload 185 c64_184 rfl rfl rfl ?_
        have es1648 : (yup (yup mq1595 (276 + k.toNat) 3 rq1595) (276 + k.toNat) 0 9) 2 2 = mq1595 2 2 := ((yup_na (by omega)).trans (yup_na (by omega)))
        have es1649 : (yup (yup mq1595 (276 + k.toNat) 3 rq1595) (276 + k.toNat) 0 9) 2 1 = m 2 1 := ((yup_na (by omega)).trans ((yup_na (by omega)).trans (hFq1595 2 1 rfl)))
        have es1650 : (yup (yup mq1595 (276 + k.toNat) 3 rq1595) (276 + k.toNat) 0 9) 256 10 = m 256 10 := ((yup_na (by omega)).trans ((yup_na (by omega)).trans (hFq1595 256 10 rfl)))
        have es1651 : (yup (yup mq1595 (276 + k.toNat) 3 rq1595) (276 + k.toNat) 0 9) (276 + k.toNat) 0 = 9 := (yup_eq _ _ _ _)
        have es1652 : (yup (yup mq1595 (276 + k.toNat) 3 rq1595) (276 + k.toNat) 0 9) (276 + k.toNat) 2 = m (276 + k.toNat) 2 := ((yup_nk (by decide)).trans ((yup_nk (by decide)).trans (hFq1595 (276 + k.toNat) 2 wVr256_n276)))
        have tb1653 := hT.atp (276 + k.toNat) 2 ((-1)) 47 (ft276_2 (by omega))
        have es1654 : (yup (yup mq1595 (276 + k.toNat) 3 rq1595) (276 + k.toNat) 0 9) (276 + k.toNat) 3 = rq1595 := ((yup_nk (by decide)).trans (yup_eq _ _ _ _))
        have es1655 : (yup (yup mq1595 (276 + k.toNat) 3 rq1595) (276 + k.toNat) 0 9) (276 + k.toNat) 6 = m (276 + k.toNat) 6 := ((yup_nk (by decide)).trans ((yup_nk (by decide)).trans (hFq1595 (276 + k.toNat) 6 wVr256_n276)))
        have tb1656 := hT.atp (276 + k.toNat) 6 ((-1)) 11 (ft276_6 (by omega))
        have es1657 : (yup (yup mq1595 (276 + k.toNat) 3 rq1595) (276 + k.toNat) 0 9) (276 + k.toNat) 8 = m (276 + k.toNat) 8 := ((yup_nk (by decide)).trans ((yup_nk (by decide)).trans (hFq1595 (276 + k.toNat) 8 wVr256_n276)))
        have tb1658 := hT.atp (276 + k.toNat) 8 0 2 (ft276_8 (by omega))
        refine y_callIB 188 [.ref 2, yI 46, .ref (276 + k.toNat)] [] c64_185 rfl rfl rfl rfl rfl (ycanO km62 ko2) (t62_256 hT1632 he (by have e1 : (yup (yup mq1595 (276 + k.toNat) 3 rq1595) (276 + k.toNat) 0 9) 5 e.toNat = m 5 e.toNat := ((yup_na (by omega)).trans ((yup_na (by omega)).trans (hFq1595 5 e.toNat rfl))); omega) (by omega) (by omega) (k := k) (by omega) (by omega) (by omega)) (fun rq1647 mq1647 nq1647 hq1647 => ?_)
        obtain ⟨rfl, hTq1647, hFq1647, hq1647⟩ := hq1647
        have hF1659 := hF1633.tr hFq1647 wSv256_wSr256
        refine y_if 195 191 c64_188 rfl rfl (yz_eq (by omega)) (fun hb1660 => ?_) (fun hb1660 => ?_)
        · refine y_iconst 196 c64_195 rfl ?_
          have tb1661 := hTq1647.atp 2 2 0 320 rfl
          have es1662 : mq1647 256 13 = m 256 13 := ((hFq1647 256 13 ((wSv256_lt (by decide)).trans rfl)).trans ((yup_na (by omega)).trans ((yup_na (by omega)).trans (hFq1595 256 13 rfl))))
          have tb1663 := hT.atp 256 13 0 8 rfl
          have tb1664 := hTq1647.atp (276 + k.toNat) 0 0 9 (ft276_0 (by omega))
          have tb1665 := hTq1647.atp (276 + k.toNat) 2 ((-1)) 47 (ft276_2 (by omega))
          have tb1666 := hTq1647.atp (276 + k.toNat) 3 ((-1)) 47 (ft276_3 (by omega))
          have tb1667 := hTq1647.atp (276 + k.toNat) 6 ((-1)) 11 (ft276_6 (by omega))
          have tb1668 := hTq1647.atp (276 + k.toNat) 8 0 2 (ft276_8 (by omega))
          exact y_retI c64_196 (y_fit1 (by omega)) ⟨rfl, hTq1647, hF1659, by omega, fun z hz => ((hFq1647 265 z ((wSv256_lt (by decide)).trans rfl)).trans ((yup_na (by omega)).trans ((yup_na (by omega)).trans (hFq1595 265 z rfl))))⟩
        · refine y_iconst 192 c64_191 rfl ?_
          refine y_goto 196 c64_192 rfl ?_
          have tb1669 := hTq1647.atp 2 2 0 320 rfl
          have es1670 : mq1647 256 13 = m 256 13 := ((hFq1647 256 13 ((wSv256_lt (by decide)).trans rfl)).trans ((yup_na (by omega)).trans ((yup_na (by omega)).trans (hFq1595 256 13 rfl))))
          have tb1671 := hT.atp 256 13 0 8 rfl
          have tb1672 := hTq1647.atp (276 + k.toNat) 0 0 9 (ft276_0 (by omega))
          have tb1673 := hTq1647.atp (276 + k.toNat) 2 ((-1)) 47 (ft276_2 (by omega))
          have tb1674 := hTq1647.atp (276 + k.toNat) 3 ((-1)) 47 (ft276_3 (by omega))
          have tb1675 := hTq1647.atp (276 + k.toNat) 6 ((-1)) 11 (ft276_6 (by omega))
          have tb1676 := hTq1647.atp (276 + k.toNat) 8 0 2 (ft276_8 (by omega))
          exact y_retI c64_196 (y_fit1 (by omega)) ⟨rfl, hTq1647, hF1659, by omega, fun z hz => ((hFq1647 265 z ((wSv256_lt (by decide)).trans rfl)).trans ((yup_na (by omega)).trans ((yup_na (by omega)).trans (hFq1595 265 z rfl))))⟩
set_option maxRecDepth 100000 in
theorem t68_256 {L : Nat} {xs : Nat → Int32} {d nn : Nat} {m : yM} {e : Int} (hT : Ty gT m) (he : 0 ≤ e ∧ e ≤ 320) (hE : m 5 e.toNat = 0) (ha : m 2 2 ≤ e) (hp : m 2 1 = 0) {k : Int} (hk : 0 ≤ k ∧ k ≤ 39) (hm : 1 ≤ m 256 10) (h16 : m 256 16 = k + 1) (h8 : m (276 + k.toNat) 8 = 0) : YC (gZ L xs) (d + 3) 68 [.ref 2, .ref (276 + k.toNat)] m nn (qI (fun r m' n' => n' = nn ∧ Ty gT m' ∧ Fr (wSs256 k.toNat) m m' ∧ ((r = 0 ∨ r = 1) ∧ m' 2 2 ≤ e ∧ m 256 12 ≤ m' 256 12 ∧ (r = 1 → ((m' (276 + k.toNat) 0 = 4 ∧ 0 ≤ m' (276 + k.toNat) 3 ∧ m' (276 + k.toNat) 6 = m 256 12 ∧ m' 256 12 = m 256 12 + 1 ∧ (1 ≤ m' (276 + k.toNat) 8 → 0 ≤ m' (276 + k.toNat) 9) ∧ (2 ≤ m' (276 + k.toNat) 8 → 0 ≤ m' (276 + k.toNat) 10)) ∨ (m' (276 + k.toNat) 0 ≠ 4 ∧ m' 256 12 = m 256 12 ∧ 0 ≤ m' (276 + k.toNat) 2 ∧ (m' (276 + k.toNat) 0 = 5 → 0 ≤ m' (276 + k.toNat) 6) ∧ 3 ≤ m' (276 + k.toNat) 0 ∧ (m' (276 + k.toNat) 0 ≠ 5 → m' (276 + k.toNat) 0 ≠ 6 → 0 ≤ m' (276 + k.toNat) 3)))) ∧ (m' 256 13 = m 256 13 ∨ (m' 256 13 = m 256 13 + 1 ∧ m' 265 (m 256 13).toNat = k ∧ (r = 1 → m' (276 + k.toNat) 0 = 7)))) ∧ (∀ z, z ≠ (m 256 13).toNat → m' 265 z = m 265 z))) := by
  have tb2 := hT.atp 2 2 0 320 rfl
  have tb13 := hT.atp 256 13 0 8 rfl
  have tb12 := hT.atp 256 12 0 12 rfl
  refine YC.mkB [some (.ref 2), some (.ref (276 + k.toNat)), none, none, none] kn68 rfl rfl ?_
  have hF : Fr (wSs256 k.toNat) m m := Fr.rf
  refine y_aload 1 c68_0 rfl rfl rfl ?_
  have tb1677 := hT.atp 2 2 0 320 rfl
  refine y_callP 4 [.ref 2] [] c68_1 rfl rfl rfl rfl rfl (ycanO km38 ko2) (t38 hT he hE (by omega)) (fun r1678 hr1678 => ?_)
  refine y_iconst 6 c68_4 rfl ?_
  refine y_icmp 13 9 c68_6 rfl rfl (yc_ne (by omega) (by omega)) (fun hb1679 => ?_) (fun hb1679 => ?_)
  · refine y_iconst 14 c68_13 rfl ?_
    refine y_istore 15 c68_14 rfl rfl ?_
    refine y_aload 16 c68_15 rfl rfl rfl ?_
    have tb1681 := hT.atp 2 1 ((-1)) 1 rfl
    have tb1682 := hT.atp 256 10 0 10 rfl
    have tb1683 := hT.atp 256 15 0 48 rfl
    refine y_callIB 19 [.ref 2] [] c68_16 rfl rfl rfl rfl rfl (ycanO km58 ko2) (t58_256 hT he hE (by omega) (by omega) (by omega)) (fun rq1680 mq1680 nq1680 hq1680 => ?_)
    obtain ⟨rfl, hTq1680, hFq1680, hq1680⟩ := hq1680
    have hF1684 := hF.tr hFq1680 wVr256_wSs256
    refine y_istore 20 c68_19 rfl rfl ?_
    refine y_iload 21 c68_20 rfl rfl ?_
    refine y_iconst 22 c68_21 rfl ?_
    refine y_icmp 27 25 c68_22 rfl rfl (yc_ne (by omega) (by omega)) (fun hb1685 => ?_) (fun hb1685 => ?_)
    · refine y_iload 28 c68_27 rfl rfl ?_
      refine y_if 44 31 c68_28 rfl rfl (yz_eq (by omega)) (fun hb1686 => ?_) (fun hb1686 => ?_)
      · refine y_iconst 45 c68_44 rfl ?_
        refine y_istore 47 c68_45 rfl rfl ?_
        refine y_iload 49 c68_47 rfl rfl ?_
        refine y_if 77 52 c68_49 rfl rfl (yz_eq (by omega)) (fun hb1687 => ?_) (fun hb1687 => ?_)
        · refine y_aload 78 c68_77 rfl rfl rfl ?_
          refine y_iload 79 c68_78 rfl rfl ?_
          refine y_putI 82 c68_79 rfl (ff276_3 (by omega)) (y_fit0 _) ?_
          have hT1688 := hTq1680.up (276 + k.toNat) 3 rq1680 ((-1)) 47 (ft276_3 (by omega)) (by omega)
          have hF1689 := hF1684.up (276 + k.toNat) 3 rq1680 (wSs256_s (by omega))
          refine y_aload 83 c68_82 rfl rfl rfl ?_
          refine y_iconst 85 c68_83 rfl ?_
          refine y_putI 88 c68_85 rfl (ff276_0 (by omega)) (y_fit0 _) ?_
          have hT1690 := hT1688.up (276 + k.toNat) 0 9 0 9 (ft276_0 (by omega)) (by omega)
          have hF1691 := hF1689.up (276 + k.toNat) 0 9 (wSs256_s (by omega))
          refine y_aload 89 c68_88 rfl rfl rfl ?_
          refine y_iconst 91 c68_89 rfl ?_
          refine y_aload 92 c68_91 rfl rfl rfl ?_
          have es1693 : (yup (yup mq1680 (276 + k.toNat) 3 rq1680) (276 + k.toNat) 0 9) 2 2 = mq1680 2 2 := ((yup_na (by omega)).trans (yup_na (by omega)))
          have tb1694 := hTq1680.atp 2 2 0 320 rfl
          have es1695 : (yup (yup mq1680 (276 + k.toNat) 3 rq1680) (276 + k.toNat) 0 9) 2 1 = m 2 1 := ((yup_na (by omega)).trans ((yup_na (by omega)).trans (hFq1680 2 1 rfl)))
          have es1696 : (yup (yup mq1680 (276 + k.toNat) 3 rq1680) (276 + k.toNat) 0 9) 256 10 = m 256 10 := ((yup_na (by omega)).trans ((yup_na (by omega)).trans (hFq1680 256 10 rfl)))
          have es1697 : (yup (yup mq1680 (276 + k.toNat) 3 rq1680) (276 + k.toNat) 0 9) (276 + k.toNat) 0 = 9 := (yup_eq _ _ _ _)
          have es1698 : (yup (yup mq1680 (276 + k.toNat) 3 rq1680) (276 + k.toNat) 0 9) (276 + k.toNat) 2 = m (276 + k.toNat) 2 := ((yup_nk (by decide)).trans ((yup_nk (by decide)).trans (hFq1680 (276 + k.toNat) 2 wVr256_n276)))
          have tb1699 := hT.atp (276 + k.toNat) 2 ((-1)) 47 (ft276_2 (by omega))
          have es1700 : (yup (yup mq1680 (276 + k.toNat) 3 rq1680) (276 + k.toNat) 0 9) (276 + k.toNat) 3 = rq1680 := ((yup_nk (by decide)).trans (yup_eq _ _ _ _))
          have es1701 : (yup (yup mq1680 (276 + k.toNat) 3 rq1680) (276 + k.toNat) 0 9) (276 + k.toNat) 6 = m (276 + k.toNat) 6 := ((yup_nk (by decide)).trans ((yup_nk (by decide)).trans (hFq1680 (276 + k.toNat) 6 wVr256_n276)))
          have tb1702 := hT.atp (276 + k.toNat) 6 ((-1)) 11 (ft276_6 (by omega))
          have es1703 : (yup (yup mq1680 (276 + k.toNat) 3 rq1680) (276 + k.toNat) 0 9) (276 + k.toNat) 8 = m (276 + k.toNat) 8 := ((yup_nk (by decide)).trans ((yup_nk (by decide)).trans (hFq1680 (276 + k.toNat) 8 wVr256_n276)))
          have tb1704 := hT.atp (276 + k.toNat) 8 0 2 (ft276_8 (by omega))
          refine y_callIB 95 [.ref 2, yI 46, .ref (276 + k.toNat)] [] c68_92 rfl rfl rfl rfl rfl (ycanO km62 ko2) (t62_256 hT1690 he (by have e1 : (yup (yup mq1680 (276 + k.toNat) 3 rq1680) (276 + k.toNat) 0 9) 5 e.toNat = m 5 e.toNat := ((yup_na (by omega)).trans ((yup_na (by omega)).trans (hFq1680 5 e.toNat rfl))); omega) (by omega) (by omega) (k := k) (by omega) (by omega) (by omega)) (fun rq1692 mq1692 nq1692 hq1692 => ?_)
          obtain ⟨rfl, hTq1692, hFq1692, hq1692⟩ := hq1692
          have hF1705 := hF1691.tr hFq1692 wSv256_wSs256
          refine y_if 100 98 c68_95 rfl rfl (yz_ne (by omega)) (fun hb1706 => ?_) (fun hb1706 => ?_)
          · refine y_aload 101 c68_100 rfl rfl rfl ?_
            refine y_getX 104 (mq1692 (276 + k.toNat) 0) c68_101 rfl (ff276_0 (by omega)) rfl ?_
            have tb1707 := hTq1692.atp (276 + k.toNat) 0 0 9 (ft276_0 (by omega))
            refine y_iconst 106 c68_104 rfl ?_
            refine y_icmp 124 109 c68_106 rfl rfl (yc_ne (by omega) (by omega)) (fun hb1708 => ?_) (fun hb1708 => ?_)
            · refine y_iload 126 c68_124 rfl rfl ?_
              refine y_if 137 129 c68_126 rfl rfl (yz_ne (by omega)) (fun hb1709 => ?_) (fun hb1709 => ?_)
              · exfalso; omega
              · refine y_aload 130 c68_129 rfl rfl rfl ?_
                refine y_aload 131 c68_130 rfl rfl rfl ?_
                have tb1711 := hTq1692.atp 2 2 0 320 rfl
                have es1712 : mq1692 2 1 = m 2 1 := ((hFq1692 2 1 ((wSv256_lt (by decide)).trans rfl)).trans ((yup_na (by omega)).trans ((yup_na (by omega)).trans (hFq1680 2 1 rfl))))
                have es1713 : mq1692 256 10 = m 256 10 := ((hFq1692 256 10 ((wSv256_lt (by decide)).trans rfl)).trans ((yup_na (by omega)).trans ((yup_na (by omega)).trans (hFq1680 256 10 rfl))))
                have tb1714 := hTq1692.atp (276 + k.toNat) 3 ((-1)) 47 (ft276_3 (by omega))
                refine y_callIB 134 [.ref 2, .ref (276 + k.toNat)] [] c68_131 rfl rfl rfl rfl rfl (ycanO km67 ko2) (t67_256 hTq1692 he (by have e1 : mq1692 5 e.toNat = m 5 e.toNat := ((hFq1692 5 e.toNat ((wSv256_lt (by decide)).trans rfl)).trans ((yup_na (by omega)).trans ((yup_na (by omega)).trans (hFq1680 5 e.toNat rfl)))); omega) (by omega) (by omega) (k := k) (by omega) (by omega) (by omega)) (fun rq1710 mq1710 nq1710 hq1710 => ?_)
                obtain ⟨rfl, hTq1710, hFq1710, hq1710⟩ := hq1710
                have hF1715 := hF1705.tr hFq1710 wSv256_wSs256
                refine y_if 141 137 c68_134 rfl rfl (yz_eq (by omega)) (fun hb1716 => ?_) (fun hb1716 => ?_)
                · refine y_iconst 142 c68_141 rfl ?_
                  have tb1717 := hTq1710.atp 2 2 0 320 rfl
                  have es1718 : mq1710 256 13 = m 256 13 := ((hFq1710 256 13 ((wSv256_lt (by decide)).trans rfl)).trans ((hFq1692 256 13 ((wSv256_lt (by decide)).trans rfl)).trans ((yup_na (by omega)).trans ((yup_na (by omega)).trans (hFq1680 256 13 rfl)))))
                  have tb1719 := hT.atp 256 13 0 8 rfl
                  have es1720 : mq1710 256 12 = m 256 12 := ((hFq1710 256 12 ((wSv256_lt (by decide)).trans rfl)).trans ((hFq1692 256 12 ((wSv256_lt (by decide)).trans rfl)).trans ((yup_na (by omega)).trans ((yup_na (by omega)).trans (hFq1680 256 12 rfl)))))
                  have tb1721 := hT.atp 256 12 0 12 rfl
                  have tb1722 := hTq1710.atp (276 + k.toNat) 0 0 9 (ft276_0 (by omega))
                  have tb1723 := hTq1710.atp (276 + k.toNat) 2 ((-1)) 47 (ft276_2 (by omega))
                  have tb1724 := hTq1710.atp (276 + k.toNat) 3 ((-1)) 47 (ft276_3 (by omega))
                  have tb1725 := hTq1710.atp (276 + k.toNat) 6 ((-1)) 11 (ft276_6 (by omega))
                  have tb1726 := hTq1710.atp (276 + k.toNat) 8 0 2 (ft276_8 (by omega))
                  have tb1727 := hTq1710.atp (276 + k.toNat) 9 ((-1)) 47 (ft276_9 (by omega))
                  have tb1728 := hTq1710.atp (276 + k.toNat) 10 ((-1)) 47 (ft276_10 (by omega))
                  exact y_retI c68_142 (y_fit1 (by omega)) ⟨rfl, hTq1710, hF1715, by omega, fun z hz => ((hFq1710 265 z ((wSv256_lt (by decide)).trans rfl)).trans ((hFq1692 265 z ((wSv256_lt (by decide)).trans rfl)).trans ((yup_na (by omega)).trans ((yup_na (by omega)).trans (hFq1680 265 z rfl)))))⟩
                · refine y_iconst 138 c68_137 rfl ?_
                  refine y_goto 142 c68_138 rfl ?_
                  have tb1729 := hTq1710.atp 2 2 0 320 rfl
                  have es1730 : mq1710 256 13 = m 256 13 := ((hFq1710 256 13 ((wSv256_lt (by decide)).trans rfl)).trans ((hFq1692 256 13 ((wSv256_lt (by decide)).trans rfl)).trans ((yup_na (by omega)).trans ((yup_na (by omega)).trans (hFq1680 256 13 rfl)))))
                  have tb1731 := hT.atp 256 13 0 8 rfl
                  have es1732 : mq1710 256 12 = m 256 12 := ((hFq1710 256 12 ((wSv256_lt (by decide)).trans rfl)).trans ((hFq1692 256 12 ((wSv256_lt (by decide)).trans rfl)).trans ((yup_na (by omega)).trans ((yup_na (by omega)).trans (hFq1680 256 12 rfl)))))
                  have tb1733 := hT.atp 256 12 0 12 rfl
                  have tb1734 := hTq1710.atp (276 + k.toNat) 0 0 9 (ft276_0 (by omega))
                  have tb1735 := hTq1710.atp (276 + k.toNat) 2 ((-1)) 47 (ft276_2 (by omega))
                  have tb1736 := hTq1710.atp (276 + k.toNat) 3 ((-1)) 47 (ft276_3 (by omega))
                  have tb1737 := hTq1710.atp (276 + k.toNat) 6 ((-1)) 11 (ft276_6 (by omega))
                  have tb1738 := hTq1710.atp (276 + k.toNat) 8 0 2 (ft276_8 (by omega))
                  have tb1739 := hTq1710.atp (276 + k.toNat) 9 ((-1)) 47 (ft276_9 (by omega))
                  have tb1740 := hTq1710.atp (276 + k.toNat) 10 ((-1)) 47 (ft276_10 (by omega))
                  exact y_retI c68_142 (y_fit1 (by omega)) ⟨rfl, hTq1710, hF1715, by omega, fun z hz => ((hFq1710 265 z ((wSv256_lt (by decide)).trans rfl)).trans ((hFq1692 265 z ((wSv256_lt (by decide)).trans rfl)).trans ((yup_na (by omega)).trans ((yup_na (by omega)).trans (hFq1680 265 z rfl)))))⟩
            · refine y_aload 110 c68_109 rfl rfl rfl ?_
              have tb1741 := hTq1692.atp 2 2 0 320 rfl
              refine y_callP 113 [.ref 2] [] c68_110 rfl rfl rfl rfl rfl (ycanO km38 ko2) (t38 hTq1692 he (by have e1 : mq1692 5 e.toNat = m 5 e.toNat := ((hFq1692 5 e.toNat ((wSv256_lt (by decide)).trans rfl)).trans ((yup_na (by omega)).trans ((yup_na (by omega)).trans (hFq1680 5 e.toNat rfl)))); omega) (by omega)) (fun r1742 hr1742 => ?_)
              refine y_iconst 115 c68_113 rfl ?_
              refine y_icmp 124 118 c68_115 rfl rfl (yc_ne (by omega) (by omega)) (fun hb1743 => ?_) (fun hb1743 => ?_)
              · refine y_iload 126 c68_124 rfl rfl ?_
                refine y_if 137 129 c68_126 rfl rfl (yz_ne (by omega)) (fun hb1744 => ?_) (fun hb1744 => ?_)
                · exfalso; omega
                · refine y_aload 130 c68_129 rfl rfl rfl ?_
                  refine y_aload 131 c68_130 rfl rfl rfl ?_
                  have es1746 : mq1692 2 1 = m 2 1 := ((hFq1692 2 1 ((wSv256_lt (by decide)).trans rfl)).trans ((yup_na (by omega)).trans ((yup_na (by omega)).trans (hFq1680 2 1 rfl))))
                  have es1747 : mq1692 256 10 = m 256 10 := ((hFq1692 256 10 ((wSv256_lt (by decide)).trans rfl)).trans ((yup_na (by omega)).trans ((yup_na (by omega)).trans (hFq1680 256 10 rfl))))
                  have tb1748 := hTq1692.atp (276 + k.toNat) 3 ((-1)) 47 (ft276_3 (by omega))
                  refine y_callIB 134 [.ref 2, .ref (276 + k.toNat)] [] c68_131 rfl rfl rfl rfl rfl (ycanO km67 ko2) (t67_256 hTq1692 he (by have e1 : mq1692 5 e.toNat = m 5 e.toNat := ((hFq1692 5 e.toNat ((wSv256_lt (by decide)).trans rfl)).trans ((yup_na (by omega)).trans ((yup_na (by omega)).trans (hFq1680 5 e.toNat rfl)))); omega) (by omega) (by omega) (k := k) (by omega) (by omega) (by omega)) (fun rq1745 mq1745 nq1745 hq1745 => ?_)
                  obtain ⟨rfl, hTq1745, hFq1745, hq1745⟩ := hq1745
                  have hF1749 := hF1705.tr hFq1745 wSv256_wSs256
                  refine y_if 141 137 c68_134 rfl rfl (yz_eq (by omega)) (fun hb1750 => ?_) (fun hb1750 => ?_)
                  · refine y_iconst 142 c68_141 rfl ?_
                    have tb1751 := hTq1745.atp 2 2 0 320 rfl
                    have es1752 : mq1745 256 13 = m 256 13 := ((hFq1745 256 13 ((wSv256_lt (by decide)).trans rfl)).trans ((hFq1692 256 13 ((wSv256_lt (by decide)).trans rfl)).trans ((yup_na (by omega)).trans ((yup_na (by omega)).trans (hFq1680 256 13 rfl)))))
                    have tb1753 := hT.atp 256 13 0 8 rfl
                    have es1754 : mq1745 256 12 = m 256 12 := ((hFq1745 256 12 ((wSv256_lt (by decide)).trans rfl)).trans ((hFq1692 256 12 ((wSv256_lt (by decide)).trans rfl)).trans ((yup_na (by omega)).trans ((yup_na (by omega)).trans (hFq1680 256 12 rfl)))))
                    have tb1755 := hT.atp 256 12 0 12 rfl
                    have tb1756 := hTq1745.atp (276 + k.toNat) 0 0 9 (ft276_0 (by omega))
                    have tb1757 := hTq1745.atp (276 + k.toNat) 2 ((-1)) 47 (ft276_2 (by omega))
                    have tb1758 := hTq1745.atp (276 + k.toNat) 3 ((-1)) 47 (ft276_3 (by omega))
                    have tb1759 := hTq1745.atp (276 + k.toNat) 6 ((-1)) 11 (ft276_6 (by omega))
                    have tb1760 := hTq1745.atp (276 + k.toNat) 8 0 2 (ft276_8 (by omega))
                    have tb1761 := hTq1745.atp (276 + k.toNat) 9 ((-1)) 47 (ft276_9 (by omega))
                    have tb1762 := hTq1745.atp (276 + k.toNat) 10 ((-1)) 47 (ft276_10 (by omega))
                    exact y_retI c68_142 (y_fit1 (by omega)) ⟨rfl, hTq1745, hF1749, by omega, fun z hz => ((hFq1745 265 z ((wSv256_lt (by decide)).trans rfl)).trans ((hFq1692 265 z ((wSv256_lt (by decide)).trans rfl)).trans ((yup_na (by omega)).trans ((yup_na (by omega)).trans (hFq1680 265 z rfl)))))⟩
                  · refine y_iconst 138 c68_137 rfl ?_
                    refine y_goto 142 c68_138 rfl ?_
                    have tb1763 := hTq1745.atp 2 2 0 320 rfl
                    have es1764 : mq1745 256 13 = m 256 13 := ((hFq1745 256 13 ((wSv256_lt (by decide)).trans rfl)).trans ((hFq1692 256 13 ((wSv256_lt (by decide)).trans rfl)).trans ((yup_na (by omega)).trans ((yup_na (by omega)).trans (hFq1680 256 13 rfl)))))
                    have tb1765 := hT.atp 256 13 0 8 rfl
                    have es1766 : mq1745 256 12 = m 256 12 := ((hFq1745 256 12 ((wSv256_lt (by decide)).trans rfl)).trans ((hFq1692 256 12 ((wSv256_lt (by decide)).trans rfl)).trans ((yup_na (by omega)).trans ((yup_na (by omega)).trans (hFq1680 256 12 rfl)))))
                    have tb1767 := hT.atp 256 12 0 12 rfl
                    have tb1768 := hTq1745.atp (276 + k.toNat) 0 0 9 (ft276_0 (by omega))
                    have tb1769 := hTq1745.atp (276 + k.toNat) 2 ((-1)) 47 (ft276_2 (by omega))
                    have tb1770 := hTq1745.atp (276 + k.toNat) 3 ((-1)) 47 (ft276_3 (by omega))
                    have tb1771 := hTq1745.atp (276 + k.toNat) 6 ((-1)) 11 (ft276_6 (by omega))
                    have tb1772 := hTq1745.atp (276 + k.toNat) 8 0 2 (ft276_8 (by omega))
                    have tb1773 := hTq1745.atp (276 + k.toNat) 9 ((-1)) 47 (ft276_9 (by omega))
                    have tb1774 := hTq1745.atp (276 + k.toNat) 10 ((-1)) 47 (ft276_10 (by omega))
                    exact y_retI c68_142 (y_fit1 (by omega)) ⟨rfl, hTq1745, hF1749, by omega, fun z hz => ((hFq1745 265 z ((wSv256_lt (by decide)).trans rfl)).trans ((hFq1692 265 z ((wSv256_lt (by decide)).trans rfl)).trans ((yup_na (by omega)).trans ((yup_na (by omega)).trans (hFq1680 265 z rfl)))))⟩
              · refine y_aload 119 c68_118 rfl rfl rfl ?_
                refine y_aload 120 c68_119 rfl rfl rfl ?_
                have es1776 : mq1692 2 1 = m 2 1 := ((hFq1692 2 1 ((wSv256_lt (by decide)).trans rfl)).trans ((yup_na (by omega)).trans ((yup_na (by omega)).trans (hFq1680 2 1 rfl))))
                have es1777 : mq1692 256 10 = m 256 10 := ((hFq1692 256 10 ((wSv256_lt (by decide)).trans rfl)).trans ((yup_na (by omega)).trans ((yup_na (by omega)).trans (hFq1680 256 10 rfl))))
                have es1778 : mq1692 256 12 = m 256 12 := ((hFq1692 256 12 ((wSv256_lt (by decide)).trans rfl)).trans ((yup_na (by omega)).trans ((yup_na (by omega)).trans (hFq1680 256 12 rfl))))
                have tb1779 := hT.atp 256 12 0 12 rfl
                have tb1780 := hTq1692.atp (276 + k.toNat) 2 ((-1)) 47 (ft276_2 (by omega))
                have tb1781 := hTq1692.atp (276 + k.toNat) 3 ((-1)) 47 (ft276_3 (by omega))
                have tb1782 := hTq1692.atp (276 + k.toNat) 8 0 2 (ft276_8 (by omega))
                refine y_callIB 123 [.ref 2, .ref (276 + k.toNat)] [] c68_120 rfl rfl rfl rfl rfl (ycanO km66 ko2) (t66_256 hTq1692 he (by have e1 : mq1692 5 e.toNat = m 5 e.toNat := ((hFq1692 5 e.toNat ((wSv256_lt (by decide)).trans rfl)).trans ((yup_na (by omega)).trans ((yup_na (by omega)).trans (hFq1680 5 e.toNat rfl)))); omega) (by omega) (by omega) (k := k) (by omega) (by omega) (by omega) (by omega)) (fun rq1775 mq1775 nq1775 hq1775 => ?_)
                obtain ⟨rfl, hTq1775, hFq1775, hq1775⟩ := hq1775
                have hF1783 := hF1705.tr hFq1775 wSc256_wSs256
                have tb1784 := hTq1775.atp 2 2 0 320 rfl
                have es1785 : mq1775 256 13 = m 256 13 := ((hFq1775 256 13 ((wSc256_lt (by decide)).trans rfl)).trans ((hFq1692 256 13 ((wSv256_lt (by decide)).trans rfl)).trans ((yup_na (by omega)).trans ((yup_na (by omega)).trans (hFq1680 256 13 rfl)))))
                have tb1786 := hT.atp 256 13 0 8 rfl
                have tb1787 := hTq1775.atp 256 12 0 12 rfl
                have tb1788 := hTq1775.atp (276 + k.toNat) 0 0 9 (ft276_0 (by omega))
                have tb1789 := hTq1775.atp (276 + k.toNat) 2 ((-1)) 47 (ft276_2 (by omega))
                have tb1790 := hTq1775.atp (276 + k.toNat) 3 ((-1)) 47 (ft276_3 (by omega))
                have tb1791 := hTq1775.atp (276 + k.toNat) 6 ((-1)) 11 (ft276_6 (by omega))
                have tb1792 := hTq1775.atp (276 + k.toNat) 8 0 2 (ft276_8 (by omega))
                have tb1793 := hTq1775.atp (276 + k.toNat) 9 ((-1)) 47 (ft276_9 (by omega))
                have tb1794 := hTq1775.atp (276 + k.toNat) 10 ((-1)) 47 (ft276_10 (by omega))
                exact y_retI c68_123 (y_fit1 (by omega)) ⟨rfl, hTq1775, hF1783, by omega, fun z hz => ((hFq1775 265 z ((wSc256_lt (by decide)).trans rfl)).trans ((hFq1692 265 z ((wSv256_lt (by decide)).trans rfl)).trans ((yup_na (by omega)).trans ((yup_na (by omega)).trans (hFq1680 265 z rfl)))))⟩
          · refine y_iconst 99 c68_98 rfl ?_
            have tb1795 := hTq1692.atp 2 2 0 320 rfl
            have es1796 : mq1692 256 13 = m 256 13 := ((hFq1692 256 13 ((wSv256_lt (by decide)).trans rfl)).trans ((yup_na (by omega)).trans ((yup_na (by omega)).trans (hFq1680 256 13 rfl))))
            have tb1797 := hT.atp 256 13 0 8 rfl
            have es1798 : mq1692 256 12 = m 256 12 := ((hFq1692 256 12 ((wSv256_lt (by decide)).trans rfl)).trans ((yup_na (by omega)).trans ((yup_na (by omega)).trans (hFq1680 256 12 rfl))))
            have tb1799 := hT.atp 256 12 0 12 rfl
            have tb1800 := hTq1692.atp (276 + k.toNat) 0 0 9 (ft276_0 (by omega))
            have tb1801 := hTq1692.atp (276 + k.toNat) 2 ((-1)) 47 (ft276_2 (by omega))
            have tb1802 := hTq1692.atp (276 + k.toNat) 3 ((-1)) 47 (ft276_3 (by omega))
            have tb1803 := hTq1692.atp (276 + k.toNat) 6 ((-1)) 11 (ft276_6 (by omega))
            have tb1804 := hTq1692.atp (276 + k.toNat) 8 0 2 (ft276_8 (by omega))
            have tb1805 := hTq1692.atp (276 + k.toNat) 9 ((-1)) 47 (ft276_9 (by omega))
            have tb1806 := hTq1692.atp (276 + k.toNat) 10 ((-1)) 47 (ft276_10 (by omega))
            exact y_retI c68_99 (y_fit1 (by omega)) ⟨rfl, hTq1692, hF1705, by omega, fun z hz => ((hFq1692 265 z ((wSv256_lt (by decide)).trans rfl)).trans ((yup_na (by omega)).trans ((yup_na (by omega)).trans (hFq1680 265 z rfl))))⟩
        · exfalso; omega
      · exfalso; omega
    · refine y_iconst 26 c68_25 rfl ?_
      have tb1807 := hTq1680.atp 2 2 0 320 rfl
      have es1808 : mq1680 256 13 = m 256 13 := (hFq1680 256 13 rfl)
      have tb1809 := hT.atp 256 13 0 8 rfl
      have es1810 : mq1680 256 12 = m 256 12 := (hFq1680 256 12 rfl)
      have tb1811 := hT.atp 256 12 0 12 rfl
      have es1812 : mq1680 (276 + k.toNat) 0 = m (276 + k.toNat) 0 := (hFq1680 (276 + k.toNat) 0 wVr256_n276)
      have tb1813 := hT.atp (276 + k.toNat) 0 0 9 (ft276_0 (by omega))
      have es1814 : mq1680 (276 + k.toNat) 2 = m (276 + k.toNat) 2 := (hFq1680 (276 + k.toNat) 2 wVr256_n276)
      have tb1815 := hT.atp (276 + k.toNat) 2 ((-1)) 47 (ft276_2 (by omega))
      have es1816 : mq1680 (276 + k.toNat) 3 = m (276 + k.toNat) 3 := (hFq1680 (276 + k.toNat) 3 wVr256_n276)
      have tb1817 := hT.atp (276 + k.toNat) 3 ((-1)) 47 (ft276_3 (by omega))
      have es1818 : mq1680 (276 + k.toNat) 6 = m (276 + k.toNat) 6 := (hFq1680 (276 + k.toNat) 6 wVr256_n276)
      have tb1819 := hT.atp (276 + k.toNat) 6 ((-1)) 11 (ft276_6 (by omega))
      have es1820 : mq1680 (276 + k.toNat) 8 = m (276 + k.toNat) 8 := (hFq1680 (276 + k.toNat) 8 wVr256_n276)
      have tb1821 := hT.atp (276 + k.toNat) 8 0 2 (ft276_8 (by omega))
      have es1822 : mq1680 (276 + k.toNat) 9 = m (276 + k.toNat) 9 := (hFq1680 (276 + k.toNat) 9 wVr256_n276)
      have tb1823 := hT.atp (276 + k.toNat) 9 ((-1)) 47 (ft276_9 (by omega))
      have es1824 : mq1680 (276 + k.toNat) 10 = m (276 + k.toNat) 10 := (hFq1680 (276 + k.toNat) 10 wVr256_n276)
      have tb1825 := hT.atp (276 + k.toNat) 10 ((-1)) 47 (ft276_10 (by omega))
      exact y_retI c68_26 (y_fit1 (by omega)) ⟨rfl, hTq1680, hF1684, by omega, fun z hz => (hFq1680 265 z rfl)⟩
  · refine y_iconst 10 c68_9 rfl ?_
    refine y_goto 14 c68_10 rfl ?_
    refine y_istore 15 c68_14 rfl rfl ?_
    refine y_aload 16 c68_15 rfl rfl rfl ?_
    have tb1827 := hT.atp 2 1 ((-1)) 1 rfl
    have tb1828 := hT.atp 256 10 0 10 rfl
    have tb1829 := hT.atp 256 15 0 48 rfl
    refine y_callIB 19 [.ref 2] [] c68_16 rfl rfl rfl rfl rfl (ycanO km58 ko2) (t58_256 hT he hE (by omega) (by omega) (by omega)) (fun rq1826 mq1826 nq1826 hq1826 => ?_)
    obtain ⟨rfl, hTq1826, hFq1826, hq1826⟩ := hq1826
    have hF1830 := hF.tr hFq1826 wVr256_wSs256
    refine y_istore 20 c68_19 rfl rfl ?_
    refine y_iload 21 c68_20 rfl rfl ?_
    refine y_iconst 22 c68_21 rfl ?_
    refine y_icmp 27 25 c68_22 rfl rfl (yc_ne (by omega) (by omega)) (fun hb1831 => ?_) (fun hb1831 => ?_)
    · refine y_iload 28 c68_27 rfl rfl ?_
      refine y_if 44 31 c68_28 rfl rfl (yz_eq (by omega)) (fun hb1832 => ?_) (fun hb1832 => ?_)
      · exfalso; omega
      · refine y_aload 32 c68_31 rfl rfl rfl ?_
        have tb1833 := hTq1826.atp 2 2 0 320 rfl
        refine y_callP 35 [.ref 2] [] c68_32 rfl rfl rfl rfl rfl (ycanO km38 ko2) (t38 hTq1826 he (by have e1 : mq1826 5 e.toNat = m 5 e.toNat := (hFq1826 5 e.toNat rfl); omega) (by omega)) (fun r1834 hr1834 => ?_)
        refine y_iconst 37 c68_35 rfl ?_
        refine y_icmp 44 40 c68_37 rfl rfl (yc_ne (by omega) (by omega)) (fun hb1835 => ?_) (fun hb1835 => ?_)
        · refine y_iconst 45 c68_44 rfl ?_
          refine y_istore 47 c68_45 rfl rfl ?_
          refine y_iload 49 c68_47 rfl rfl ?_
          refine y_if 77 52 c68_49 rfl rfl (yz_eq (by omega)) (fun hb1836 => ?_) (fun hb1836 => ?_)
          · refine y_aload 78 c68_77 rfl rfl rfl ?_
            refine y_iload 79 c68_78 rfl rfl ?_
            refine y_putI 82 c68_79 rfl (ff276_3 (by omega)) (y_fit0 _) ?_
            have hT1837 := hTq1826.up (276 + k.toNat) 3 rq1826 ((-1)) 47 (ft276_3 (by omega)) (by omega)
            have hF1838 := hF1830.up (276 + k.toNat) 3 rq1826 (wSs256_s (by omega))
            refine y_aload 83 c68_82 rfl rfl rfl ?_
            refine y_iconst 85 c68_83 rfl ?_
            refine y_putI 88 c68_85 rfl (ff276_0 (by omega)) (y_fit0 _) ?_
            have hT1839 := hT1837.up (276 + k.toNat) 0 9 0 9 (ft276_0 (by omega)) (by omega)
            have hF1840 := hF1838.up (276 + k.toNat) 0 9 (wSs256_s (by omega))
            refine y_aload 89 c68_88 rfl rfl rfl ?_
            refine y_iconst 91 c68_89 rfl ?_
            refine y_aload 92 c68_91 rfl rfl rfl ?_
            have es1842 : (yup (yup mq1826 (276 + k.toNat) 3 rq1826) (276 + k.toNat) 0 9) 2 2 = mq1826 2 2 := ((yup_na (by omega)).trans (yup_na (by omega)))
            have es1843 : (yup (yup mq1826 (276 + k.toNat) 3 rq1826) (276 + k.toNat) 0 9) 2 1 = m 2 1 := ((yup_na (by omega)).trans ((yup_na (by omega)).trans (hFq1826 2 1 rfl)))
            have es1844 : (yup (yup mq1826 (276 + k.toNat) 3 rq1826) (276 + k.toNat) 0 9) 256 10 = m 256 10 := ((yup_na (by omega)).trans ((yup_na (by omega)).trans (hFq1826 256 10 rfl)))
            have es1845 : (yup (yup mq1826 (276 + k.toNat) 3 rq1826) (276 + k.toNat) 0 9) (276 + k.toNat) 0 = 9 := (yup_eq _ _ _ _)
            have es1846 : (yup (yup mq1826 (276 + k.toNat) 3 rq1826) (276 + k.toNat) 0 9) (276 + k.toNat) 2 = m (276 + k.toNat) 2 := ((yup_nk (by decide)).trans ((yup_nk (by decide)).trans (hFq1826 (276 + k.toNat) 2 wVr256_n276)))
            have tb1847 := hT.atp (276 + k.toNat) 2 ((-1)) 47 (ft276_2 (by omega))
            have es1848 : (yup (yup mq1826 (276 + k.toNat) 3 rq1826) (276 + k.toNat) 0 9) (276 + k.toNat) 3 = rq1826 := ((yup_nk (by decide)).trans (yup_eq _ _ _ _))
            have es1849 : (yup (yup mq1826 (276 + k.toNat) 3 rq1826) (276 + k.toNat) 0 9) (276 + k.toNat) 6 = m (276 + k.toNat) 6 := ((yup_nk (by decide)).trans ((yup_nk (by decide)).trans (hFq1826 (276 + k.toNat) 6 wVr256_n276)))
            have tb1850 := hT.atp (276 + k.toNat) 6 ((-1)) 11 (ft276_6 (by omega))
            have es1851 : (yup (yup mq1826 (276 + k.toNat) 3 rq1826) (276 + k.toNat) 0 9) (276 + k.toNat) 8 = m (276 + k.toNat) 8 := ((yup_nk (by decide)).trans ((yup_nk (by decide)).trans (hFq1826 (276 + k.toNat) 8 wVr256_n276)))
            have tb1852 := hT.atp (276 + k.toNat) 8 0 2 (ft276_8 (by omega))
            refine y_callIB 95 [.ref 2, yI 46, .ref (276 + k.toNat)] [] c68_92 rfl rfl rfl rfl rfl (ycanO km62 ko2) (t62_256 hT1839 he (by have e1 : (yup (yup mq1826 (276 + k.toNat) 3 rq1826) (276 + k.toNat) 0 9) 5 e.toNat = m 5 e.toNat := ((yup_na (by omega)).trans ((yup_na (by omega)).trans (hFq1826 5 e.toNat rfl))); omega) (by omega) (by omega) (k := k) (by omega) (by omega) (by omega)) (fun rq1841 mq1841 nq1841 hq1841 => ?_)
            obtain ⟨rfl, hTq1841, hFq1841, hq1841⟩ := hq1841
            have hF1853 := hF1840.tr hFq1841 wSv256_wSs256
            refine y_if 100 98 c68_95 rfl rfl (yz_ne (by omega)) (fun hb1854 => ?_) (fun hb1854 => ?_)
            · refine y_aload 101 c68_100 rfl rfl rfl ?_
              refine y_getX 104 (mq1841 (276 + k.toNat) 0) c68_101 rfl (ff276_0 (by omega)) rfl ?_
              have tb1855 := hTq1841.atp (276 + k.toNat) 0 0 9 (ft276_0 (by omega))
              refine y_iconst 106 c68_104 rfl ?_
              refine y_icmp 124 109 c68_106 rfl rfl (yc_ne (by omega) (by omega)) (fun hb1856 => ?_) (fun hb1856 => ?_)
              · refine y_iload 126 c68_124 rfl rfl ?_
                refine y_if 137 129 c68_126 rfl rfl (yz_ne (by omega)) (fun hb1857 => ?_) (fun hb1857 => ?_)
                · exfalso; omega
                · refine y_aload 130 c68_129 rfl rfl rfl ?_
                  refine y_aload 131 c68_130 rfl rfl rfl ?_
                  have tb1859 := hTq1841.atp 2 2 0 320 rfl
                  have es1860 : mq1841 2 1 = m 2 1 := ((hFq1841 2 1 ((wSv256_lt (by decide)).trans rfl)).trans ((yup_na (by omega)).trans ((yup_na (by omega)).trans (hFq1826 2 1 rfl))))
                  have es1861 : mq1841 256 10 = m 256 10 := ((hFq1841 256 10 ((wSv256_lt (by decide)).trans rfl)).trans ((yup_na (by omega)).trans ((yup_na (by omega)).trans (hFq1826 256 10 rfl))))
                  have tb1862 := hTq1841.atp (276 + k.toNat) 3 ((-1)) 47 (ft276_3 (by omega))
                  refine y_callIB 134 [.ref 2, .ref (276 + k.toNat)] [] c68_131 rfl rfl rfl rfl rfl (ycanO km67 ko2) (t67_256 hTq1841 he (by have e1 : mq1841 5 e.toNat = m 5 e.toNat := ((hFq1841 5 e.toNat ((wSv256_lt (by decide)).trans rfl)).trans ((yup_na (by omega)).trans ((yup_na (by omega)).trans (hFq1826 5 e.toNat rfl)))); omega) (by omega) (by omega) (k := k) (by omega) (by omega) (by omega)) (fun rq1858 mq1858 nq1858 hq1858 => ?_)
                  obtain ⟨rfl, hTq1858, hFq1858, hq1858⟩ := hq1858
                  have hF1863 := hF1853.tr hFq1858 wSv256_wSs256
                  refine y_if 141 137 c68_134 rfl rfl (yz_eq (by omega)) (fun hb1864 => ?_) (fun hb1864 => ?_)
                  · refine y_iconst 142 c68_141 rfl ?_
                    have tb1865 := hTq1858.atp 2 2 0 320 rfl
                    have es1866 : mq1858 256 13 = m 256 13 := ((hFq1858 256 13 ((wSv256_lt (by decide)).trans rfl)).trans ((hFq1841 256 13 ((wSv256_lt (by decide)).trans rfl)).trans ((yup_na (by omega)).trans ((yup_na (by omega)).trans (hFq1826 256 13 rfl)))))
                    have tb1867 := hT.atp 256 13 0 8 rfl
                    have es1868 : mq1858 256 12 = m 256 12 := ((hFq1858 256 12 ((wSv256_lt (by decide)).trans rfl)).trans ((hFq1841 256 12 ((wSv256_lt (by decide)).trans rfl)).trans ((yup_na (by omega)).trans ((yup_na (by omega)).trans (hFq1826 256 12 rfl)))))
                    have tb1869 := hT.atp 256 12 0 12 rfl
                    have tb1870 := hTq1858.atp (276 + k.toNat) 0 0 9 (ft276_0 (by omega))
                    have tb1871 := hTq1858.atp (276 + k.toNat) 2 ((-1)) 47 (ft276_2 (by omega))
                    have tb1872 := hTq1858.atp (276 + k.toNat) 3 ((-1)) 47 (ft276_3 (by omega))
                    have tb1873 := hTq1858.atp (276 + k.toNat) 6 ((-1)) 11 (ft276_6 (by omega))
                    have tb1874 := hTq1858.atp (276 + k.toNat) 8 0 2 (ft276_8 (by omega))
                    have tb1875 := hTq1858.atp (276 + k.toNat) 9 ((-1)) 47 (ft276_9 (by omega))
                    have tb1876 := hTq1858.atp (276 + k.toNat) 10 ((-1)) 47 (ft276_10 (by omega))
                    exact y_retI c68_142 (y_fit1 (by omega)) ⟨rfl, hTq1858, hF1863, by omega, fun z hz => ((hFq1858 265 z ((wSv256_lt (by decide)).trans rfl)).trans ((hFq1841 265 z ((wSv256_lt (by decide)).trans rfl)).trans ((yup_na (by omega)).trans ((yup_na (by omega)).trans (hFq1826 265 z rfl)))))⟩
                  · refine y_iconst 138 c68_137 rfl ?_
                    refine y_goto 142 c68_138 rfl ?_
                    have tb1877 := hTq1858.atp 2 2 0 320 rfl
                    have es1878 : mq1858 256 13 = m 256 13 := ((hFq1858 256 13 ((wSv256_lt (by decide)).trans rfl)).trans ((hFq1841 256 13 ((wSv256_lt (by decide)).trans rfl)).trans ((yup_na (by omega)).trans ((yup_na (by omega)).trans (hFq1826 256 13 rfl)))))
                    have tb1879 := hT.atp 256 13 0 8 rfl
                    have es1880 : mq1858 256 12 = m 256 12 := ((hFq1858 256 12 ((wSv256_lt (by decide)).trans rfl)).trans ((hFq1841 256 12 ((wSv256_lt (by decide)).trans rfl)).trans ((yup_na (by omega)).trans ((yup_na (by omega)).trans (hFq1826 256 12 rfl)))))
                    have tb1881 := hT.atp 256 12 0 12 rfl
                    have tb1882 := hTq1858.atp (276 + k.toNat) 0 0 9 (ft276_0 (by omega))
                    have tb1883 := hTq1858.atp (276 + k.toNat) 2 ((-1)) 47 (ft276_2 (by omega))
                    have tb1884 := hTq1858.atp (276 + k.toNat) 3 ((-1)) 47 (ft276_3 (by omega))
                    have tb1885 := hTq1858.atp (276 + k.toNat) 6 ((-1)) 11 (ft276_6 (by omega))
                    have tb1886 := hTq1858.atp (276 + k.toNat) 8 0 2 (ft276_8 (by omega))
                    have tb1887 := hTq1858.atp (276 + k.toNat) 9 ((-1)) 47 (ft276_9 (by omega))
                    have tb1888 := hTq1858.atp (276 + k.toNat) 10 ((-1)) 47 (ft276_10 (by omega))
                    exact y_retI c68_142 (y_fit1 (by omega)) ⟨rfl, hTq1858, hF1863, by omega, fun z hz => ((hFq1858 265 z ((wSv256_lt (by decide)).trans rfl)).trans ((hFq1841 265 z ((wSv256_lt (by decide)).trans rfl)).trans ((yup_na (by omega)).trans ((yup_na (by omega)).trans (hFq1826 265 z rfl)))))⟩
              · refine y_aload 110 c68_109 rfl rfl rfl ?_
                have tb1889 := hTq1841.atp 2 2 0 320 rfl
                refine y_callP 113 [.ref 2] [] c68_110 rfl rfl rfl rfl rfl (ycanO km38 ko2) (t38 hTq1841 he (by have e1 : mq1841 5 e.toNat = m 5 e.toNat := ((hFq1841 5 e.toNat ((wSv256_lt (by decide)).trans rfl)).trans ((yup_na (by omega)).trans ((yup_na (by omega)).trans (hFq1826 5 e.toNat rfl)))); omega) (by omega)) (fun r1890 hr1890 => ?_)
                refine y_iconst 115 c68_113 rfl ?_
                refine y_icmp 124 118 c68_115 rfl rfl (yc_ne (by omega) (by omega)) (fun hb1891 => ?_) (fun hb1891 => ?_)
                · refine y_iload 126 c68_124 rfl rfl ?_
                  refine y_if 137 129 c68_126 rfl rfl (yz_ne (by omega)) (fun hb1892 => ?_) (fun hb1892 => ?_)
                  · exfalso; omega
                  · refine y_aload 130 c68_129 rfl rfl rfl ?_
                    refine y_aload 131 c68_130 rfl rfl rfl ?_
                    have es1894 : mq1841 2 1 = m 2 1 := ((hFq1841 2 1 ((wSv256_lt (by decide)).trans rfl)).trans ((yup_na (by omega)).trans ((yup_na (by omega)).trans (hFq1826 2 1 rfl))))
                    have es1895 : mq1841 256 10 = m 256 10 := ((hFq1841 256 10 ((wSv256_lt (by decide)).trans rfl)).trans ((yup_na (by omega)).trans ((yup_na (by omega)).trans (hFq1826 256 10 rfl))))
                    have tb1896 := hTq1841.atp (276 + k.toNat) 3 ((-1)) 47 (ft276_3 (by omega))
                    refine y_callIB 134 [.ref 2, .ref (276 + k.toNat)] [] c68_131 rfl rfl rfl rfl rfl (ycanO km67 ko2) (t67_256 hTq1841 he (by have e1 : mq1841 5 e.toNat = m 5 e.toNat := ((hFq1841 5 e.toNat ((wSv256_lt (by decide)).trans rfl)).trans ((yup_na (by omega)).trans ((yup_na (by omega)).trans (hFq1826 5 e.toNat rfl)))); omega) (by omega) (by omega) (k := k) (by omega) (by omega) (by omega)) (fun rq1893 mq1893 nq1893 hq1893 => ?_)
                    obtain ⟨rfl, hTq1893, hFq1893, hq1893⟩ := hq1893
                    have hF1897 := hF1853.tr hFq1893 wSv256_wSs256
                    refine y_if 141 137 c68_134 rfl rfl (yz_eq (by omega)) (fun hb1898 => ?_) (fun hb1898 => ?_)
                    · refine y_iconst 142 c68_141 rfl ?_
                      have tb1899 := hTq1893.atp 2 2 0 320 rfl
                      have es1900 : mq1893 256 13 = m 256 13 := ((hFq1893 256 13 ((wSv256_lt (by decide)).trans rfl)).trans ((hFq1841 256 13 ((wSv256_lt (by decide)).trans rfl)).trans ((yup_na (by omega)).trans ((yup_na (by omega)).trans (hFq1826 256 13 rfl)))))
                      have tb1901 := hT.atp 256 13 0 8 rfl
                      have es1902 : mq1893 256 12 = m 256 12 := ((hFq1893 256 12 ((wSv256_lt (by decide)).trans rfl)).trans ((hFq1841 256 12 ((wSv256_lt (by decide)).trans rfl)).trans ((yup_na (by omega)).trans ((yup_na (by omega)).trans (hFq1826 256 12 rfl)))))
                      have tb1903 := hT.atp 256 12 0 12 rfl
                      have tb1904 := hTq1893.atp (276 + k.toNat) 0 0 9 (ft276_0 (by omega))
                      have tb1905 := hTq1893.atp (276 + k.toNat) 2 ((-1)) 47 (ft276_2 (by omega))
                      have tb1906 := hTq1893.atp (276 + k.toNat) 3 ((-1)) 47 (ft276_3 (by omega))
                      have tb1907 := hTq1893.atp (276 + k.toNat) 6 ((-1)) 11 (ft276_6 (by omega))
                      have tb1908 := hTq1893.atp (276 + k.toNat) 8 0 2 (ft276_8 (by omega))
                      have tb1909 := hTq1893.atp (276 + k.toNat) 9 ((-1)) 47 (ft276_9 (by omega))
                      have tb1910 := hTq1893.atp (276 + k.toNat) 10 ((-1)) 47 (ft276_10 (by omega))
                      exact y_retI c68_142 (y_fit1 (by omega)) ⟨rfl, hTq1893, hF1897, by omega, fun z hz => ((hFq1893 265 z ((wSv256_lt (by decide)).trans rfl)).trans ((hFq1841 265 z ((wSv256_lt (by decide)).trans rfl)).trans ((yup_na (by omega)).trans ((yup_na (by omega)).trans (hFq1826 265 z rfl)))))⟩
                    · refine y_iconst 138 c68_137 rfl ?_
                      refine y_goto 142 c68_138 rfl ?_
                      have tb1911 := hTq1893.atp 2 2 0 320 rfl
                      have es1912 : mq1893 256 13 = m 256 13 := ((hFq1893 256 13 ((wSv256_lt (by decide)).trans rfl)).trans ((hFq1841 256 13 ((wSv256_lt (by decide)).trans rfl)).trans ((yup_na (by omega)).trans ((yup_na (by omega)).trans (hFq1826 256 13 rfl)))))
                      have tb1913 := hT.atp 256 13 0 8 rfl
                      have es1914 : mq1893 256 12 = m 256 12 := ((hFq1893 256 12 ((wSv256_lt (by decide)).trans rfl)).trans ((hFq1841 256 12 ((wSv256_lt (by decide)).trans rfl)).trans ((yup_na (by omega)).trans ((yup_na (by omega)).trans (hFq1826 256 12 rfl)))))
                      have tb1915 := hT.atp 256 12 0 12 rfl
                      have tb1916 := hTq1893.atp (276 + k.toNat) 0 0 9 (ft276_0 (by omega))
                      have tb1917 := hTq1893.atp (276 + k.toNat) 2 ((-1)) 47 (ft276_2 (by omega))
                      have tb1918 := hTq1893.atp (276 + k.toNat) 3 ((-1)) 47 (ft276_3 (by omega))
                      have tb1919 := hTq1893.atp (276 + k.toNat) 6 ((-1)) 11 (ft276_6 (by omega))
                      have tb1920 := hTq1893.atp (276 + k.toNat) 8 0 2 (ft276_8 (by omega))
                      have tb1921 := hTq1893.atp (276 + k.toNat) 9 ((-1)) 47 (ft276_9 (by omega))
                      have tb1922 := hTq1893.atp (276 + k.toNat) 10 ((-1)) 47 (ft276_10 (by omega))
                      exact y_retI c68_142 (y_fit1 (by omega)) ⟨rfl, hTq1893, hF1897, by omega, fun z hz => ((hFq1893 265 z ((wSv256_lt (by decide)).trans rfl)).trans ((hFq1841 265 z ((wSv256_lt (by decide)).trans rfl)).trans ((yup_na (by omega)).trans ((yup_na (by omega)).trans (hFq1826 265 z rfl)))))⟩
                · refine y_aload 119 c68_118 rfl rfl rfl ?_
                  refine y_aload 120 c68_119 rfl rfl rfl ?_
                  have es1924 : mq1841 2 1 = m 2 1 := ((hFq1841 2 1 ((wSv256_lt (by decide)).trans rfl)).trans ((yup_na (by omega)).trans ((yup_na (by omega)).trans (hFq1826 2 1 rfl))))
                  have es1925 : mq1841 256 10 = m 256 10 := ((hFq1841 256 10 ((wSv256_lt (by decide)).trans rfl)).trans ((yup_na (by omega)).trans ((yup_na (by omega)).trans (hFq1826 256 10 rfl))))
                  have es1926 : mq1841 256 12 = m 256 12 := ((hFq1841 256 12 ((wSv256_lt (by decide)).trans rfl)).trans ((yup_na (by omega)).trans ((yup_na (by omega)).trans (hFq1826 256 12 rfl))))
                  have tb1927 := hT.atp 256 12 0 12 rfl
                  have tb1928 := hTq1841.atp (276 + k.toNat) 2 ((-1)) 47 (ft276_2 (by omega))
                  have tb1929 := hTq1841.atp (276 + k.toNat) 3 ((-1)) 47 (ft276_3 (by omega))
                  have tb1930 := hTq1841.atp (276 + k.toNat) 8 0 2 (ft276_8 (by omega))
                  refine y_callIB 123 [.ref 2, .ref (276 + k.toNat)] [] c68_120 rfl rfl rfl rfl rfl (ycanO km66 ko2) (t66_256 hTq1841 he (by have e1 : mq1841 5 e.toNat = m 5 e.toNat := ((hFq1841 5 e.toNat ((wSv256_lt (by decide)).trans rfl)).trans ((yup_na (by omega)).trans ((yup_na (by omega)).trans (hFq1826 5 e.toNat rfl)))); omega) (by omega) (by omega) (k := k) (by omega) (by omega) (by omega) (by omega)) (fun rq1923 mq1923 nq1923 hq1923 => ?_)
                  obtain ⟨rfl, hTq1923, hFq1923, hq1923⟩ := hq1923
                  have hF1931 := hF1853.tr hFq1923 wSc256_wSs256
                  have tb1932 := hTq1923.atp 2 2 0 320 rfl
                  have es1933 : mq1923 256 13 = m 256 13 := ((hFq1923 256 13 ((wSc256_lt (by decide)).trans rfl)).trans ((hFq1841 256 13 ((wSv256_lt (by decide)).trans rfl)).trans ((yup_na (by omega)).trans ((yup_na (by omega)).trans (hFq1826 256 13 rfl)))))
                  have tb1934 := hT.atp 256 13 0 8 rfl
                  have tb1935 := hTq1923.atp 256 12 0 12 rfl
                  have tb1936 := hTq1923.atp (276 + k.toNat) 0 0 9 (ft276_0 (by omega))
                  have tb1937 := hTq1923.atp (276 + k.toNat) 2 ((-1)) 47 (ft276_2 (by omega))
                  have tb1938 := hTq1923.atp (276 + k.toNat) 3 ((-1)) 47 (ft276_3 (by omega))
                  have tb1939 := hTq1923.atp (276 + k.toNat) 6 ((-1)) 11 (ft276_6 (by omega))
                  have tb1940 := hTq1923.atp (276 + k.toNat) 8 0 2 (ft276_8 (by omega))
                  have tb1941 := hTq1923.atp (276 + k.toNat) 9 ((-1)) 47 (ft276_9 (by omega))
                  have tb1942 := hTq1923.atp (276 + k.toNat) 10 ((-1)) 47 (ft276_10 (by omega))
                  exact y_retI c68_123 (y_fit1 (by omega)) ⟨rfl, hTq1923, hF1931, by omega, fun z hz => ((hFq1923 265 z ((wSc256_lt (by decide)).trans rfl)).trans ((hFq1841 265 z ((wSv256_lt (by decide)).trans rfl)).trans ((yup_na (by omega)).trans ((yup_na (by omega)).trans (hFq1826 265 z rfl)))))⟩
            · refine y_iconst 99 c68_98 rfl ?_
              have tb1943 := hTq1841.atp 2 2 0 320 rfl
              have es1944 : mq1841 256 13 = m 256 13 := ((hFq1841 256 13 ((wSv256_lt (by decide)).trans rfl)).trans ((yup_na (by omega)).trans ((yup_na (by omega)).trans (hFq1826 256 13 rfl))))
              have tb1945 := hT.atp 256 13 0 8 rfl
              have es1946 : mq1841 256 12 = m 256 12 := ((hFq1841 256 12 ((wSv256_lt (by decide)).trans rfl)).trans ((yup_na (by omega)).trans ((yup_na (by omega)).trans (hFq1826 256 12 rfl))))
              have tb1947 := hT.atp 256 12 0 12 rfl
              have tb1948 := hTq1841.atp (276 + k.toNat) 0 0 9 (ft276_0 (by omega))
              have tb1949 := hTq1841.atp (276 + k.toNat) 2 ((-1)) 47 (ft276_2 (by omega))
              have tb1950 := hTq1841.atp (276 + k.toNat) 3 ((-1)) 47 (ft276_3 (by omega))
              have tb1951 := hTq1841.atp (276 + k.toNat) 6 ((-1)) 11 (ft276_6 (by omega))
              have tb1952 := hTq1841.atp (276 + k.toNat) 8 0 2 (ft276_8 (by omega))
              have tb1953 := hTq1841.atp (276 + k.toNat) 9 ((-1)) 47 (ft276_9 (by omega))
              have tb1954 := hTq1841.atp (276 + k.toNat) 10 ((-1)) 47 (ft276_10 (by omega))
              exact y_retI c68_99 (y_fit1 (by omega)) ⟨rfl, hTq1841, hF1853, by omega, fun z hz => ((hFq1841 265 z ((wSv256_lt (by decide)).trans rfl)).trans ((yup_na (by omega)).trans ((yup_na (by omega)).trans (hFq1826 265 z rfl))))⟩
          · exfalso; omega
        · refine y_iconst 41 c68_40 rfl ?_
          refine y_goto 45 c68_41 rfl ?_
          refine y_istore 47 c68_45 rfl rfl ?_
          refine y_iload 49 c68_47 rfl rfl ?_
          refine y_if 77 52 c68_49 rfl rfl (yz_eq (by omega)) (fun hb1955 => ?_) (fun hb1955 => ?_)
          · exfalso; omega
          · refine y_aload 53 c68_52 rfl rfl rfl ?_
            refine y_iload 54 c68_53 rfl rfl ?_
            refine y_putI 57 c68_54 rfl (ff276_2 (by omega)) (y_fit0 _) ?_
            have hT1956 := hTq1826.up (276 + k.toNat) 2 rq1826 ((-1)) 47 (ft276_2 (by omega)) (by omega)
            have hF1957 := hF1830.up (276 + k.toNat) 2 rq1826 (wSs256_s (by omega))
            refine y_aload 58 c68_57 rfl rfl rfl ?_
            refine y_dup 59 c68_58 rfl rfl ?_
            refine y_getX 62 (mq1826 2 2) c68_59 rfl kf2_2 (yup_na (by omega)) ?_
            refine y_iconst 63 c68_62 rfl ?_
            refine y_iadd 64 c68_63 rfl ?_
            refine y_putI 67 c68_64 rfl kf2_2 (y_fit0 _) ?_
            have hT1958 := hT1956.up 2 2 ((mq1826 2 2) + 1) 0 320 rfl (by omega)
            have hF1959 := hF1957.up 2 2 ((mq1826 2 2) + 1) rfl
            refine y_aload 68 c68_67 rfl rfl rfl ?_
            refine y_aload 69 c68_68 rfl rfl rfl ?_
            have es1961 : (yup (yup mq1826 (276 + k.toNat) 2 rq1826) 2 2 ((mq1826 2 2) + 1)) 2 2 = (mq1826 2 2) + 1 := rfl
            have es1962 : (yup (yup mq1826 (276 + k.toNat) 2 rq1826) 2 2 ((mq1826 2 2) + 1)) 2 1 = m 2 1 := ((yup_nk (by decide)).trans ((yup_na (by omega)).trans (hFq1826 2 1 rfl)))
            have es1963 : (yup (yup mq1826 (276 + k.toNat) 2 rq1826) 2 2 ((mq1826 2 2) + 1)) 256 10 = m 256 10 := ((yup_na (by decide)).trans ((yup_na (by omega)).trans (hFq1826 256 10 rfl)))
            have es1964 : (yup (yup mq1826 (276 + k.toNat) 2 rq1826) 2 2 ((mq1826 2 2) + 1)) 256 16 = m 256 16 := ((yup_na (by decide)).trans ((yup_na (by omega)).trans (hFq1826 256 16 rfl)))
            have tb1965 := hT.atp 256 16 0 40 rfl
            have es1966 : (yup (yup mq1826 (276 + k.toNat) 2 rq1826) 2 2 ((mq1826 2 2) + 1)) (276 + k.toNat) 2 = rq1826 := ((yup_na (by omega)).trans (yup_eq _ _ _ _))
            have es1967 : (yup (yup mq1826 (276 + k.toNat) 2 rq1826) 2 2 ((mq1826 2 2) + 1)) (276 + k.toNat) 8 = m (276 + k.toNat) 8 := ((yup_na (by omega)).trans ((yup_nk (by decide)).trans (hFq1826 (276 + k.toNat) 8 wVr256_n276)))
            have tb1968 := hT.atp (276 + k.toNat) 8 0 2 (ft276_8 (by omega))
            have e13q1960 : (yup (yup mq1826 (276 + k.toNat) 2 rq1826) 2 2 ((mq1826 2 2) + 1)) 256 13 = m 256 13 := ((yup_na (by decide)).trans ((yup_na (by omega)).trans (hFq1826 256 13 rfl)))
            refine y_callIB 72 [.ref 2, .ref (276 + k.toNat)] [] c68_69 rfl rfl rfl rfl rfl (ycanO km64 ko2) (t64_256 hT1958 he (by have e1 : (yup (yup mq1826 (276 + k.toNat) 2 rq1826) 2 2 ((mq1826 2 2) + 1)) 5 e.toNat = m 5 e.toNat := ((yup_na (by decide)).trans ((yup_na (by omega)).trans (hFq1826 5 e.toNat rfl))); omega) (by omega) (by omega) (k := k) (by omega) (by omega) (by omega)) (fun rq1960 mq1960 nq1960 hq1960 => ?_)
            obtain ⟨rfl, hTq1960, hFq1960, hq1960, hZq1960⟩ := hq1960
            rw [e13q1960] at hq1960 hZq1960
            have hF1969 := hF1959.tr hFq1960 wSr256_wSs256
            refine y_if 100 75 c68_72 rfl rfl (yz_ne (by omega)) (fun hb1970 => ?_) (fun hb1970 => ?_)
            · refine y_aload 101 c68_100 rfl rfl rfl ?_
              refine y_getX 104 (mq1960 (276 + k.toNat) 0) c68_101 rfl (ff276_0 (by omega)) rfl ?_
              have tb1971 := hTq1960.atp (276 + k.toNat) 0 0 9 (ft276_0 (by omega))
              refine y_iconst 106 c68_104 rfl ?_
              refine y_icmp 124 109 c68_106 rfl rfl (yc_ne (by omega) (by omega)) (fun hb1972 => ?_) (fun hb1972 => ?_)
              · refine y_iload 126 c68_124 rfl rfl ?_
                refine y_if 137 129 c68_126 rfl rfl (yz_ne (by omega)) (fun hb1973 => ?_) (fun hb1973 => ?_)
                · refine y_iconst 138 c68_137 rfl ?_
                  refine y_goto 142 c68_138 rfl ?_
                  have tb1974 := hTq1960.atp 2 2 0 320 rfl
                  have tb1975 := hTq1960.atp 256 13 0 8 rfl
                  have es1976 : mq1960 256 12 = m 256 12 := ((hFq1960 256 12 ((wSr256_lt (by decide)).trans rfl)).trans ((yup_na (by decide)).trans ((yup_na (by omega)).trans (hFq1826 256 12 rfl))))
                  have tb1977 := hT.atp 256 12 0 12 rfl
                  have tb1978 := hTq1960.atp (276 + k.toNat) 2 ((-1)) 47 (ft276_2 (by omega))
                  have tb1979 := hTq1960.atp (276 + k.toNat) 3 ((-1)) 47 (ft276_3 (by omega))
                  have tb1980 := hTq1960.atp (276 + k.toNat) 6 ((-1)) 11 (ft276_6 (by omega))
                  have tb1981 := hTq1960.atp (276 + k.toNat) 8 0 2 (ft276_8 (by omega))
                  have tb1982 := hTq1960.atp (276 + k.toNat) 9 ((-1)) 47 (ft276_9 (by omega))
                  have tb1983 := hTq1960.atp (276 + k.toNat) 10 ((-1)) 47 (ft276_10 (by omega))
                  exact y_retI c68_142 (y_fit1 (by omega)) ⟨rfl, hTq1960, hF1969, by omega, fun z hz => ((hZq1960 z hz).trans ((yup_na (by decide)).trans ((yup_na (by omega)).trans (hFq1826 265 z rfl))))⟩
                · exfalso; omega
              · refine y_aload 110 c68_109 rfl rfl rfl ?_
                have tb1984 := hTq1960.atp 2 2 0 320 rfl
                refine y_callP 113 [.ref 2] [] c68_110 rfl rfl rfl rfl rfl (ycanO km38 ko2) (t38 hTq1960 he (by have e1 : mq1960 5 e.toNat = m 5 e.toNat := ((hFq1960 5 e.toNat ((wSr256_lt (by decide)).trans rfl)).trans ((yup_na (by decide)).trans ((yup_na (by omega)).trans (hFq1826 5 e.toNat rfl)))); omega) (by omega)) (fun r1985 hr1985 => ?_)
                refine y_iconst 115 c68_113 rfl ?_
                refine y_icmp 124 118 c68_115 rfl rfl (yc_ne (by omega) (by omega)) (fun hb1986 => ?_) (fun hb1986 => ?_)
                · refine y_iload 126 c68_124 rfl rfl ?_
                  refine y_if 137 129 c68_126 rfl rfl (yz_ne (by omega)) (fun hb1987 => ?_) (fun hb1987 => ?_)
                  · refine y_iconst 138 c68_137 rfl ?_
                    refine y_goto 142 c68_138 rfl ?_
                    have tb1988 := hTq1960.atp 256 13 0 8 rfl
                    have es1989 : mq1960 256 12 = m 256 12 := ((hFq1960 256 12 ((wSr256_lt (by decide)).trans rfl)).trans ((yup_na (by decide)).trans ((yup_na (by omega)).trans (hFq1826 256 12 rfl))))
                    have tb1990 := hT.atp 256 12 0 12 rfl
                    have tb1991 := hTq1960.atp (276 + k.toNat) 2 ((-1)) 47 (ft276_2 (by omega))
                    have tb1992 := hTq1960.atp (276 + k.toNat) 3 ((-1)) 47 (ft276_3 (by omega))
                    have tb1993 := hTq1960.atp (276 + k.toNat) 6 ((-1)) 11 (ft276_6 (by omega))
                    have tb1994 := hTq1960.atp (276 + k.toNat) 8 0 2 (ft276_8 (by omega))
                    have tb1995 := hTq1960.atp (276 + k.toNat) 9 ((-1)) 47 (ft276_9 (by omega))
                    have tb1996 := hTq1960.atp (276 + k.toNat) 10 ((-1)) 47 (ft276_10 (by omega))
                    exact y_retI c68_142 (y_fit1 (by omega)) ⟨rfl, hTq1960, hF1969, by omega, fun z hz => ((hZq1960 z hz).trans ((yup_na (by decide)).trans ((yup_na (by omega)).trans (hFq1826 265 z rfl))))⟩
                  · exfalso; omega
                · refine y_aload 119 c68_118 rfl rfl rfl ?_
                  refine y_aload 120 c68_119 rfl rfl rfl ?_
                  have es1998 : mq1960 2 1 = m 2 1 := ((hFq1960 2 1 ((wSr256_lt (by decide)).trans rfl)).trans ((yup_nk (by decide)).trans ((yup_na (by omega)).trans (hFq1826 2 1 rfl))))
                  have es1999 : mq1960 256 10 = m 256 10 := ((hFq1960 256 10 ((wSr256_lt (by decide)).trans rfl)).trans ((yup_na (by decide)).trans ((yup_na (by omega)).trans (hFq1826 256 10 rfl))))
                  have es2000 : mq1960 256 12 = m 256 12 := ((hFq1960 256 12 ((wSr256_lt (by decide)).trans rfl)).trans ((yup_na (by decide)).trans ((yup_na (by omega)).trans (hFq1826 256 12 rfl))))
                  have tb2001 := hT.atp 256 12 0 12 rfl
                  have tb2002 := hTq1960.atp (276 + k.toNat) 2 ((-1)) 47 (ft276_2 (by omega))
                  have tb2003 := hTq1960.atp (276 + k.toNat) 3 ((-1)) 47 (ft276_3 (by omega))
                  have tb2004 := hTq1960.atp (276 + k.toNat) 8 0 2 (ft276_8 (by omega))
                  refine y_callIB 123 [.ref 2, .ref (276 + k.toNat)] [] c68_120 rfl rfl rfl rfl rfl (ycanO km66 ko2) (t66_256 hTq1960 he (by have e1 : mq1960 5 e.toNat = m 5 e.toNat := ((hFq1960 5 e.toNat ((wSr256_lt (by decide)).trans rfl)).trans ((yup_na (by decide)).trans ((yup_na (by omega)).trans (hFq1826 5 e.toNat rfl)))); omega) (by omega) (by omega) (k := k) (by omega) (by omega) (by omega) (by omega)) (fun rq1997 mq1997 nq1997 hq1997 => ?_)
                  obtain ⟨rfl, hTq1997, hFq1997, hq1997⟩ := hq1997
                  have hF2005 := hF1969.tr hFq1997 wSc256_wSs256
                  have tb2006 := hTq1997.atp 2 2 0 320 rfl
                  have es2007 : mq1997 256 13 = mq1960 256 13 := (hFq1997 256 13 ((wSc256_lt (by decide)).trans rfl))
                  have tb2008 := hTq1960.atp 256 13 0 8 rfl
                  have tb2009 := hTq1997.atp 256 12 0 12 rfl
                  have tb2010 := hTq1997.atp (276 + k.toNat) 0 0 9 (ft276_0 (by omega))
                  have tb2011 := hTq1997.atp (276 + k.toNat) 2 ((-1)) 47 (ft276_2 (by omega))
                  have tb2012 := hTq1997.atp (276 + k.toNat) 3 ((-1)) 47 (ft276_3 (by omega))
                  have tb2013 := hTq1997.atp (276 + k.toNat) 6 ((-1)) 11 (ft276_6 (by omega))
                  have tb2014 := hTq1997.atp (276 + k.toNat) 8 0 2 (ft276_8 (by omega))
                  have tb2015 := hTq1997.atp (276 + k.toNat) 9 ((-1)) 47 (ft276_9 (by omega))
                  have tb2016 := hTq1997.atp (276 + k.toNat) 10 ((-1)) 47 (ft276_10 (by omega))
                  have ek : mq1997 265 (m 256 13).toNat = mq1960 265 ((m 256 13).toNat) := (hFq1997 265 ((m 256 13).toNat) ((wSc256_lt (by decide)).trans rfl))
                  exact y_retI c68_123 (y_fit1 (by omega)) ⟨rfl, hTq1997, hF2005, by omega, fun z hz => ((hFq1997 265 z ((wSc256_lt (by decide)).trans rfl)).trans ((hZq1960 z hz).trans ((yup_na (by decide)).trans ((yup_na (by omega)).trans (hFq1826 265 z rfl)))))⟩
            · refine y_iconst 76 c68_75 rfl ?_
              have tb2017 := hTq1960.atp 2 2 0 320 rfl
              have tb2018 := hTq1960.atp 256 13 0 8 rfl
              have es2019 : mq1960 256 12 = m 256 12 := ((hFq1960 256 12 ((wSr256_lt (by decide)).trans rfl)).trans ((yup_na (by decide)).trans ((yup_na (by omega)).trans (hFq1826 256 12 rfl))))
              have tb2020 := hT.atp 256 12 0 12 rfl
              have tb2021 := hTq1960.atp (276 + k.toNat) 0 0 9 (ft276_0 (by omega))
              have tb2022 := hTq1960.atp (276 + k.toNat) 2 ((-1)) 47 (ft276_2 (by omega))
              have tb2023 := hTq1960.atp (276 + k.toNat) 3 ((-1)) 47 (ft276_3 (by omega))
              have tb2024 := hTq1960.atp (276 + k.toNat) 6 ((-1)) 11 (ft276_6 (by omega))
              have tb2025 := hTq1960.atp (276 + k.toNat) 8 0 2 (ft276_8 (by omega))
              have tb2026 := hTq1960.atp (276 + k.toNat) 9 ((-1)) 47 (ft276_9 (by omega))
              have tb2027 := hTq1960.atp (276 + k.toNat) 10 ((-1)) 47 (ft276_10 (by omega))
              exact y_retI c68_76 (y_fit1 (by omega)) ⟨rfl, hTq1960, hF1969, by omega, fun z hz => ((hZq1960 z hz).trans ((yup_na (by decide)).trans ((yup_na (by omega)).trans (hFq1826 265 z rfl))))⟩
    · refine y_iconst 26 c68_25 rfl ?_
      have tb2028 := hTq1826.atp 2 2 0 320 rfl
      have es2029 : mq1826 256 13 = m 256 13 := (hFq1826 256 13 rfl)
      have tb2030 := hT.atp 256 13 0 8 rfl
      have es2031 : mq1826 256 12 = m 256 12 := (hFq1826 256 12 rfl)
      have tb2032 := hT.atp 256 12 0 12 rfl
      have es2033 : mq1826 (276 + k.toNat) 0 = m (276 + k.toNat) 0 := (hFq1826 (276 + k.toNat) 0 wVr256_n276)
      have tb2034 := hT.atp (276 + k.toNat) 0 0 9 (ft276_0 (by omega))
      have es2035 : mq1826 (276 + k.toNat) 2 = m (276 + k.toNat) 2 := (hFq1826 (276 + k.toNat) 2 wVr256_n276)
      have tb2036 := hT.atp (276 + k.toNat) 2 ((-1)) 47 (ft276_2 (by omega))
      have es2037 : mq1826 (276 + k.toNat) 3 = m (276 + k.toNat) 3 := (hFq1826 (276 + k.toNat) 3 wVr256_n276)
      have tb2038 := hT.atp (276 + k.toNat) 3 ((-1)) 47 (ft276_3 (by omega))
      have es2039 : mq1826 (276 + k.toNat) 6 = m (276 + k.toNat) 6 := (hFq1826 (276 + k.toNat) 6 wVr256_n276)
      have tb2040 := hT.atp (276 + k.toNat) 6 ((-1)) 11 (ft276_6 (by omega))
      have es2041 : mq1826 (276 + k.toNat) 8 = m (276 + k.toNat) 8 := (hFq1826 (276 + k.toNat) 8 wVr256_n276)
      have tb2042 := hT.atp (276 + k.toNat) 8 0 2 (ft276_8 (by omega))
      have es2043 : mq1826 (276 + k.toNat) 9 = m (276 + k.toNat) 9 := (hFq1826 (276 + k.toNat) 9 wVr256_n276)
      have tb2044 := hT.atp (276 + k.toNat) 9 ((-1)) 47 (ft276_9 (by omega))
      have es2045 : mq1826 (276 + k.toNat) 10 = m (276 + k.toNat) 10 := (hFq1826 (276 + k.toNat) 10 wVr256_n276)
      have tb2046 := hT.atp (276 + k.toNat) 10 ((-1)) 47 (ft276_10 (by omega))
      exact y_retI c68_26 (y_fit1 (by omega)) ⟨rfl, hTq1826, hF1830, by omega, fun z hz => (hFq1826 265 z rfl)⟩
def wSr0316 (a q : Nat) : Bool := (a == 2 && (q == 2 || q == 4)) || (a == 316 && (q == 13 || q == 14 || q == 15)) || a == 321 || a == 325
def wSr316 (k a q : Nat) : Bool := ((a == 2 && (q == 2 || q == 4)) || (a == 316 && (q == 13 || q == 14 || q == 15)) || a == 321 || a == 325) || a == 336 + k
theorem wSr316_lt {k a q : Nat} (h : a < 336) : wSr316 k a q = wSr0316 a q := by
  have e : (a == 336 + k) = false := by simp; omega
  simp only [wSr316, wSr0316, e, Bool.or_false]
def wSs0316 (a q : Nat) : Bool := (a == 2 && (q == 2 || q == 4)) || (a == 316 && (q == 12 || q == 13 || q == 14 || q == 15)) || a == 321 || a == 325
def wSs316 (k a q : Nat) : Bool := ((a == 2 && (q == 2 || q == 4)) || (a == 316 && (q == 12 || q == 13 || q == 14 || q == 15)) || a == 321 || a == 325) || a == 336 + k
theorem wSs316_lt {k a q : Nat} (h : a < 336) : wSs316 k a q = wSs0316 a q := by
  have e : (a == 336 + k) = false := by simp; omega
  simp only [wSs316, wSs0316, e, Bool.or_false]
theorem wSr316_s {k j q : Nat} (h : j = k) : wSr316 k (336 + j) q = true := by
  simp [wSr316, h]
theorem wFa_wSr316 {k : Nat} : ∀ a q, wFa a q = true → wSr316 k a q = true := by
  intro a q h
  simp [wFa] at h
  simp [wSr316]
  omega
theorem wAt_wSr316 {k : Nat} : ∀ a q, wAt a q = true → wSr316 k a q = true := by
  intro a q h
  simp [wAt] at h
  simp [wSr316]
  omega
theorem wVr316_wSr316 {k : Nat} : ∀ a q, wVr316 a q = true → wSr316 k a q = true := by
  intro a q h
  simp [wVr316] at h
  simp [wSr316]
  omega
theorem wSv316_wSr316 {k : Nat} : ∀ a q, wSv316 k a q = true → wSr316 k a q = true := by
  intro a q h
  simp [wSv316] at h
  simp [wSr316]
  omega
theorem wSs316_s {k j q : Nat} (h : j = k) : wSs316 k (336 + j) q = true := by
  simp [wSs316, h]
theorem wFa_wSs316 {k : Nat} : ∀ a q, wFa a q = true → wSs316 k a q = true := by
  intro a q h
  simp [wFa] at h
  simp [wSs316]
  omega
theorem wAt_wSs316 {k : Nat} : ∀ a q, wAt a q = true → wSs316 k a q = true := by
  intro a q h
  simp [wAt] at h
  simp [wSs316]
  omega
theorem wVr316_wSs316 {k : Nat} : ∀ a q, wVr316 a q = true → wSs316 k a q = true := by
  intro a q h
  simp [wVr316] at h
  simp [wSs316]
  omega
theorem wSv316_wSs316 {k : Nat} : ∀ a q, wSv316 k a q = true → wSs316 k a q = true := by
  intro a q h
  simp [wSv316] at h
  simp [wSs316]
  omega
theorem wSc316_wSs316 {k : Nat} : ∀ a q, wSc316 k a q = true → wSs316 k a q = true := by
  intro a q h
  simp [wSc316] at h
  simp [wSs316]
  omega
theorem wSr316_wSs316 {k : Nat} : ∀ a q, wSr316 k a q = true → wSs316 k a q = true := by
  intro a q h
  simp [wSr316] at h
  simp [wSs316]
  omega
set_option maxRecDepth 100000 in
theorem t64_316 {L : Nat} {xs : Nat → Int32} {d nn : Nat} {m : yM} {e : Int} (hT : Ty gT m) (he : 0 ≤ e ∧ e ≤ 320) (hE : m 5 e.toNat = 0) (ha : m 2 2 ≤ e) (hp : m 2 1 = 1) {k : Int} (hk : 0 ≤ k ∧ k ≤ 39) (hm : 1 ≤ m 316 10) (h16 : m 316 16 = k + 1) : YC (gZ L xs) (d + 2) 64 [.ref 2, .ref (336 + k.toNat)] m nn (qI (fun r m' n' => n' = nn ∧ Ty gT m' ∧ Fr (wSr316 k.toNat) m m' ∧ ((r = 0 ∨ r = 1) ∧ m' 2 2 ≤ e ∧ m' (336 + k.toNat) 2 = m (336 + k.toNat) 2 ∧ m' (336 + k.toNat) 8 = m (336 + k.toNat) 8 ∧ (r = 1 → (m' (336 + k.toNat) 0 = 5 ∧ 0 ≤ m' (336 + k.toNat) 6) ∨ m' (336 + k.toNat) 0 = 6 ∨ (7 ≤ m' (336 + k.toNat) 0 ∧ m' (336 + k.toNat) 0 ≤ 9 ∧ 0 ≤ m' (336 + k.toNat) 3)) ∧ (m' 316 13 = m 316 13 ∨ (m' 316 13 = m 316 13 + 1 ∧ m' 325 (m 316 13).toNat = k ∧ (r = 1 → m' (336 + k.toNat) 0 = 7)))) ∧ (∀ z, z ≠ (m 316 13).toNat → m' 325 z = m 325 z))) := by
  have tb2 := hT.atp 2 2 0 320 rfl
  have tb13 := hT.atp 316 13 0 8 rfl
  refine YC.mkB [some (.ref 2), some (.ref (336 + k.toNat))] kn64 rfl rfl ?_
  have hF : Fr (wSr316 k.toNat) m m := Fr.rf
  refine y_aload 1 c64_0 rfl rfl rfl ?_
  have tb2047 := hT.atp 2 2 0 320 rfl
  refine y_callP 4 [.ref 2] [] c64_1 rfl rfl rfl rfl rfl (ycanO km38 ko2) (t38 hT he hE (by omega)) (fun r2048 hr2048 => ?_)
  by_cases hk2049 : r2048 = 4
  · refine y_top 4 hk2049 ?_
    refine y_lsw 40 c64_4 (by decide) rfl rfl ?_
    refine y_aload 41 c64_40 rfl rfl rfl ?_
    refine y_getS 44 (B := 316) c64_41 rfl kf2_1 (by rw [show m 2 1 = 1 from by have e : m 2 1 = m 2 1 := rfl; omega]; rfl) ?_
    refine y_aload 45 c64_44 rfl rfl rfl ?_
    have tb2051 := hT.atp 316 14 0 12 rfl
    refine y_callIB 48 [.ref 316, .ref (336 + k.toNat)] [] c64_45 rfl rfl rfl rfl rfl (ycanO km61 ko316) (t61_316 hT (by omega)) (fun rq2050 mq2050 nq2050 hq2050 => ?_)
    obtain ⟨rfl, hq2050⟩ := hq2050
    rcases hq2050 with ⟨rfl, rfl, hq2050⟩ | ⟨rfl, rfl, hq2050⟩
    · refine y_if 60 51 c64_48 rfl rfl (yz_eq (by omega)) (fun hb2052 => ?_) (fun hb2052 => ?_)
      · refine y_aload 61 c64_60 rfl rfl rfl ?_
        refine y_callIB 64 [.ref 2] [] c64_61 rfl rfl rfl rfl rfl (ycanO km43 ko2) (t43 hT) (fun rq2053 mq2053 nq2053 hq2053 => ?_)
        obtain ⟨rfl, hTq2053, hFq2053, hq2053⟩ := hq2053
        have hF2054 := hF.tr hFq2053 wFa_wSr316
        have es2055 : mq2053 2 2 = m 2 2 := (hFq2053 2 2 rfl)
        have es2056 : mq2053 316 13 = m 316 13 := (hFq2053 316 13 rfl)
        have tb2057 := hT.atp 316 13 0 8 rfl
        have es2058 : mq2053 (336 + k.toNat) 0 = m (336 + k.toNat) 0 := (hFq2053 (336 + k.toNat) 0 wFa_n336)
        have tb2059 := hT.atp (336 + k.toNat) 0 0 9 (ft336_0 (by omega))
        have es2060 : mq2053 (336 + k.toNat) 2 = m (336 + k.toNat) 2 := (hFq2053 (336 + k.toNat) 2 wFa_n336)
        have tb2061 := hT.atp (336 + k.toNat) 2 ((-1)) 47 (ft336_2 (by omega))
        have es2062 : mq2053 (336 + k.toNat) 3 = m (336 + k.toNat) 3 := (hFq2053 (336 + k.toNat) 3 wFa_n336)
        have tb2063 := hT.atp (336 + k.toNat) 3 ((-1)) 47 (ft336_3 (by omega))
        have es2064 : mq2053 (336 + k.toNat) 6 = m (336 + k.toNat) 6 := (hFq2053 (336 + k.toNat) 6 wFa_n336)
        have tb2065 := hT.atp (336 + k.toNat) 6 ((-1)) 11 (ft336_6 (by omega))
        have es2066 : mq2053 (336 + k.toNat) 8 = m (336 + k.toNat) 8 := (hFq2053 (336 + k.toNat) 8 wFa_n336)
        have tb2067 := hT.atp (336 + k.toNat) 8 0 2 (ft336_8 (by omega))
        exact y_retI c64_64 (y_fit1 (by omega)) ⟨rfl, hTq2053, hF2054, by omega, fun z hz => (hFq2053 325 z rfl)⟩
      · exfalso; omega
    · have hT2068 := hT.up (336 + k.toNat) 0 5 0 9 (ft336_0 (by omega)) (by omega)
      have hF2069 := hF.up (336 + k.toNat) 0 5 (wSr316_s (by omega))
      have hT2070 := hT2068.up (336 + k.toNat) 6 (m 316 14) ((-1)) 11 (ft336_6 (by omega)) (by omega)
      have hF2071 := hF2069.up (336 + k.toNat) 6 (m 316 14) (wSr316_s (by omega))
      have hT2072 := hT2070.up 316 14 ((m 316 14) + 1) 0 12 rfl (by omega)
      have hF2073 := hF2071.up 316 14 ((m 316 14) + 1) rfl
      refine y_if 60 51 c64_48 rfl rfl (yz_eq (by omega)) (fun hb2074 => ?_) (fun hb2074 => ?_)
      · exfalso; omega
      · refine y_aload 52 c64_51 rfl rfl rfl ?_
        refine y_iconst 53 c64_52 rfl ?_
        refine y_aload 54 c64_53 rfl rfl rfl ?_
        have es2076 : (yup (yup (yup m (336 + k.toNat) 0 5) (336 + k.toNat) 6 (m 316 14)) 316 14 ((m 316 14) + 1)) 2 2 = m 2 2 := ((yup_na (by decide)).trans ((yup_na (by omega)).trans (yup_na (by omega))))
        have es2077 : (yup (yup (yup m (336 + k.toNat) 0 5) (336 + k.toNat) 6 (m 316 14)) 316 14 ((m 316 14) + 1)) 2 1 = m 2 1 := ((yup_na (by decide)).trans ((yup_na (by omega)).trans (yup_na (by omega))))
        have tb2078 := hT.atp 2 1 ((-1)) 1 rfl
        have es2079 : (yup (yup (yup m (336 + k.toNat) 0 5) (336 + k.toNat) 6 (m 316 14)) 316 14 ((m 316 14) + 1)) 316 10 = m 316 10 := ((yup_nk (by decide)).trans ((yup_na (by omega)).trans (yup_na (by omega))))
        have tb2080 := hT.atp 316 10 0 10 rfl
        have es2081 : (yup (yup (yup m (336 + k.toNat) 0 5) (336 + k.toNat) 6 (m 316 14)) 316 14 ((m 316 14) + 1)) (336 + k.toNat) 0 = 5 := ((yup_na (by omega)).trans ((yup_nk (by decide)).trans (yup_eq _ _ _ _)))
        have es2082 : (yup (yup (yup m (336 + k.toNat) 0 5) (336 + k.toNat) 6 (m 316 14)) 316 14 ((m 316 14) + 1)) (336 + k.toNat) 2 = m (336 + k.toNat) 2 := ((yup_na (by omega)).trans ((yup_nk (by decide)).trans (yup_nk (by decide))))
        have tb2083 := hT.atp (336 + k.toNat) 2 ((-1)) 47 (ft336_2 (by omega))
        have es2084 : (yup (yup (yup m (336 + k.toNat) 0 5) (336 + k.toNat) 6 (m 316 14)) 316 14 ((m 316 14) + 1)) (336 + k.toNat) 3 = m (336 + k.toNat) 3 := ((yup_na (by omega)).trans ((yup_nk (by decide)).trans (yup_nk (by decide))))
        have tb2085 := hT.atp (336 + k.toNat) 3 ((-1)) 47 (ft336_3 (by omega))
        have es2086 : (yup (yup (yup m (336 + k.toNat) 0 5) (336 + k.toNat) 6 (m 316 14)) 316 14 ((m 316 14) + 1)) (336 + k.toNat) 6 = m 316 14 := ((yup_na (by omega)).trans (yup_eq _ _ _ _))
        have es2087 : (yup (yup (yup m (336 + k.toNat) 0 5) (336 + k.toNat) 6 (m 316 14)) 316 14 ((m 316 14) + 1)) (336 + k.toNat) 8 = m (336 + k.toNat) 8 := ((yup_na (by omega)).trans ((yup_nk (by decide)).trans (yup_nk (by decide))))
        have tb2088 := hT.atp (336 + k.toNat) 8 0 2 (ft336_8 (by omega))
        refine y_callIB 57 [.ref 2, yI 4, .ref (336 + k.toNat)] [] c64_54 rfl rfl rfl rfl rfl (ycanO km62 ko2) (t62_316 hT2072 he (by have e1 : (yup (yup (yup m (336 + k.toNat) 0 5) (336 + k.toNat) 6 (m 316 14)) 316 14 ((m 316 14) + 1)) 5 e.toNat = m 5 e.toNat := ((yup_na (by decide)).trans ((yup_na (by omega)).trans (yup_na (by omega)))); omega) (by omega) (by omega) (k := k) (by omega) (by omega) (by omega)) (fun rq2075 mq2075 nq2075 hq2075 => ?_)
        obtain ⟨rfl, hTq2075, hFq2075, hq2075⟩ := hq2075
        have hF2089 := hF2073.tr hFq2075 wSv316_wSr316
        refine y_goto 64 c64_57 rfl ?_
        have tb2090 := hTq2075.atp 2 2 0 320 rfl
        have es2091 : mq2075 316 13 = m 316 13 := ((hFq2075 316 13 ((wSv316_lt (by decide)).trans rfl)).trans ((yup_nk (by decide)).trans ((yup_na (by omega)).trans (yup_na (by omega)))))
        have tb2092 := hT.atp 316 13 0 8 rfl
        have tb2093 := hTq2075.atp (336 + k.toNat) 0 0 9 (ft336_0 (by omega))
        have tb2094 := hTq2075.atp (336 + k.toNat) 2 ((-1)) 47 (ft336_2 (by omega))
        have tb2095 := hTq2075.atp (336 + k.toNat) 3 ((-1)) 47 (ft336_3 (by omega))
        have tb2096 := hTq2075.atp (336 + k.toNat) 6 ((-1)) 11 (ft336_6 (by omega))
        have tb2097 := hTq2075.atp (336 + k.toNat) 8 0 2 (ft336_8 (by omega))
        exact y_retI c64_64 (y_fit1 (by omega)) ⟨rfl, hTq2075, hF2089, by omega, fun z hz => ((hFq2075 325 z ((wSv316_lt (by decide)).trans rfl)).trans ((yup_na (by decide)).trans ((yup_na (by omega)).trans (yup_na (by omega)))))⟩
  by_cases hk2098 : r2048 = 5
  · refine y_top 5 hk2098 ?_
    refine y_lsw 65 c64_4 (by decide) rfl rfl ?_
    refine y_aload 66 c64_65 rfl rfl rfl ?_
    refine y_iconst 68 c64_66 rfl ?_
    refine y_putI 71 c64_68 rfl (ff336_0 (by omega)) (y_fit0 _) ?_
    have hT2099 := hT.up (336 + k.toNat) 0 6 0 9 (ft336_0 (by omega)) (by omega)
    have hF2100 := hF.up (336 + k.toNat) 0 6 (wSr316_s (by omega))
    refine y_aload 72 c64_71 rfl rfl rfl ?_
    refine y_iconst 73 c64_72 rfl ?_
    have es2102 : (yup m (336 + k.toNat) 0 6) 2 2 = m 2 2 := (yup_na (by omega))
    refine y_callIB 76 [.ref 2, yI 5] [] c64_73 rfl rfl rfl rfl rfl (ycanO km37 ko2) (t37 hT2099 he (by have e1 : (yup m (336 + k.toNat) 0 6) 5 e.toNat = m 5 e.toNat := (yup_na (by omega)); omega) (by omega) (by omega)) (fun rq2101 mq2101 nq2101 hq2101 => ?_)
    obtain ⟨rfl, hTq2101, hFq2101, hq2101⟩ := hq2101
    have hF2103 := hF2100.tr hFq2101 wAt_wSr316
    have tb2104 := hTq2101.atp 2 2 0 320 rfl
    have es2105 : mq2101 316 13 = m 316 13 := ((hFq2101 316 13 rfl).trans (yup_na (by omega)))
    have tb2106 := hT.atp 316 13 0 8 rfl
    have es2107 : mq2101 (336 + k.toNat) 0 = 6 := ((hFq2101 (336 + k.toNat) 0 wAt_n336).trans (yup_eq _ _ _ _))
    have es2108 : mq2101 (336 + k.toNat) 2 = m (336 + k.toNat) 2 := ((hFq2101 (336 + k.toNat) 2 wAt_n336).trans (yup_nk (by decide)))
    have tb2109 := hT.atp (336 + k.toNat) 2 ((-1)) 47 (ft336_2 (by omega))
    have es2110 : mq2101 (336 + k.toNat) 3 = m (336 + k.toNat) 3 := ((hFq2101 (336 + k.toNat) 3 wAt_n336).trans (yup_nk (by decide)))
    have tb2111 := hT.atp (336 + k.toNat) 3 ((-1)) 47 (ft336_3 (by omega))
    have es2112 : mq2101 (336 + k.toNat) 6 = m (336 + k.toNat) 6 := ((hFq2101 (336 + k.toNat) 6 wAt_n336).trans (yup_nk (by decide)))
    have tb2113 := hT.atp (336 + k.toNat) 6 ((-1)) 11 (ft336_6 (by omega))
    have es2114 : mq2101 (336 + k.toNat) 8 = m (336 + k.toNat) 8 := ((hFq2101 (336 + k.toNat) 8 wAt_n336).trans (yup_nk (by decide)))
    have tb2115 := hT.atp (336 + k.toNat) 8 0 2 (ft336_8 (by omega))
    exact y_retI c64_76 (y_fit1 (by omega)) ⟨rfl, hTq2101, hF2103, by omega, fun z hz => ((hFq2101 325 z rfl).trans (yup_na (by omega)))⟩
  by_cases hk2116 : r2048 = 40
  · refine y_top 40 hk2116 ?_
    refine y_lsw 77 c64_4 (by decide) rfl rfl ?_
    refine y_aload 78 c64_77 rfl rfl rfl ?_
    refine y_getS 81 (B := 316) c64_78 rfl kf2_1 (by rw [show m 2 1 = 1 from by have e : m 2 1 = m 2 1 := rfl; omega]; rfl) ?_
    refine y_aload 82 c64_81 rfl rfl rfl ?_
    have tb2118 := hT.atp 316 13 0 8 rfl
    have tb2119 := hT.atp 316 16 0 40 rfl
    refine y_callIB 85 [.ref 316, .ref (336 + k.toNat)] [] c64_82 rfl rfl rfl rfl rfl (ycanO km63 ko316) (t63_316 hT (by omega) (by omega)) (fun rq2117 mq2117 nq2117 hq2117 => ?_)
    obtain ⟨rfl, hq2117⟩ := hq2117
    rcases hq2117 with ⟨rfl, rfl, hq2117⟩ | ⟨rfl, rfl, hq2117⟩
    · refine y_if 93 88 c64_85 rfl rfl (yz_ne (by omega)) (fun hb2120 => ?_) (fun hb2120 => ?_)
      · exfalso; omega
      · refine y_aload 89 c64_88 rfl rfl rfl ?_
        refine y_callIB 92 [.ref 2] [] c64_89 rfl rfl rfl rfl rfl (ycanO km43 ko2) (t43 hT) (fun rq2121 mq2121 nq2121 hq2121 => ?_)
        obtain ⟨rfl, hTq2121, hFq2121, hq2121⟩ := hq2121
        have hF2122 := hF.tr hFq2121 wFa_wSr316
        have es2123 : mq2121 2 2 = m 2 2 := (hFq2121 2 2 rfl)
        have es2124 : mq2121 316 13 = m 316 13 := (hFq2121 316 13 rfl)
        have es2125 : mq2121 (336 + k.toNat) 0 = m (336 + k.toNat) 0 := (hFq2121 (336 + k.toNat) 0 wFa_n336)
        have tb2126 := hT.atp (336 + k.toNat) 0 0 9 (ft336_0 (by omega))
        have es2127 : mq2121 (336 + k.toNat) 2 = m (336 + k.toNat) 2 := (hFq2121 (336 + k.toNat) 2 wFa_n336)
        have tb2128 := hT.atp (336 + k.toNat) 2 ((-1)) 47 (ft336_2 (by omega))
        have es2129 : mq2121 (336 + k.toNat) 3 = m (336 + k.toNat) 3 := (hFq2121 (336 + k.toNat) 3 wFa_n336)
        have tb2130 := hT.atp (336 + k.toNat) 3 ((-1)) 47 (ft336_3 (by omega))
        have es2131 : mq2121 (336 + k.toNat) 6 = m (336 + k.toNat) 6 := (hFq2121 (336 + k.toNat) 6 wFa_n336)
        have tb2132 := hT.atp (336 + k.toNat) 6 ((-1)) 11 (ft336_6 (by omega))
        have es2133 : mq2121 (336 + k.toNat) 8 = m (336 + k.toNat) 8 := (hFq2121 (336 + k.toNat) 8 wFa_n336)
        have tb2134 := hT.atp (336 + k.toNat) 8 0 2 (ft336_8 (by omega))
        exact y_retI c64_92 (y_fit1 (by omega)) ⟨rfl, hTq2121, hF2122, by omega, fun z hz => (hFq2121 325 z rfl)⟩
    · have hT2135 := hT.up (336 + k.toNat) 0 7 0 9 (ft336_0 (by omega)) (by omega)
      have hF2136 := hF.up (336 + k.toNat) 0 7 (wSr316_s (by omega))
      have hT2137 := hT2135.up 325 ((m 316 13).toNat) ((m 316 16) - 1) 0 39 rfl (by omega)
      have hF2138 := hF2136.up 325 ((m 316 13).toNat) ((m 316 16) - 1) rfl
      have hT2139 := hT2137.up 316 13 ((m 316 13) + 1) 0 8 rfl (by omega)
      have hF2140 := hF2138.up 316 13 ((m 316 13) + 1) rfl
      refine y_if 93 88 c64_85 rfl rfl (yz_ne (by omega)) (fun hb2141 => ?_) (fun hb2141 => ?_)
      · refine y_aload 94 c64_93 rfl rfl rfl ?_
        refine y_iconst 96 c64_94 rfl ?_
        refine y_aload 97 c64_96 rfl rfl rfl ?_
        have es2143 : (yup (yup (yup m (336 + k.toNat) 0 7) 325 ((m 316 13).toNat) ((m 316 16) - 1)) 316 13 ((m 316 13) + 1)) 2 2 = m 2 2 := ((yup_na (by decide)).trans ((yup_na (by decide)).trans (yup_na (by omega))))
        have es2144 : (yup (yup (yup m (336 + k.toNat) 0 7) 325 ((m 316 13).toNat) ((m 316 16) - 1)) 316 13 ((m 316 13) + 1)) 2 1 = m 2 1 := ((yup_na (by decide)).trans ((yup_na (by decide)).trans (yup_na (by omega))))
        have tb2145 := hT.atp 2 1 ((-1)) 1 rfl
        have es2146 : (yup (yup (yup m (336 + k.toNat) 0 7) 325 ((m 316 13).toNat) ((m 316 16) - 1)) 316 13 ((m 316 13) + 1)) 316 10 = m 316 10 := ((yup_nk (by decide)).trans ((yup_na (by decide)).trans (yup_na (by omega))))
        have tb2147 := hT.atp 316 10 0 10 rfl
        have es2148 : (yup (yup (yup m (336 + k.toNat) 0 7) 325 ((m 316 13).toNat) ((m 316 16) - 1)) 316 13 ((m 316 13) + 1)) (336 + k.toNat) 0 = 7 := ((yup_na (by omega)).trans ((yup_na (by omega)).trans (yup_eq _ _ _ _)))
        have es2149 : (yup (yup (yup m (336 + k.toNat) 0 7) 325 ((m 316 13).toNat) ((m 316 16) - 1)) 316 13 ((m 316 13) + 1)) (336 + k.toNat) 2 = m (336 + k.toNat) 2 := ((yup_na (by omega)).trans ((yup_na (by omega)).trans (yup_nk (by decide))))
        have tb2150 := hT.atp (336 + k.toNat) 2 ((-1)) 47 (ft336_2 (by omega))
        have es2151 : (yup (yup (yup m (336 + k.toNat) 0 7) 325 ((m 316 13).toNat) ((m 316 16) - 1)) 316 13 ((m 316 13) + 1)) (336 + k.toNat) 3 = m (336 + k.toNat) 3 := ((yup_na (by omega)).trans ((yup_na (by omega)).trans (yup_nk (by decide))))
        have tb2152 := hT.atp (336 + k.toNat) 3 ((-1)) 47 (ft336_3 (by omega))
        have es2153 : (yup (yup (yup m (336 + k.toNat) 0 7) 325 ((m 316 13).toNat) ((m 316 16) - 1)) 316 13 ((m 316 13) + 1)) (336 + k.toNat) 6 = m (336 + k.toNat) 6 := ((yup_na (by omega)).trans ((yup_na (by omega)).trans (yup_nk (by decide))))
        have tb2154 := hT.atp (336 + k.toNat) 6 ((-1)) 11 (ft336_6 (by omega))
        have es2155 : (yup (yup (yup m (336 + k.toNat) 0 7) 325 ((m 316 13).toNat) ((m 316 16) - 1)) 316 13 ((m 316 13) + 1)) (336 + k.toNat) 8 = m (336 + k.toNat) 8 := ((yup_na (by omega)).trans ((yup_na (by omega)).trans (yup_nk (by decide))))
        have tb2156 := hT.atp (336 + k.toNat) 8 0 2 (ft336_8 (by omega))
        refine y_callIB 100 [.ref 2, yI 40, .ref (336 + k.toNat)] [] c64_97 rfl rfl rfl rfl rfl (ycanO km62 ko2) (t62_316 hT2139 he (by have e1 : (yup (yup (yup m (336 + k.toNat) 0 7) 325 ((m 316 13).toNat) ((m 316 16) - 1)) 316 13 ((m 316 13) + 1)) 5 e.toNat = m 5 e.toNat := ((yup_na (by decide)).trans ((yup_na (by decide)).trans (yup_na (by omega)))); omega) (by omega) (by omega) (k := k) (by omega) (by omega) (by omega)) (fun rq2142 mq2142 nq2142 hq2142 => ?_)
        obtain ⟨rfl, hTq2142, hFq2142, hq2142⟩ := hq2142
        have hF2157 := hF2140.tr hFq2142 wSv316_wSr316
        refine y_if 112 103 c64_100 rfl rfl (yz_eq (by omega)) (fun hb2158 => ?_) (fun hb2158 => ?_)
        · refine y_iconst 113 c64_112 rfl ?_
          have tb2159 := hTq2142.atp 2 2 0 320 rfl
          have es2160 : mq2142 316 13 = (m 316 13) + 1 := ((hFq2142 316 13 ((wSv316_lt (by decide)).trans rfl)).trans (yup_eq _ _ _ _))
          have tb2161 := hTq2142.atp (336 + k.toNat) 0 0 9 (ft336_0 (by omega))
          have tb2162 := hTq2142.atp (336 + k.toNat) 2 ((-1)) 47 (ft336_2 (by omega))
          have tb2163 := hTq2142.atp (336 + k.toNat) 3 ((-1)) 47 (ft336_3 (by omega))
          have tb2164 := hTq2142.atp (336 + k.toNat) 6 ((-1)) 11 (ft336_6 (by omega))
          have tb2165 := hTq2142.atp (336 + k.toNat) 8 0 2 (ft336_8 (by omega))
          have ek : mq2142 325 (m 316 13).toNat = (m 316 16) - 1 := ((hFq2142 325 ((m 316 13).toNat) ((wSv316_lt (by decide)).trans rfl)).trans ((yup_na (by decide)).trans (yup_eq _ _ _ _)))
          exact y_retI c64_113 (y_fit1 (by omega)) ⟨rfl, hTq2142, hF2157, by omega, fun z hz => ((hFq2142 325 z ((wSv316_lt (by decide)).trans rfl)).trans ((yup_na (by decide)).trans ((yup_nk hz).trans (yup_na (by omega)))))⟩
        · refine y_aload 104 c64_103 rfl rfl rfl ?_
          refine y_iconst 106 c64_104 rfl ?_
          have tb2167 := hTq2142.atp 2 2 0 320 rfl
          refine y_callIB 109 [.ref 2, yI 41] [] c64_106 rfl rfl rfl rfl rfl (ycanO km37 ko2) (t37 hTq2142 he (by have e1 : mq2142 5 e.toNat = m 5 e.toNat := ((hFq2142 5 e.toNat ((wSv316_lt (by decide)).trans rfl)).trans ((yup_na (by decide)).trans ((yup_na (by decide)).trans (yup_na (by omega))))); omega) (by omega) (by omega)) (fun rq2166 mq2166 nq2166 hq2166 => ?_)
          obtain ⟨rfl, hTq2166, hFq2166, hq2166⟩ := hq2166
          have hF2168 := hF2157.tr hFq2166 wAt_wSr316
          refine y_if 114 112 c64_109 rfl rfl (yz_ne (by omega)) (fun hb2169 => ?_) (fun hb2169 => ?_)
          · refine y_aload 115 c64_114 rfl rfl rfl ?_
            refine y_aload 116 c64_115 rfl rfl rfl ?_
            have tb2171 := hTq2166.atp 2 2 0 320 rfl
            have es2172 : mq2166 2 1 = m 2 1 := ((hFq2166 2 1 rfl).trans ((hFq2142 2 1 ((wSv316_lt (by decide)).trans rfl)).trans ((yup_na (by decide)).trans ((yup_na (by decide)).trans (yup_na (by omega))))))
            have es2173 : mq2166 316 10 = m 316 10 := ((hFq2166 316 10 rfl).trans ((hFq2142 316 10 ((wSv316_lt (by decide)).trans rfl)).trans ((yup_nk (by decide)).trans ((yup_na (by decide)).trans (yup_na (by omega))))))
            have es2174 : mq2166 316 15 = mq2142 316 15 := (hFq2166 316 15 rfl)
            have tb2175 := hTq2142.atp 316 15 0 48 rfl
            refine y_callIB 119 [.ref 2] [.ref (336 + k.toNat)] c64_116 rfl rfl rfl rfl rfl (ycanO km58 ko2) (t58_316 hTq2166 he (by have e1 : mq2166 5 e.toNat = m 5 e.toNat := ((hFq2166 5 e.toNat rfl).trans ((hFq2142 5 e.toNat ((wSv316_lt (by decide)).trans rfl)).trans ((yup_na (by decide)).trans ((yup_na (by decide)).trans (yup_na (by omega)))))); omega) (by omega) (by omega) (by omega)) (fun rq2170 mq2170 nq2170 hq2170 => ?_)
            obtain ⟨rfl, hTq2170, hFq2170, hq2170⟩ := hq2170
            have hF2176 := hF2168.tr hFq2170 wVr316_wSr316
            refine y_putI 122 c64_119 rfl (ff336_3 (by omega)) (y_fit0 _) ?_
            have hT2177 := hTq2170.up (336 + k.toNat) 3 rq2170 ((-1)) 47 (ft336_3 (by omega)) (by omega)
            have hF2178 := hF2176.up (336 + k.toNat) 3 rq2170 (wSr316_s (by omega))
            refine y_aload 123 c64_122 rfl rfl rfl ?_
            refine y_getX 126 rq2170 c64_123 rfl (ff336_3 (by omega)) (yup_eq _ _ _ _) ?_
            refine y_iconst 127 c64_126 rfl ?_
            refine y_icmp 134 130 c64_127 rfl rfl (yc_eq (by omega) (by omega)) (fun hb2179 => ?_) (fun hb2179 => ?_)
            · refine y_iconst 135 c64_134 rfl ?_
              have es2180 : (yup mq2170 (336 + k.toNat) 3 rq2170) 2 2 = mq2170 2 2 := (yup_na (by omega))
              have tb2181 := hTq2170.atp 2 2 0 320 rfl
              have es2182 : (yup mq2170 (336 + k.toNat) 3 rq2170) 316 13 = (m 316 13) + 1 := ((yup_na (by omega)).trans ((hFq2170 316 13 rfl).trans ((hFq2166 316 13 rfl).trans ((hFq2142 316 13 ((wSv316_lt (by decide)).trans rfl)).trans (yup_eq _ _ _ _)))))
              have es2183 : (yup mq2170 (336 + k.toNat) 3 rq2170) (336 + k.toNat) 0 = mq2142 (336 + k.toNat) 0 := ((yup_nk (by decide)).trans ((hFq2170 (336 + k.toNat) 0 wVr316_n336).trans (hFq2166 (336 + k.toNat) 0 wAt_n336)))
              have tb2184 := hTq2142.atp (336 + k.toNat) 0 0 9 (ft336_0 (by omega))
              have es2185 : (yup mq2170 (336 + k.toNat) 3 rq2170) (336 + k.toNat) 2 = mq2142 (336 + k.toNat) 2 := ((yup_nk (by decide)).trans ((hFq2170 (336 + k.toNat) 2 wVr316_n336).trans (hFq2166 (336 + k.toNat) 2 wAt_n336)))
              have tb2186 := hTq2142.atp (336 + k.toNat) 2 ((-1)) 47 (ft336_2 (by omega))
              have es2187 : (yup mq2170 (336 + k.toNat) 3 rq2170) (336 + k.toNat) 3 = rq2170 := (yup_eq _ _ _ _)
              have es2188 : (yup mq2170 (336 + k.toNat) 3 rq2170) (336 + k.toNat) 6 = mq2142 (336 + k.toNat) 6 := ((yup_nk (by decide)).trans ((hFq2170 (336 + k.toNat) 6 wVr316_n336).trans (hFq2166 (336 + k.toNat) 6 wAt_n336)))
              have tb2189 := hTq2142.atp (336 + k.toNat) 6 ((-1)) 11 (ft336_6 (by omega))
              have es2190 : (yup mq2170 (336 + k.toNat) 3 rq2170) (336 + k.toNat) 8 = mq2142 (336 + k.toNat) 8 := ((yup_nk (by decide)).trans ((hFq2170 (336 + k.toNat) 8 wVr316_n336).trans (hFq2166 (336 + k.toNat) 8 wAt_n336)))
              have tb2191 := hTq2142.atp (336 + k.toNat) 8 0 2 (ft336_8 (by omega))
              have ek : (yup mq2170 (336 + k.toNat) 3 rq2170) 325 (m 316 13).toNat = (m 316 16) - 1 := ((yup_na (by omega)).trans ((hFq2170 325 ((m 316 13).toNat) rfl).trans ((hFq2166 325 ((m 316 13).toNat) rfl).trans ((hFq2142 325 ((m 316 13).toNat) ((wSv316_lt (by decide)).trans rfl)).trans ((yup_na (by decide)).trans (yup_eq _ _ _ _))))))
              exact y_retI c64_135 (y_fit1 (by omega)) ⟨rfl, hT2177, hF2178, by omega, fun z hz => ((yup_na (by omega)).trans ((hFq2170 325 z rfl).trans ((hFq2166 325 z rfl).trans ((hFq2142 325 z ((wSv316_lt (by decide)).trans rfl)).trans ((yup_na (by decide)).trans ((yup_nk hz).trans (yup_na (by omega))))))))⟩
            · refine y_iconst 131 c64_130 rfl ?_
              refine y_goto 135 c64_131 rfl ?_
              have es2192 : (yup mq2170 (336 + k.toNat) 3 rq2170) 2 2 = mq2170 2 2 := (yup_na (by omega))
              have tb2193 := hTq2170.atp 2 2 0 320 rfl
              have es2194 : (yup mq2170 (336 + k.toNat) 3 rq2170) 316 13 = (m 316 13) + 1 := ((yup_na (by omega)).trans ((hFq2170 316 13 rfl).trans ((hFq2166 316 13 rfl).trans ((hFq2142 316 13 ((wSv316_lt (by decide)).trans rfl)).trans (yup_eq _ _ _ _)))))
              have es2195 : (yup mq2170 (336 + k.toNat) 3 rq2170) (336 + k.toNat) 0 = mq2142 (336 + k.toNat) 0 := ((yup_nk (by decide)).trans ((hFq2170 (336 + k.toNat) 0 wVr316_n336).trans (hFq2166 (336 + k.toNat) 0 wAt_n336)))
              have tb2196 := hTq2142.atp (336 + k.toNat) 0 0 9 (ft336_0 (by omega))
              have es2197 : (yup mq2170 (336 + k.toNat) 3 rq2170) (336 + k.toNat) 2 = mq2142 (336 + k.toNat) 2 := ((yup_nk (by decide)).trans ((hFq2170 (336 + k.toNat) 2 wVr316_n336).trans (hFq2166 (336 + k.toNat) 2 wAt_n336)))
              have tb2198 := hTq2142.atp (336 + k.toNat) 2 ((-1)) 47 (ft336_2 (by omega))
              have es2199 : (yup mq2170 (336 + k.toNat) 3 rq2170) (336 + k.toNat) 3 = rq2170 := (yup_eq _ _ _ _)
              have es2200 : (yup mq2170 (336 + k.toNat) 3 rq2170) (336 + k.toNat) 6 = mq2142 (336 + k.toNat) 6 := ((yup_nk (by decide)).trans ((hFq2170 (336 + k.toNat) 6 wVr316_n336).trans (hFq2166 (336 + k.toNat) 6 wAt_n336)))
              have tb2201 := hTq2142.atp (336 + k.toNat) 6 ((-1)) 11 (ft336_6 (by omega))
              have es2202 : (yup mq2170 (336 + k.toNat) 3 rq2170) (336 + k.toNat) 8 = mq2142 (336 + k.toNat) 8 := ((yup_nk (by decide)).trans ((hFq2170 (336 + k.toNat) 8 wVr316_n336).trans (hFq2166 (336 + k.toNat) 8 wAt_n336)))
              have tb2203 := hTq2142.atp (336 + k.toNat) 8 0 2 (ft336_8 (by omega))
              have ek : (yup mq2170 (336 + k.toNat) 3 rq2170) 325 (m 316 13).toNat = (m 316 16) - 1 := ((yup_na (by omega)).trans ((hFq2170 325 ((m 316 13).toNat) rfl).trans ((hFq2166 325 ((m 316 13).toNat) rfl).trans ((hFq2142 325 ((m 316 13).toNat) ((wSv316_lt (by decide)).trans rfl)).trans ((yup_na (by decide)).trans (yup_eq _ _ _ _))))))
              exact y_retI c64_135 (y_fit1 (by omega)) ⟨rfl, hT2177, hF2178, by omega, fun z hz => ((yup_na (by omega)).trans ((hFq2170 325 z rfl).trans ((hFq2166 325 z rfl).trans ((hFq2142 325 z ((wSv316_lt (by decide)).trans rfl)).trans ((yup_na (by decide)).trans ((yup_nk hz).trans (yup_na (by omega))))))))⟩
          · refine y_iconst 113 c64_112 rfl ?_
            have tb2204 := hTq2166.atp 2 2 0 320 rfl
            have es2205 : mq2166 316 13 = (m 316 13) + 1 := ((hFq2166 316 13 rfl).trans ((hFq2142 316 13 ((wSv316_lt (by decide)).trans rfl)).trans (yup_eq _ _ _ _)))
            have es2206 : mq2166 (336 + k.toNat) 0 = mq2142 (336 + k.toNat) 0 := (hFq2166 (336 + k.toNat) 0 wAt_n336)
            have tb2207 := hTq2142.atp (336 + k.toNat) 0 0 9 (ft336_0 (by omega))
            have es2208 : mq2166 (336 + k.toNat) 2 = mq2142 (336 + k.toNat) 2 := (hFq2166 (336 + k.toNat) 2 wAt_n336)
            have tb2209 := hTq2142.atp (336 + k.toNat) 2 ((-1)) 47 (ft336_2 (by omega))
            have es2210 : mq2166 (336 + k.toNat) 3 = mq2142 (336 + k.toNat) 3 := (hFq2166 (336 + k.toNat) 3 wAt_n336)
            have tb2211 := hTq2142.atp (336 + k.toNat) 3 ((-1)) 47 (ft336_3 (by omega))
            have es2212 : mq2166 (336 + k.toNat) 6 = mq2142 (336 + k.toNat) 6 := (hFq2166 (336 + k.toNat) 6 wAt_n336)
            have tb2213 := hTq2142.atp (336 + k.toNat) 6 ((-1)) 11 (ft336_6 (by omega))
            have es2214 : mq2166 (336 + k.toNat) 8 = mq2142 (336 + k.toNat) 8 := (hFq2166 (336 + k.toNat) 8 wAt_n336)
            have tb2215 := hTq2142.atp (336 + k.toNat) 8 0 2 (ft336_8 (by omega))
            have ek : mq2166 325 (m 316 13).toNat = (m 316 16) - 1 := ((hFq2166 325 ((m 316 13).toNat) rfl).trans ((hFq2142 325 ((m 316 13).toNat) ((wSv316_lt (by decide)).trans rfl)).trans ((yup_na (by decide)).trans (yup_eq _ _ _ _))))
            exact y_retI c64_113 (y_fit1 (by omega)) ⟨rfl, hTq2166, hF2168, by omega, fun z hz => ((hFq2166 325 z rfl).trans ((hFq2142 325 z ((wSv316_lt (by decide)).trans rfl)).trans ((yup_na (by decide)).trans ((yup_nk hz).trans (yup_na (by omega))))))⟩
      · exfalso; omega
  refine y_lsw 136 c64_4 (by omega) (by simp only [Op.lookupswitch.offset]; split <;> first | omega | (split <;> first | omega | (split <;> first | omega | rfl))) rfl ?_
  refine y_aload 137 c64_136 rfl rfl rfl ?_
  refine y_aload 138 c64_137 rfl rfl rfl ?_
  have tb2217 := hT.atp 2 1 ((-1)) 1 rfl
  have tb2218 := hT.atp 316 10 0 10 rfl
  have tb2219 := hT.atp 316 15 0 48 rfl
  refine y_callIB 141 [.ref 2] [.ref (336 + k.toNat)] c64_138 rfl rfl rfl rfl rfl (ycanO km58 ko2) (t58_316 hT he hE (by omega) (by omega) (by omega)) (fun rq2216 mq2216 nq2216 hq2216 => ?_)
  obtain ⟨rfl, hTq2216, hFq2216, hq2216⟩ := hq2216
  have hF2220 := hF.tr hFq2216 wVr316_wSr316
  refine y_putI 144 c64_141 rfl (ff336_3 (by omega)) (y_fit0 _) ?_
  have hT2221 := hTq2216.up (336 + k.toNat) 3 rq2216 ((-1)) 47 (ft336_3 (by omega)) (by omega)
  have hF2222 := hF2220.up (336 + k.toNat) 3 rq2216 (wSr316_s (by omega))
  refine y_aload 145 c64_144 rfl rfl rfl ?_
  refine y_aload 146 c64_145 rfl rfl rfl ?_
  have es2223 : (yup mq2216 (336 + k.toNat) 3 rq2216) 2 2 = mq2216 2 2 := (yup_na (by omega))
  have tb2224 := hTq2216.atp 2 2 0 320 rfl
  refine y_callP 149 [.ref 2] [.ref (336 + k.toNat)] c64_146 rfl rfl rfl rfl rfl (ycanO km38 ko2) (t38 hT2221 he (by have e1 : (yup mq2216 (336 + k.toNat) 3 rq2216) 5 e.toNat = m 5 e.toNat := ((yup_na (by omega)).trans (hFq2216 5 e.toNat rfl)); omega) (by omega)) (fun r2225 hr2225 => ?_)
  refine y_iconst 151 c64_149 rfl ?_
  refine y_icmp 159 154 c64_151 rfl rfl (yc_ne (by omega) (by omega)) (fun hb2226 => ?_) (fun hb2226 => ?_)
  · refine y_iconst 161 c64_159 rfl ?_
    refine y_putI 164 c64_161 rfl (ff336_0 (by omega)) (y_fit0 _) ?_
    have hT2227 := hT2221.up (336 + k.toNat) 0 8 0 9 (ft336_0 (by omega)) (by omega)
    have hF2228 := hF2222.up (336 + k.toNat) 0 8 (wSr316_s (by omega))
    refine y_aload 165 c64_164 rfl rfl rfl ?_
    refine y_getX 168 rq2216 c64_165 rfl (ff336_3 (by omega)) ((yup_nk (by decide)).trans (yup_eq _ _ _ _)) ?_
    refine y_iconst 169 c64_168 rfl ?_
    refine y_icmp 195 172 c64_169 rfl rfl (yc_eq (by omega) (by omega)) (fun hb2229 => ?_) (fun hb2229 => ?_)
    · refine y_iconst 196 c64_195 rfl ?_
      have es2230 : (yup (yup mq2216 (336 + k.toNat) 3 rq2216) (336 + k.toNat) 0 8) 2 2 = mq2216 2 2 := ((yup_na (by omega)).trans (yup_na (by omega)))
      have es2231 : (yup (yup mq2216 (336 + k.toNat) 3 rq2216) (336 + k.toNat) 0 8) 316 13 = m 316 13 := ((yup_na (by omega)).trans ((yup_na (by omega)).trans (hFq2216 316 13 rfl)))
      have tb2232 := hT.atp 316 13 0 8 rfl
      have es2233 : (yup (yup mq2216 (336 + k.toNat) 3 rq2216) (336 + k.toNat) 0 8) (336 + k.toNat) 0 = 8 := (yup_eq _ _ _ _)
      have es2234 : (yup (yup mq2216 (336 + k.toNat) 3 rq2216) (336 + k.toNat) 0 8) (336 + k.toNat) 2 = m (336 + k.toNat) 2 := ((yup_nk (by decide)).trans ((yup_nk (by decide)).trans (hFq2216 (336 + k.toNat) 2 wVr316_n336)))
      have tb2235 := hT.atp (336 + k.toNat) 2 ((-1)) 47 (ft336_2 (by omega))
      have es2236 : (yup (yup mq2216 (336 + k.toNat) 3 rq2216) (336 + k.toNat) 0 8) (336 + k.toNat) 3 = rq2216 := ((yup_nk (by decide)).trans (yup_eq _ _ _ _))
      have es2237 : (yup (yup mq2216 (336 + k.toNat) 3 rq2216) (336 + k.toNat) 0 8) (336 + k.toNat) 6 = m (336 + k.toNat) 6 := ((yup_nk (by decide)).trans ((yup_nk (by decide)).trans (hFq2216 (336 + k.toNat) 6 wVr316_n336)))
      have tb2238 := hT.atp (336 + k.toNat) 6 ((-1)) 11 (ft336_6 (by omega))
      have es2239 : (yup (yup mq2216 (336 + k.toNat) 3 rq2216) (336 + k.toNat) 0 8) (336 + k.toNat) 8 = m (336 + k.toNat) 8 := ((yup_nk (by decide)).trans ((yup_nk (by decide)).trans (hFq2216 (336 + k.toNat) 8 wVr316_n336)))
      have tb2240 := hT.atp (336 + k.toNat) 8 0 2 (ft336_8 (by omega))
      exact y_retI c64_196 (y_fit1 (by omega)) ⟨rfl, hT2227, hF2228, by omega, fun z hz => ((yup_na (by omega)).trans ((yup_na (by omega)).trans (hFq2216 325 z rfl)))⟩
    · refine y_aload 173 c64_172 rfl rfl rfl ?_
      refine y_getX 176 8 c64_173 rfl (ff336_0 (by omega)) (yup_eq _ _ _ _) ?_
      refine y_iconst 178 c64_176 rfl ?_
      refine y_icmp 191 181 c64_178 rfl rfl (yc_eq (by omega) (by omega)) (fun hb2241 => ?_) (fun hb2241 => ?_)
      · refine y_iconst 192 c64_191 rfl ?_
        refine y_goto 196 c64_192 rfl ?_
        have es2242 : (yup (yup mq2216 (336 + k.toNat) 3 rq2216) (336 + k.toNat) 0 8) 2 2 = mq2216 2 2 := ((yup_na (by omega)).trans (yup_na (by omega)))
        have es2243 : (yup (yup mq2216 (336 + k.toNat) 3 rq2216) (336 + k.toNat) 0 8) 316 13 = m 316 13 := ((yup_na (by omega)).trans ((yup_na (by omega)).trans (hFq2216 316 13 rfl)))
        have tb2244 := hT.atp 316 13 0 8 rfl
        have es2245 : (yup (yup mq2216 (336 + k.toNat) 3 rq2216) (336 + k.toNat) 0 8) (336 + k.toNat) 0 = 8 := (yup_eq _ _ _ _)
        have es2246 : (yup (yup mq2216 (336 + k.toNat) 3 rq2216) (336 + k.toNat) 0 8) (336 + k.toNat) 2 = m (336 + k.toNat) 2 := ((yup_nk (by decide)).trans ((yup_nk (by decide)).trans (hFq2216 (336 + k.toNat) 2 wVr316_n336)))
        have tb2247 := hT.atp (336 + k.toNat) 2 ((-1)) 47 (ft336_2 (by omega))
        have es2248 : (yup (yup mq2216 (336 + k.toNat) 3 rq2216) (336 + k.toNat) 0 8) (336 + k.toNat) 3 = rq2216 := ((yup_nk (by decide)).trans (yup_eq _ _ _ _))
        have es2249 : (yup (yup mq2216 (336 + k.toNat) 3 rq2216) (336 + k.toNat) 0 8) (336 + k.toNat) 6 = m (336 + k.toNat) 6 := ((yup_nk (by decide)).trans ((yup_nk (by decide)).trans (hFq2216 (336 + k.toNat) 6 wVr316_n336)))
        have tb2250 := hT.atp (336 + k.toNat) 6 ((-1)) 11 (ft336_6 (by omega))
        have es2251 : (yup (yup mq2216 (336 + k.toNat) 3 rq2216) (336 + k.toNat) 0 8) (336 + k.toNat) 8 = m (336 + k.toNat) 8 := ((yup_nk (by decide)).trans ((yup_nk (by decide)).trans (hFq2216 (336 + k.toNat) 8 wVr316_n336)))
        have tb2252 := hT.atp (336 + k.toNat) 8 0 2 (ft336_8 (by omega))
        exact y_retI c64_196 (y_fit1 (by omega)) ⟨rfl, hT2227, hF2228, by omega, fun z hz => ((yup_na (by omega)).trans ((yup_na (by omega)).trans (hFq2216 325 z rfl)))⟩
      · exfalso; omega
  · refine y_iconst 156 c64_154 rfl ?_
    refine y_goto 161 c64_156 rfl ?_
    refine y_putI 164 c64_161 rfl (ff336_0 (by omega)) (y_fit0 _) ?_
    have hT2253 := hT2221.up (336 + k.toNat) 0 9 0 9 (ft336_0 (by omega)) (by omega)
    have hF2254 := hF2222.up (336 + k.toNat) 0 9 (wSr316_s (by omega))
    refine y_aload 165 c64_164 rfl rfl rfl ?_
    refine y_getX 168 rq2216 c64_165 rfl (ff336_3 (by omega)) ((yup_nk (by decide)).trans (yup_eq _ _ _ _)) ?_
    refine y_iconst 169 c64_168 rfl ?_
    refine y_icmp 195 172 c64_169 rfl rfl (yc_eq (by omega) (by omega)) (fun hb2255 => ?_) (fun hb2255 => ?_)
    · refine y_iconst 196 c64_195 rfl ?_
      have es2256 : (yup (yup mq2216 (336 + k.toNat) 3 rq2216) (336 + k.toNat) 0 9) 2 2 = mq2216 2 2 := ((yup_na (by omega)).trans (yup_na (by omega)))
      have es2257 : (yup (yup mq2216 (336 + k.toNat) 3 rq2216) (336 + k.toNat) 0 9) 316 13 = m 316 13 := ((yup_na (by omega)).trans ((yup_na (by omega)).trans (hFq2216 316 13 rfl)))
      have tb2258 := hT.atp 316 13 0 8 rfl
      have es2259 : (yup (yup mq2216 (336 + k.toNat) 3 rq2216) (336 + k.toNat) 0 9) (336 + k.toNat) 0 = 9 := (yup_eq _ _ _ _)
      have es2260 : (yup (yup mq2216 (336 + k.toNat) 3 rq2216) (336 + k.toNat) 0 9) (336 + k.toNat) 2 = m (336 + k.toNat) 2 := ((yup_nk (by decide)).trans ((yup_nk (by decide)).trans (hFq2216 (336 + k.toNat) 2 wVr316_n336)))
      have tb2261 := hT.atp (336 + k.toNat) 2 ((-1)) 47 (ft336_2 (by omega))
      have es2262 : (yup (yup mq2216 (336 + k.toNat) 3 rq2216) (336 + k.toNat) 0 9) (336 + k.toNat) 3 = rq2216 := ((yup_nk (by decide)).trans (yup_eq _ _ _ _))
      have es2263 : (yup (yup mq2216 (336 + k.toNat) 3 rq2216) (336 + k.toNat) 0 9) (336 + k.toNat) 6 = m (336 + k.toNat) 6 := ((yup_nk (by decide)).trans ((yup_nk (by decide)).trans (hFq2216 (336 + k.toNat) 6 wVr316_n336)))
      have tb2264 := hT.atp (336 + k.toNat) 6 ((-1)) 11 (ft336_6 (by omega))
      have es2265 : (yup (yup mq2216 (336 + k.toNat) 3 rq2216) (336 + k.toNat) 0 9) (336 + k.toNat) 8 = m (336 + k.toNat) 8 := ((yup_nk (by decide)).trans ((yup_nk (by decide)).trans (hFq2216 (336 + k.toNat) 8 wVr316_n336)))
      have tb2266 := hT.atp (336 + k.toNat) 8 0 2 (ft336_8 (by omega))
      exact y_retI c64_196 (y_fit1 (by omega)) ⟨rfl, hT2253, hF2254, by omega, fun z hz => ((yup_na (by omega)).trans ((yup_na (by omega)).trans (hFq2216 325 z rfl)))⟩
    · refine y_aload 173 c64_172 rfl rfl rfl ?_
      refine y_getX 176 9 c64_173 rfl (ff336_0 (by omega)) (yup_eq _ _ _ _) ?_
      refine y_iconst 178 c64_176 rfl ?_
      refine y_icmp 191 181 c64_178 rfl rfl (yc_eq (by omega) (by omega)) (fun hb2267 => ?_) (fun hb2267 => ?_)
      · exfalso; omega
      · refine y_aload 182 c64_181 rfl rfl rfl ?_
        refine y_iconst 184 c64_182 rfl ?_
        refine y_aload 185 c64_184 rfl rfl rfl ?_
        have es2269 : (yup (yup mq2216 (336 + k.toNat) 3 rq2216) (336 + k.toNat) 0 9) 2 2 = mq2216 2 2 := ((yup_na (by omega)).trans (yup_na (by omega)))
        have es2270 : (yup (yup mq2216 (336 + k.toNat) 3 rq2216) (336 + k.toNat) 0 9) 2 1 = m 2 1 := ((yup_na (by omega)).trans ((yup_na (by omega)).trans (hFq2216 2 1 rfl)))
        have es2271 : (yup (yup mq2216 (336 + k.toNat) 3 rq2216) (336 + k.toNat) 0 9) 316 10 = m 316 10 := ((yup_na (by omega)).trans ((yup_na (by omega)).trans (hFq2216 316 10 rfl)))
        have es2272 : (yup (yup mq2216 (336 + k.toNat) 3 rq2216) (336 + k.toNat) 0 9) (336 + k.toNat) 0 = 9 := (yup_eq _ _ _ _)
        have es2273 : (yup (yup mq2216 (336 + k.toNat) 3 rq2216) (336 + k.toNat) 0 9) (336 + k.toNat) 2 = m (336 + k.toNat) 2 := ((yup_nk (by decide)).trans ((yup_nk (by decide)).trans (hFq2216 (336 + k.toNat) 2 wVr316_n336)))
        have tb2274 := hT.atp (336 + k.toNat) 2 ((-1)) 47 (ft336_2 (by omega))
        have es2275 : (yup (yup mq2216 (336 + k.toNat) 3 rq2216) (336 + k.toNat) 0 9) (336 + k.toNat) 3 = rq2216 := ((yup_nk (by decide)).trans (yup_eq _ _ _ _))
        have es2276 : (yup (yup mq2216 (336 + k.toNat) 3 rq2216) (336 + k.toNat) 0 9) (336 + k.toNat) 6 = m (336 + k.toNat) 6 := ((yup_nk (by decide)).trans ((yup_nk (by decide)).trans (hFq2216 (336 + k.toNat) 6 wVr316_n336)))
        have tb2277 := hT.atp (336 + k.toNat) 6 ((-1)) 11 (ft336_6 (by omega))
        have es2278 : (yup (yup mq2216 (336 + k.toNat) 3 rq2216) (336 + k.toNat) 0 9) (336 + k.toNat) 8 = m (336 + k.toNat) 8 := ((yup_nk (by decide)).trans ((yup_nk (by decide)).trans (hFq2216 (336 + k.toNat) 8 wVr316_n336)))
        have tb2279 := hT.atp (336 + k.toNat) 8 0 2 (ft336_8 (by omega))
        refine y_callIB 188 [.ref 2, yI 46, .ref (336 + k.toNat)] [] c64_185 rfl rfl rfl rfl rfl (ycanO km62 ko2) (t62_316 hT2253 he (by have e1 : (yup (yup mq2216 (336 + k.toNat) 3 rq2216) (336 + k.toNat) 0 9) 5 e.toNat = m 5 e.toNat := ((yup_na (by omega)).trans ((yup_na (by omega)).trans (hFq2216 5 e.toNat rfl))); omega) (by omega) (by omega) (k := k) (by omega) (by omega) (by omega)) (fun rq2268 mq2268 nq2268 hq2268 => ?_)
        obtain ⟨rfl, hTq2268, hFq2268, hq2268⟩ := hq2268
        have hF2280 := hF2254.tr hFq2268 wSv316_wSr316
        refine y_if 195 191 c64_188 rfl rfl (yz_eq (by omega)) (fun hb2281 => ?_) (fun hb2281 => ?_)
        · refine y_iconst 196 c64_195 rfl ?_
          have tb2282 := hTq2268.atp 2 2 0 320 rfl
          have es2283 : mq2268 316 13 = m 316 13 := ((hFq2268 316 13 ((wSv316_lt (by decide)).trans rfl)).trans ((yup_na (by omega)).trans ((yup_na (by omega)).trans (hFq2216 316 13 rfl))))
          have tb2284 := hT.atp 316 13 0 8 rfl
          have tb2285 := hTq2268.atp (336 + k.toNat) 0 0 9 (ft336_0 (by omega))
          have tb2286 := hTq2268.atp (336 + k.toNat) 2 ((-1)) 47 (ft336_2 (by omega))
          have tb2287 := hTq2268.atp (336 + k.toNat) 3 ((-1)) 47 (ft336_3 (by omega))
          have tb2288 := hTq2268.atp (336 + k.toNat) 6 ((-1)) 11 (ft336_6 (by omega))
          have tb2289 := hTq2268.atp (336 + k.toNat) 8 0 2 (ft336_8 (by omega))
          exact y_retI c64_196 (y_fit1 (by omega)) ⟨rfl, hTq2268, hF2280, by omega, fun z hz => ((hFq2268 325 z ((wSv316_lt (by decide)).trans rfl)).trans ((yup_na (by omega)).trans ((yup_na (by omega)).trans (hFq2216 325 z rfl))))⟩
        · refine y_iconst 192 c64_191 rfl ?_
          refine y_goto 196 c64_192 rfl ?_
          have tb2290 := hTq2268.atp 2 2 0 320 rfl
          have es2291 : mq2268 316 13 = m 316 13 := ((hFq2268 316 13 ((wSv316_lt (by decide)).trans rfl)).trans ((yup_na (by omega)).trans ((yup_na (by omega)).trans (hFq2216 316 13 rfl))))
          have tb2292 := hT.atp 316 13 0 8 rfl
          have tb2293 := hTq2268.atp (336 + k.toNat) 0 0 9 (ft336_0 (by omega))
          have tb2294 := hTq2268.atp (336 + k.toNat) 2 ((-1)) 47 (ft336_2 (by omega))
          have tb2295 := hTq2268.atp (336 + k.toNat) 3 ((-1)) 47 (ft336_3 (by omega))
          have tb2296 := hTq2268.atp (336 + k.toNat) 6 ((-1)) 11 (ft336_6 (by omega))
          have tb2297 := hTq2268.atp (336 + k.toNat) 8 0 2 (ft336_8 (by omega))
          exact y_retI c64_196 (y_fit1 (by omega)) ⟨rfl, hTq2268, hF2280, by omega, fun z hz => ((hFq2268 325 z ((wSv316_lt (by decide)).trans rfl)).trans ((yup_na (by omega)).trans ((yup_na (by omega)).trans (hFq2216 325 z rfl))))⟩
set_option maxRecDepth 100000 in
theorem t68_316 {L : Nat} {xs : Nat → Int32} {d nn : Nat} {m : yM} {e : Int} (hT : Ty gT m) (he : 0 ≤ e ∧ e ≤ 320) (hE : m 5 e.toNat = 0) (ha : m 2 2 ≤ e) (hp : m 2 1 = 1) {k : Int} (hk : 0 ≤ k ∧ k ≤ 39) (hm : 1 ≤ m 316 10) (h16 : m 316 16 = k + 1) (h8 : m (336 + k.toNat) 8 = 0) : YC (gZ L xs) (d + 3) 68 [.ref 2, .ref (336 + k.toNat)] m nn (qI (fun r m' n' => n' = nn ∧ Ty gT m' ∧ Fr (wSs316 k.toNat) m m' ∧ ((r = 0 ∨ r = 1) ∧ m' 2 2 ≤ e ∧ m 316 12 ≤ m' 316 12 ∧ (r = 1 → ((m' (336 + k.toNat) 0 = 4 ∧ 0 ≤ m' (336 + k.toNat) 3 ∧ m' (336 + k.toNat) 6 = m 316 12 ∧ m' 316 12 = m 316 12 + 1 ∧ (1 ≤ m' (336 + k.toNat) 8 → 0 ≤ m' (336 + k.toNat) 9) ∧ (2 ≤ m' (336 + k.toNat) 8 → 0 ≤ m' (336 + k.toNat) 10)) ∨ (m' (336 + k.toNat) 0 ≠ 4 ∧ m' 316 12 = m 316 12 ∧ 0 ≤ m' (336 + k.toNat) 2 ∧ (m' (336 + k.toNat) 0 = 5 → 0 ≤ m' (336 + k.toNat) 6) ∧ 3 ≤ m' (336 + k.toNat) 0 ∧ (m' (336 + k.toNat) 0 ≠ 5 → m' (336 + k.toNat) 0 ≠ 6 → 0 ≤ m' (336 + k.toNat) 3)))) ∧ (m' 316 13 = m 316 13 ∨ (m' 316 13 = m 316 13 + 1 ∧ m' 325 (m 316 13).toNat = k ∧ (r = 1 → m' (336 + k.toNat) 0 = 7)))) ∧ (∀ z, z ≠ (m 316 13).toNat → m' 325 z = m 325 z))) := by
  have tb2 := hT.atp 2 2 0 320 rfl
  have tb13 := hT.atp 316 13 0 8 rfl
  have tb12 := hT.atp 316 12 0 12 rfl
  refine YC.mkB [some (.ref 2), some (.ref (336 + k.toNat)), none, none, none] kn68 rfl rfl ?_
  have hF : Fr (wSs316 k.toNat) m m := Fr.rf
  refine y_aload 1 c68_0 rfl rfl rfl ?_
  have tb2298 := hT.atp 2 2 0 320 rfl
  refine y_callP 4 [.ref 2] [] c68_1 rfl rfl rfl rfl rfl (ycanO km38 ko2) (t38 hT he hE (by omega)) (fun r2299 hr2299 => ?_)
  refine y_iconst 6 c68_4 rfl ?_
  refine y_icmp 13 9 c68_6 rfl rfl (yc_ne (by omega) (by omega)) (fun hb2300 => ?_) (fun hb2300 => ?_)
  · refine y_iconst 14 c68_13 rfl ?_
    refine y_istore 15 c68_14 rfl rfl ?_
    refine y_aload 16 c68_15 rfl rfl rfl ?_
    have tb2302 := hT.atp 2 1 ((-1)) 1 rfl
    have tb2303 := hT.atp 316 10 0 10 rfl
    have tb2304 := hT.atp 316 15 0 48 rfl
    refine y_callIB 19 [.ref 2] [] c68_16 rfl rfl rfl rfl rfl (ycanO km58 ko2) (t58_316 hT he hE (by omega) (by omega) (by omega)) (fun rq2301 mq2301 nq2301 hq2301 => ?_)
    obtain ⟨rfl, hTq2301, hFq2301, hq2301⟩ := hq2301
    have hF2305 := hF.tr hFq2301 wVr316_wSs316
    refine y_istore 20 c68_19 rfl rfl ?_
    refine y_iload 21 c68_20 rfl rfl ?_
    refine y_iconst 22 c68_21 rfl ?_
    refine y_icmp 27 25 c68_22 rfl rfl (yc_ne (by omega) (by omega)) (fun hb2306 => ?_) (fun hb2306 => ?_)
    · refine y_iload 28 c68_27 rfl rfl ?_
      refine y_if 44 31 c68_28 rfl rfl (yz_eq (by omega)) (fun hb2307 => ?_) (fun hb2307 => ?_)
      · refine y_iconst 45 c68_44 rfl ?_
        refine y_istore 47 c68_45 rfl rfl ?_
        refine y_iload 49 c68_47 rfl rfl ?_
        refine y_if 77 52 c68_49 rfl rfl (yz_eq (by omega)) (fun hb2308 => ?_) (fun hb2308 => ?_)
        · refine y_aload 78 c68_77 rfl rfl rfl ?_
          refine y_iload 79 c68_78 rfl rfl ?_
          refine y_putI 82 c68_79 rfl (ff336_3 (by omega)) (y_fit0 _) ?_
          have hT2309 := hTq2301.up (336 + k.toNat) 3 rq2301 ((-1)) 47 (ft336_3 (by omega)) (by omega)
          have hF2310 := hF2305.up (336 + k.toNat) 3 rq2301 (wSs316_s (by omega))
          refine y_aload 83 c68_82 rfl rfl rfl ?_
          refine y_iconst 85 c68_83 rfl ?_
          refine y_putI 88 c68_85 rfl (ff336_0 (by omega)) (y_fit0 _) ?_
          have hT2311 := hT2309.up (336 + k.toNat) 0 9 0 9 (ft336_0 (by omega)) (by omega)
          have hF2312 := hF2310.up (336 + k.toNat) 0 9 (wSs316_s (by omega))
          refine y_aload 89 c68_88 rfl rfl rfl ?_
          refine y_iconst 91 c68_89 rfl ?_
          refine y_aload 92 c68_91 rfl rfl rfl ?_
          have es2314 : (yup (yup mq2301 (336 + k.toNat) 3 rq2301) (336 + k.toNat) 0 9) 2 2 = mq2301 2 2 := ((yup_na (by omega)).trans (yup_na (by omega)))
          have tb2315 := hTq2301.atp 2 2 0 320 rfl
          have es2316 : (yup (yup mq2301 (336 + k.toNat) 3 rq2301) (336 + k.toNat) 0 9) 2 1 = m 2 1 := ((yup_na (by omega)).trans ((yup_na (by omega)).trans (hFq2301 2 1 rfl)))
          have es2317 : (yup (yup mq2301 (336 + k.toNat) 3 rq2301) (336 + k.toNat) 0 9) 316 10 = m 316 10 := ((yup_na (by omega)).trans ((yup_na (by omega)).trans (hFq2301 316 10 rfl)))
          have es2318 : (yup (yup mq2301 (336 + k.toNat) 3 rq2301) (336 + k.toNat) 0 9) (336 + k.toNat) 0 = 9 := (yup_eq _ _ _ _)
          have es2319 : (yup (yup mq2301 (336 + k.toNat) 3 rq2301) (336 + k.toNat) 0 9) (336 + k.toNat) 2 = m (336 + k.toNat) 2 := ((yup_nk (by decide)).trans ((yup_nk (by decide)).trans (hFq2301 (336 + k.toNat) 2 wVr316_n336)))
          have tb2320 := hT.atp (336 + k.toNat) 2 ((-1)) 47 (ft336_2 (by omega))
          have es2321 : (yup (yup mq2301 (336 + k.toNat) 3 rq2301) (336 + k.toNat) 0 9) (336 + k.toNat) 3 = rq2301 := ((yup_nk (by decide)).trans (yup_eq _ _ _ _))
          have es2322 : (yup (yup mq2301 (336 + k.toNat) 3 rq2301) (336 + k.toNat) 0 9) (336 + k.toNat) 6 = m (336 + k.toNat) 6 := ((yup_nk (by decide)).trans ((yup_nk (by decide)).trans (hFq2301 (336 + k.toNat) 6 wVr316_n336)))
          have tb2323 := hT.atp (336 + k.toNat) 6 ((-1)) 11 (ft336_6 (by omega))
          have es2324 : (yup (yup mq2301 (336 + k.toNat) 3 rq2301) (336 + k.toNat) 0 9) (336 + k.toNat) 8 = m (336 + k.toNat) 8 := ((yup_nk (by decide)).trans ((yup_nk (by decide)).trans (hFq2301 (336 + k.toNat) 8 wVr316_n336)))
          have tb2325 := hT.atp (336 + k.toNat) 8 0 2 (ft336_8 (by omega))
          refine y_callIB 95 [.ref 2, yI 46, .ref (336 + k.toNat)] [] c68_92 rfl rfl rfl rfl rfl (ycanO km62 ko2) (t62_316 hT2311 he (by have e1 : (yup (yup mq2301 (336 + k.toNat) 3 rq2301) (336 + k.toNat) 0 9) 5 e.toNat = m 5 e.toNat := ((yup_na (by omega)).trans ((yup_na (by omega)).trans (hFq2301 5 e.toNat rfl))); omega) (by omega) (by omega) (k := k) (by omega) (by omega) (by omega)) (fun rq2313 mq2313 nq2313 hq2313 => ?_)
          obtain ⟨rfl, hTq2313, hFq2313, hq2313⟩ := hq2313
          have hF2326 := hF2312.tr hFq2313 wSv316_wSs316
          refine y_if 100 98 c68_95 rfl rfl (yz_ne (by omega)) (fun hb2327 => ?_) (fun hb2327 => ?_)
          · refine y_aload 101 c68_100 rfl rfl rfl ?_
            refine y_getX 104 (mq2313 (336 + k.toNat) 0) c68_101 rfl (ff336_0 (by omega)) rfl ?_
            have tb2328 := hTq2313.atp (336 + k.toNat) 0 0 9 (ft336_0 (by omega))
            refine y_iconst 106 c68_104 rfl ?_
            refine y_icmp 124 109 c68_106 rfl rfl (yc_ne (by omega) (by omega)) (fun hb2329 => ?_) (fun hb2329 => ?_)
            · refine y_iload 126 c68_124 rfl rfl ?_
              refine y_if 137 129 c68_126 rfl rfl (yz_ne (by omega)) (fun hb2330 => ?_) (fun hb2330 => ?_)
              · exfalso; omega
              · refine y_aload 130 c68_129 rfl rfl rfl ?_
                refine y_aload 131 c68_130 rfl rfl rfl ?_
                have tb2332 := hTq2313.atp 2 2 0 320 rfl
                have es2333 : mq2313 2 1 = m 2 1 := ((hFq2313 2 1 ((wSv316_lt (by decide)).trans rfl)).trans ((yup_na (by omega)).trans ((yup_na (by omega)).trans (hFq2301 2 1 rfl))))
                have es2334 : mq2313 316 10 = m 316 10 := ((hFq2313 316 10 ((wSv316_lt (by decide)).trans rfl)).trans ((yup_na (by omega)).trans ((yup_na (by omega)).trans (hFq2301 316 10 rfl))))
                have tb2335 := hTq2313.atp (336 + k.toNat) 3 ((-1)) 47 (ft336_3 (by omega))
                refine y_callIB 134 [.ref 2, .ref (336 + k.toNat)] [] c68_131 rfl rfl rfl rfl rfl (ycanO km67 ko2) (t67_316 hTq2313 he (by have e1 : mq2313 5 e.toNat = m 5 e.toNat := ((hFq2313 5 e.toNat ((wSv316_lt (by decide)).trans rfl)).trans ((yup_na (by omega)).trans ((yup_na (by omega)).trans (hFq2301 5 e.toNat rfl)))); omega) (by omega) (by omega) (k := k) (by omega) (by omega) (by omega)) (fun rq2331 mq2331 nq2331 hq2331 => ?_)
                obtain ⟨rfl, hTq2331, hFq2331, hq2331⟩ := hq2331
                have hF2336 := hF2326.tr hFq2331 wSv316_wSs316
                refine y_if 141 137 c68_134 rfl rfl (yz_eq (by omega)) (fun hb2337 => ?_) (fun hb2337 => ?_)
                · refine y_iconst 142 c68_141 rfl ?_
                  have tb2338 := hTq2331.atp 2 2 0 320 rfl
                  have es2339 : mq2331 316 13 = m 316 13 := ((hFq2331 316 13 ((wSv316_lt (by decide)).trans rfl)).trans ((hFq2313 316 13 ((wSv316_lt (by decide)).trans rfl)).trans ((yup_na (by omega)).trans ((yup_na (by omega)).trans (hFq2301 316 13 rfl)))))
                  have tb2340 := hT.atp 316 13 0 8 rfl
                  have es2341 : mq2331 316 12 = m 316 12 := ((hFq2331 316 12 ((wSv316_lt (by decide)).trans rfl)).trans ((hFq2313 316 12 ((wSv316_lt (by decide)).trans rfl)).trans ((yup_na (by omega)).trans ((yup_na (by omega)).trans (hFq2301 316 12 rfl)))))
                  have tb2342 := hT.atp 316 12 0 12 rfl
                  have tb2343 := hTq2331.atp (336 + k.toNat) 0 0 9 (ft336_0 (by omega))
                  have tb2344 := hTq2331.atp (336 + k.toNat) 2 ((-1)) 47 (ft336_2 (by omega))
                  have tb2345 := hTq2331.atp (336 + k.toNat) 3 ((-1)) 47 (ft336_3 (by omega))
                  have tb2346 := hTq2331.atp (336 + k.toNat) 6 ((-1)) 11 (ft336_6 (by omega))
                  have tb2347 := hTq2331.atp (336 + k.toNat) 8 0 2 (ft336_8 (by omega))
                  have tb2348 := hTq2331.atp (336 + k.toNat) 9 ((-1)) 47 (ft336_9 (by omega))
                  have tb2349 := hTq2331.atp (336 + k.toNat) 10 ((-1)) 47 (ft336_10 (by omega))
                  exact y_retI c68_142 (y_fit1 (by omega)) ⟨rfl, hTq2331, hF2336, by omega, fun z hz => ((hFq2331 325 z ((wSv316_lt (by decide)).trans rfl)).trans ((hFq2313 325 z ((wSv316_lt (by decide)).trans rfl)).trans ((yup_na (by omega)).trans ((yup_na (by omega)).trans (hFq2301 325 z rfl)))))⟩
                · refine y_iconst 138 c68_137 rfl ?_
                  refine y_goto 142 c68_138 rfl ?_
                  have tb2350 := hTq2331.atp 2 2 0 320 rfl
                  have es2351 : mq2331 316 13 = m 316 13 := ((hFq2331 316 13 ((wSv316_lt (by decide)).trans rfl)).trans ((hFq2313 316 13 ((wSv316_lt (by decide)).trans rfl)).trans ((yup_na (by omega)).trans ((yup_na (by omega)).trans (hFq2301 316 13 rfl)))))
                  have tb2352 := hT.atp 316 13 0 8 rfl
                  have es2353 : mq2331 316 12 = m 316 12 := ((hFq2331 316 12 ((wSv316_lt (by decide)).trans rfl)).trans ((hFq2313 316 12 ((wSv316_lt (by decide)).trans rfl)).trans ((yup_na (by omega)).trans ((yup_na (by omega)).trans (hFq2301 316 12 rfl)))))
                  have tb2354 := hT.atp 316 12 0 12 rfl
                  have tb2355 := hTq2331.atp (336 + k.toNat) 0 0 9 (ft336_0 (by omega))
                  have tb2356 := hTq2331.atp (336 + k.toNat) 2 ((-1)) 47 (ft336_2 (by omega))
                  have tb2357 := hTq2331.atp (336 + k.toNat) 3 ((-1)) 47 (ft336_3 (by omega))
                  have tb2358 := hTq2331.atp (336 + k.toNat) 6 ((-1)) 11 (ft336_6 (by omega))
                  have tb2359 := hTq2331.atp (336 + k.toNat) 8 0 2 (ft336_8 (by omega))
                  have tb2360 := hTq2331.atp (336 + k.toNat) 9 ((-1)) 47 (ft336_9 (by omega))
                  have tb2361 := hTq2331.atp (336 + k.toNat) 10 ((-1)) 47 (ft336_10 (by omega))
                  exact y_retI c68_142 (y_fit1 (by omega)) ⟨rfl, hTq2331, hF2336, by omega, fun z hz => ((hFq2331 325 z ((wSv316_lt (by decide)).trans rfl)).trans ((hFq2313 325 z ((wSv316_lt (by decide)).trans rfl)).trans ((yup_na (by omega)).trans ((yup_na (by omega)).trans (hFq2301 325 z rfl)))))⟩
            · refine y_aload 110 c68_109 rfl rfl rfl ?_
              have tb2362 := hTq2313.atp 2 2 0 320 rfl
              refine y_callP 113 [.ref 2] [] c68_110 rfl rfl rfl rfl rfl (ycanO km38 ko2) (t38 hTq2313 he (by have e1 : mq2313 5 e.toNat = m 5 e.toNat := ((hFq2313 5 e.toNat ((wSv316_lt (by decide)).trans rfl)).trans ((yup_na (by omega)).trans ((yup_na (by omega)).trans (hFq2301 5 e.toNat rfl)))); omega) (by omega)) (fun r2363 hr2363 => ?_)
              refine y_iconst 115 c68_113 rfl ?_
              refine y_icmp 124 118 c68_115 rfl rfl (yc_ne (by omega) (by omega)) (fun hb2364 => ?_) (fun hb2364 => ?_)
              · refine y_iload 126 c68_124 rfl rfl ?_
                refine y_if 137 129 c68_126 rfl rfl (yz_ne (by omega)) (fun hb2365 => ?_) (fun hb2365 => ?_)
                · exfalso; omega
                · refine y_aload 130 c68_129 rfl rfl rfl ?_
                  refine y_aload 131 c68_130 rfl rfl rfl ?_
                  have es2367 : mq2313 2 1 = m 2 1 := ((hFq2313 2 1 ((wSv316_lt (by decide)).trans rfl)).trans ((yup_na (by omega)).trans ((yup_na (by omega)).trans (hFq2301 2 1 rfl))))
                  have es2368 : mq2313 316 10 = m 316 10 := ((hFq2313 316 10 ((wSv316_lt (by decide)).trans rfl)).trans ((yup_na (by omega)).trans ((yup_na (by omega)).trans (hFq2301 316 10 rfl))))
                  have tb2369 := hTq2313.atp (336 + k.toNat) 3 ((-1)) 47 (ft336_3 (by omega))
                  refine y_callIB 134 [.ref 2, .ref (336 + k.toNat)] [] c68_131 rfl rfl rfl rfl rfl (ycanO km67 ko2) (t67_316 hTq2313 he (by have e1 : mq2313 5 e.toNat = m 5 e.toNat := ((hFq2313 5 e.toNat ((wSv316_lt (by decide)).trans rfl)).trans ((yup_na (by omega)).trans ((yup_na (by omega)).trans (hFq2301 5 e.toNat rfl)))); omega) (by omega) (by omega) (k := k) (by omega) (by omega) (by omega)) (fun rq2366 mq2366 nq2366 hq2366 => ?_)
                  obtain ⟨rfl, hTq2366, hFq2366, hq2366⟩ := hq2366
                  have hF2370 := hF2326.tr hFq2366 wSv316_wSs316
                  refine y_if 141 137 c68_134 rfl rfl (yz_eq (by omega)) (fun hb2371 => ?_) (fun hb2371 => ?_)
                  · refine y_iconst 142 c68_141 rfl ?_
                    have tb2372 := hTq2366.atp 2 2 0 320 rfl
                    have es2373 : mq2366 316 13 = m 316 13 := ((hFq2366 316 13 ((wSv316_lt (by decide)).trans rfl)).trans ((hFq2313 316 13 ((wSv316_lt (by decide)).trans rfl)).trans ((yup_na (by omega)).trans ((yup_na (by omega)).trans (hFq2301 316 13 rfl)))))
                    have tb2374 := hT.atp 316 13 0 8 rfl
                    have es2375 : mq2366 316 12 = m 316 12 := ((hFq2366 316 12 ((wSv316_lt (by decide)).trans rfl)).trans ((hFq2313 316 12 ((wSv316_lt (by decide)).trans rfl)).trans ((yup_na (by omega)).trans ((yup_na (by omega)).trans (hFq2301 316 12 rfl)))))
                    have tb2376 := hT.atp 316 12 0 12 rfl
                    have tb2377 := hTq2366.atp (336 + k.toNat) 0 0 9 (ft336_0 (by omega))
                    have tb2378 := hTq2366.atp (336 + k.toNat) 2 ((-1)) 47 (ft336_2 (by omega))
                    have tb2379 := hTq2366.atp (336 + k.toNat) 3 ((-1)) 47 (ft336_3 (by omega))
                    have tb2380 := hTq2366.atp (336 + k.toNat) 6 ((-1)) 11 (ft336_6 (by omega))
                    have tb2381 := hTq2366.atp (336 + k.toNat) 8 0 2 (ft336_8 (by omega))
                    have tb2382 := hTq2366.atp (336 + k.toNat) 9 ((-1)) 47 (ft336_9 (by omega))
                    have tb2383 := hTq2366.atp (336 + k.toNat) 10 ((-1)) 47 (ft336_10 (by omega))
                    exact y_retI c68_142 (y_fit1 (by omega)) ⟨rfl, hTq2366, hF2370, by omega, fun z hz => ((hFq2366 325 z ((wSv316_lt (by decide)).trans rfl)).trans ((hFq2313 325 z ((wSv316_lt (by decide)).trans rfl)).trans ((yup_na (by omega)).trans ((yup_na (by omega)).trans (hFq2301 325 z rfl)))))⟩
                  · refine y_iconst 138 c68_137 rfl ?_
                    refine y_goto 142 c68_138 rfl ?_
                    have tb2384 := hTq2366.atp 2 2 0 320 rfl
                    have es2385 : mq2366 316 13 = m 316 13 := ((hFq2366 316 13 ((wSv316_lt (by decide)).trans rfl)).trans ((hFq2313 316 13 ((wSv316_lt (by decide)).trans rfl)).trans ((yup_na (by omega)).trans ((yup_na (by omega)).trans (hFq2301 316 13 rfl)))))
                    have tb2386 := hT.atp 316 13 0 8 rfl
                    have es2387 : mq2366 316 12 = m 316 12 := ((hFq2366 316 12 ((wSv316_lt (by decide)).trans rfl)).trans ((hFq2313 316 12 ((wSv316_lt (by decide)).trans rfl)).trans ((yup_na (by omega)).trans ((yup_na (by omega)).trans (hFq2301 316 12 rfl)))))
                    have tb2388 := hT.atp 316 12 0 12 rfl
                    have tb2389 := hTq2366.atp (336 + k.toNat) 0 0 9 (ft336_0 (by omega))
                    have tb2390 := hTq2366.atp (336 + k.toNat) 2 ((-1)) 47 (ft336_2 (by omega))
                    have tb2391 := hTq2366.atp (336 + k.toNat) 3 ((-1)) 47 (ft336_3 (by omega))
                    have tb2392 := hTq2366.atp (336 + k.toNat) 6 ((-1)) 11 (ft336_6 (by omega))
                    have tb2393 := hTq2366.atp (336 + k.toNat) 8 0 2 (ft336_8 (by omega))
                    have tb2394 := hTq2366.atp (336 + k.toNat) 9 ((-1)) 47 (ft336_9 (by omega))
                    have tb2395 := hTq2366.atp (336 + k.toNat) 10 ((-1)) 47 (ft336_10 (by omega))
                    exact y_retI c68_142 (y_fit1 (by omega)) ⟨rfl, hTq2366, hF2370, by omega, fun z hz => ((hFq2366 325 z ((wSv316_lt (by decide)).trans rfl)).trans ((hFq2313 325 z ((wSv316_lt (by decide)).trans rfl)).trans ((yup_na (by omega)).trans ((yup_na (by omega)).trans (hFq2301 325 z rfl)))))⟩
              · refine y_aload 119 c68_118 rfl rfl rfl ?_
                refine y_aload 120 c68_119 rfl rfl rfl ?_
                have es2397 : mq2313 2 1 = m 2 1 := ((hFq2313 2 1 ((wSv316_lt (by decide)).trans rfl)).trans ((yup_na (by omega)).trans ((yup_na (by omega)).trans (hFq2301 2 1 rfl))))
                have es2398 : mq2313 316 10 = m 316 10 := ((hFq2313 316 10 ((wSv316_lt (by decide)).trans rfl)).trans ((yup_na (by omega)).trans ((yup_na (by omega)).trans (hFq2301 316 10 rfl))))
                have es2399 : mq2313 316 12 = m 316 12 := ((hFq2313 316 12 ((wSv316_lt (by decide)).trans rfl)).trans ((yup_na (by omega)).trans ((yup_na (by omega)).trans (hFq2301 316 12 rfl))))
                have tb2400 := hT.atp 316 12 0 12 rfl
                have tb2401 := hTq2313.atp (336 + k.toNat) 2 ((-1)) 47 (ft336_2 (by omega))
                have tb2402 := hTq2313.atp (336 + k.toNat) 3 ((-1)) 47 (ft336_3 (by omega))
                have tb2403 := hTq2313.atp (336 + k.toNat) 8 0 2 (ft336_8 (by omega))
                refine y_callIB 123 [.ref 2, .ref (336 + k.toNat)] [] c68_120 rfl rfl rfl rfl rfl (ycanO km66 ko2) (t66_316 hTq2313 he (by have e1 : mq2313 5 e.toNat = m 5 e.toNat := ((hFq2313 5 e.toNat ((wSv316_lt (by decide)).trans rfl)).trans ((yup_na (by omega)).trans ((yup_na (by omega)).trans (hFq2301 5 e.toNat rfl)))); omega) (by omega) (by omega) (k := k) (by omega) (by omega) (by omega) (by omega)) (fun rq2396 mq2396 nq2396 hq2396 => ?_)
                obtain ⟨rfl, hTq2396, hFq2396, hq2396⟩ := hq2396
                have hF2404 := hF2326.tr hFq2396 wSc316_wSs316
                have tb2405 := hTq2396.atp 2 2 0 320 rfl
                have es2406 : mq2396 316 13 = m 316 13 := ((hFq2396 316 13 ((wSc316_lt (by decide)).trans rfl)).trans ((hFq2313 316 13 ((wSv316_lt (by decide)).trans rfl)).trans ((yup_na (by omega)).trans ((yup_na (by omega)).trans (hFq2301 316 13 rfl)))))
                have tb2407 := hT.atp 316 13 0 8 rfl
                have tb2408 := hTq2396.atp 316 12 0 12 rfl
                have tb2409 := hTq2396.atp (336 + k.toNat) 0 0 9 (ft336_0 (by omega))
                have tb2410 := hTq2396.atp (336 + k.toNat) 2 ((-1)) 47 (ft336_2 (by omega))
                have tb2411 := hTq2396.atp (336 + k.toNat) 3 ((-1)) 47 (ft336_3 (by omega))
                have tb2412 := hTq2396.atp (336 + k.toNat) 6 ((-1)) 11 (ft336_6 (by omega))
                have tb2413 := hTq2396.atp (336 + k.toNat) 8 0 2 (ft336_8 (by omega))
                have tb2414 := hTq2396.atp (336 + k.toNat) 9 ((-1)) 47 (ft336_9 (by omega))
                have tb2415 := hTq2396.atp (336 + k.toNat) 10 ((-1)) 47 (ft336_10 (by omega))
                exact y_retI c68_123 (y_fit1 (by omega)) ⟨rfl, hTq2396, hF2404, by omega, fun z hz => ((hFq2396 325 z ((wSc316_lt (by decide)).trans rfl)).trans ((hFq2313 325 z ((wSv316_lt (by decide)).trans rfl)).trans ((yup_na (by omega)).trans ((yup_na (by omega)).trans (hFq2301 325 z rfl)))))⟩
          · refine y_iconst 99 c68_98 rfl ?_
            have tb2416 := hTq2313.atp 2 2 0 320 rfl
            have es2417 : mq2313 316 13 = m 316 13 := ((hFq2313 316 13 ((wSv316_lt (by decide)).trans rfl)).trans ((yup_na (by omega)).trans ((yup_na (by omega)).trans (hFq2301 316 13 rfl))))
            have tb2418 := hT.atp 316 13 0 8 rfl
            have es2419 : mq2313 316 12 = m 316 12 := ((hFq2313 316 12 ((wSv316_lt (by decide)).trans rfl)).trans ((yup_na (by omega)).trans ((yup_na (by omega)).trans (hFq2301 316 12 rfl))))
            have tb2420 := hT.atp 316 12 0 12 rfl
            have tb2421 := hTq2313.atp (336 + k.toNat) 0 0 9 (ft336_0 (by omega))
            have tb2422 := hTq2313.atp (336 + k.toNat) 2 ((-1)) 47 (ft336_2 (by omega))
            have tb2423 := hTq2313.atp (336 + k.toNat) 3 ((-1)) 47 (ft336_3 (by omega))
            have tb2424 := hTq2313.atp (336 + k.toNat) 6 ((-1)) 11 (ft336_6 (by omega))
            have tb2425 := hTq2313.atp (336 + k.toNat) 8 0 2 (ft336_8 (by omega))
            have tb2426 := hTq2313.atp (336 + k.toNat) 9 ((-1)) 47 (ft336_9 (by omega))
            have tb2427 := hTq2313.atp (336 + k.toNat) 10 ((-1)) 47 (ft336_10 (by omega))
            exact y_retI c68_99 (y_fit1 (by omega)) ⟨rfl, hTq2313, hF2326, by omega, fun z hz => ((hFq2313 325 z ((wSv316_lt (by decide)).trans rfl)).trans ((yup_na (by omega)).trans ((yup_na (by omega)).trans (hFq2301 325 z rfl))))⟩
        · exfalso; omega
      · exfalso; omega
    · refine y_iconst 26 c68_25 rfl ?_
      have tb2428 := hTq2301.atp 2 2 0 320 rfl
      have es2429 : mq2301 316 13 = m 316 13 := (hFq2301 316 13 rfl)
      have tb2430 := hT.atp 316 13 0 8 rfl
      have es2431 : mq2301 316 12 = m 316 12 := (hFq2301 316 12 rfl)
      have tb2432 := hT.atp 316 12 0 12 rfl
      have es2433 : mq2301 (336 + k.toNat) 0 = m (336 + k.toNat) 0 := (hFq2301 (336 + k.toNat) 0 wVr316_n336)
      have tb2434 := hT.atp (336 + k.toNat) 0 0 9 (ft336_0 (by omega))
      have es2435 : mq2301 (336 + k.toNat) 2 = m (336 + k.toNat) 2 := (hFq2301 (336 + k.toNat) 2 wVr316_n336)
      have tb2436 := hT.atp (336 + k.toNat) 2 ((-1)) 47 (ft336_2 (by omega))
      have es2437 : mq2301 (336 + k.toNat) 3 = m (336 + k.toNat) 3 := (hFq2301 (336 + k.toNat) 3 wVr316_n336)
      have tb2438 := hT.atp (336 + k.toNat) 3 ((-1)) 47 (ft336_3 (by omega))
      have es2439 : mq2301 (336 + k.toNat) 6 = m (336 + k.toNat) 6 := (hFq2301 (336 + k.toNat) 6 wVr316_n336)
      have tb2440 := hT.atp (336 + k.toNat) 6 ((-1)) 11 (ft336_6 (by omega))
      have es2441 : mq2301 (336 + k.toNat) 8 = m (336 + k.toNat) 8 := (hFq2301 (336 + k.toNat) 8 wVr316_n336)
      have tb2442 := hT.atp (336 + k.toNat) 8 0 2 (ft336_8 (by omega))
      have es2443 : mq2301 (336 + k.toNat) 9 = m (336 + k.toNat) 9 := (hFq2301 (336 + k.toNat) 9 wVr316_n336)
      have tb2444 := hT.atp (336 + k.toNat) 9 ((-1)) 47 (ft336_9 (by omega))
      have es2445 : mq2301 (336 + k.toNat) 10 = m (336 + k.toNat) 10 := (hFq2301 (336 + k.toNat) 10 wVr316_n336)
      have tb2446 := hT.atp (336 + k.toNat) 10 ((-1)) 47 (ft336_10 (by omega))
      exact y_retI c68_26 (y_fit1 (by omega)) ⟨rfl, hTq2301, hF2305, by omega, fun z hz => (hFq2301 325 z rfl)⟩
  · refine y_iconst 10 c68_9 rfl ?_
    refine y_goto 14 c68_10 rfl ?_
    refine y_istore 15 c68_14 rfl rfl ?_
    refine y_aload 16 c68_15 rfl rfl rfl ?_
    have tb2448 := hT.atp 2 1 ((-1)) 1 rfl
    have tb2449 := hT.atp 316 10 0 10 rfl
    have tb2450 := hT.atp 316 15 0 48 rfl
    refine y_callIB 19 [.ref 2] [] c68_16 rfl rfl rfl rfl rfl (ycanO km58 ko2) (t58_316 hT he hE (by omega) (by omega) (by omega)) (fun rq2447 mq2447 nq2447 hq2447 => ?_)
    obtain ⟨rfl, hTq2447, hFq2447, hq2447⟩ := hq2447
    have hF2451 := hF.tr hFq2447 wVr316_wSs316
    refine y_istore 20 c68_19 rfl rfl ?_
    refine y_iload 21 c68_20 rfl rfl ?_
    refine y_iconst 22 c68_21 rfl ?_
    refine y_icmp 27 25 c68_22 rfl rfl (yc_ne (by omega) (by omega)) (fun hb2452 => ?_) (fun hb2452 => ?_)
    · refine y_iload 28 c68_27 rfl rfl ?_
      refine y_if 44 31 c68_28 rfl rfl (yz_eq (by omega)) (fun hb2453 => ?_) (fun hb2453 => ?_)
      · exfalso; omega
      · refine y_aload 32 c68_31 rfl rfl rfl ?_
        have tb2454 := hTq2447.atp 2 2 0 320 rfl
        refine y_callP 35 [.ref 2] [] c68_32 rfl rfl rfl rfl rfl (ycanO km38 ko2) (t38 hTq2447 he (by have e1 : mq2447 5 e.toNat = m 5 e.toNat := (hFq2447 5 e.toNat rfl); omega) (by omega)) (fun r2455 hr2455 => ?_)
        refine y_iconst 37 c68_35 rfl ?_
        refine y_icmp 44 40 c68_37 rfl rfl (yc_ne (by omega) (by omega)) (fun hb2456 => ?_) (fun hb2456 => ?_)
        · refine y_iconst 45 c68_44 rfl ?_
          refine y_istore 47 c68_45 rfl rfl ?_
          refine y_iload 49 c68_47 rfl rfl ?_
          refine y_if 77 52 c68_49 rfl rfl (yz_eq (by omega)) (fun hb2457 => ?_) (fun hb2457 => ?_)
          · refine y_aload 78 c68_77 rfl rfl rfl ?_
            refine y_iload 79 c68_78 rfl rfl ?_
            refine y_putI 82 c68_79 rfl (ff336_3 (by omega)) (y_fit0 _) ?_
            have hT2458 := hTq2447.up (336 + k.toNat) 3 rq2447 ((-1)) 47 (ft336_3 (by omega)) (by omega)
            have hF2459 := hF2451.up (336 + k.toNat) 3 rq2447 (wSs316_s (by omega))
            refine y_aload 83 c68_82 rfl rfl rfl ?_
            refine y_iconst 85 c68_83 rfl ?_
            refine y_putI 88 c68_85 rfl (ff336_0 (by omega)) (y_fit0 _) ?_
            have hT2460 := hT2458.up (336 + k.toNat) 0 9 0 9 (ft336_0 (by omega)) (by omega)
            have hF2461 := hF2459.up (336 + k.toNat) 0 9 (wSs316_s (by omega))
            refine y_aload 89 c68_88 rfl rfl rfl ?_
            refine y_iconst 91 c68_89 rfl ?_
            refine y_aload 92 c68_91 rfl rfl rfl ?_
            have es2463 : (yup (yup mq2447 (336 + k.toNat) 3 rq2447) (336 + k.toNat) 0 9) 2 2 = mq2447 2 2 := ((yup_na (by omega)).trans (yup_na (by omega)))
            have es2464 : (yup (yup mq2447 (336 + k.toNat) 3 rq2447) (336 + k.toNat) 0 9) 2 1 = m 2 1 := ((yup_na (by omega)).trans ((yup_na (by omega)).trans (hFq2447 2 1 rfl)))
            have es2465 : (yup (yup mq2447 (336 + k.toNat) 3 rq2447) (336 + k.toNat) 0 9) 316 10 = m 316 10 := ((yup_na (by omega)).trans ((yup_na (by omega)).trans (hFq2447 316 10 rfl)))
            have es2466 : (yup (yup mq2447 (336 + k.toNat) 3 rq2447) (336 + k.toNat) 0 9) (336 + k.toNat) 0 = 9 := (yup_eq _ _ _ _)
            have es2467 : (yup (yup mq2447 (336 + k.toNat) 3 rq2447) (336 + k.toNat) 0 9) (336 + k.toNat) 2 = m (336 + k.toNat) 2 := ((yup_nk (by decide)).trans ((yup_nk (by decide)).trans (hFq2447 (336 + k.toNat) 2 wVr316_n336)))
            have tb2468 := hT.atp (336 + k.toNat) 2 ((-1)) 47 (ft336_2 (by omega))
            have es2469 : (yup (yup mq2447 (336 + k.toNat) 3 rq2447) (336 + k.toNat) 0 9) (336 + k.toNat) 3 = rq2447 := ((yup_nk (by decide)).trans (yup_eq _ _ _ _))
            have es2470 : (yup (yup mq2447 (336 + k.toNat) 3 rq2447) (336 + k.toNat) 0 9) (336 + k.toNat) 6 = m (336 + k.toNat) 6 := ((yup_nk (by decide)).trans ((yup_nk (by decide)).trans (hFq2447 (336 + k.toNat) 6 wVr316_n336)))
            have tb2471 := hT.atp (336 + k.toNat) 6 ((-1)) 11 (ft336_6 (by omega))
            have es2472 : (yup (yup mq2447 (336 + k.toNat) 3 rq2447) (336 + k.toNat) 0 9) (336 + k.toNat) 8 = m (336 + k.toNat) 8 := ((yup_nk (by decide)).trans ((yup_nk (by decide)).trans (hFq2447 (336 + k.toNat) 8 wVr316_n336)))
            have tb2473 := hT.atp (336 + k.toNat) 8 0 2 (ft336_8 (by omega))
            refine y_callIB 95 [.ref 2, yI 46, .ref (336 + k.toNat)] [] c68_92 rfl rfl rfl rfl rfl (ycanO km62 ko2) (t62_316 hT2460 he (by have e1 : (yup (yup mq2447 (336 + k.toNat) 3 rq2447) (336 + k.toNat) 0 9) 5 e.toNat = m 5 e.toNat := ((yup_na (by omega)).trans ((yup_na (by omega)).trans (hFq2447 5 e.toNat rfl))); omega) (by omega) (by omega) (k := k) (by omega) (by omega) (by omega)) (fun rq2462 mq2462 nq2462 hq2462 => ?_)
            obtain ⟨rfl, hTq2462, hFq2462, hq2462⟩ := hq2462
            have hF2474 := hF2461.tr hFq2462 wSv316_wSs316
            refine y_if 100 98 c68_95 rfl rfl (yz_ne (by omega)) (fun hb2475 => ?_) (fun hb2475 => ?_)
            · refine y_aload 101 c68_100 rfl rfl rfl ?_
              refine y_getX 104 (mq2462 (336 + k.toNat) 0) c68_101 rfl (ff336_0 (by omega)) rfl ?_
              have tb2476 := hTq2462.atp (336 + k.toNat) 0 0 9 (ft336_0 (by omega))
              refine y_iconst 106 c68_104 rfl ?_
              refine y_icmp 124 109 c68_106 rfl rfl (yc_ne (by omega) (by omega)) (fun hb2477 => ?_) (fun hb2477 => ?_)
              · refine y_iload 126 c68_124 rfl rfl ?_
                refine y_if 137 129 c68_126 rfl rfl (yz_ne (by omega)) (fun hb2478 => ?_) (fun hb2478 => ?_)
                · exfalso; omega
                · refine y_aload 130 c68_129 rfl rfl rfl ?_
                  refine y_aload 131 c68_130 rfl rfl rfl ?_
                  have tb2480 := hTq2462.atp 2 2 0 320 rfl
                  have es2481 : mq2462 2 1 = m 2 1 := ((hFq2462 2 1 ((wSv316_lt (by decide)).trans rfl)).trans ((yup_na (by omega)).trans ((yup_na (by omega)).trans (hFq2447 2 1 rfl))))
                  have es2482 : mq2462 316 10 = m 316 10 := ((hFq2462 316 10 ((wSv316_lt (by decide)).trans rfl)).trans ((yup_na (by omega)).trans ((yup_na (by omega)).trans (hFq2447 316 10 rfl))))
                  have tb2483 := hTq2462.atp (336 + k.toNat) 3 ((-1)) 47 (ft336_3 (by omega))
                  refine y_callIB 134 [.ref 2, .ref (336 + k.toNat)] [] c68_131 rfl rfl rfl rfl rfl (ycanO km67 ko2) (t67_316 hTq2462 he (by have e1 : mq2462 5 e.toNat = m 5 e.toNat := ((hFq2462 5 e.toNat ((wSv316_lt (by decide)).trans rfl)).trans ((yup_na (by omega)).trans ((yup_na (by omega)).trans (hFq2447 5 e.toNat rfl)))); omega) (by omega) (by omega) (k := k) (by omega) (by omega) (by omega)) (fun rq2479 mq2479 nq2479 hq2479 => ?_)
                  obtain ⟨rfl, hTq2479, hFq2479, hq2479⟩ := hq2479
                  have hF2484 := hF2474.tr hFq2479 wSv316_wSs316
                  refine y_if 141 137 c68_134 rfl rfl (yz_eq (by omega)) (fun hb2485 => ?_) (fun hb2485 => ?_)
                  · refine y_iconst 142 c68_141 rfl ?_
                    have tb2486 := hTq2479.atp 2 2 0 320 rfl
                    have es2487 : mq2479 316 13 = m 316 13 := ((hFq2479 316 13 ((wSv316_lt (by decide)).trans rfl)).trans ((hFq2462 316 13 ((wSv316_lt (by decide)).trans rfl)).trans ((yup_na (by omega)).trans ((yup_na (by omega)).trans (hFq2447 316 13 rfl)))))
                    have tb2488 := hT.atp 316 13 0 8 rfl
                    have es2489 : mq2479 316 12 = m 316 12 := ((hFq2479 316 12 ((wSv316_lt (by decide)).trans rfl)).trans ((hFq2462 316 12 ((wSv316_lt (by decide)).trans rfl)).trans ((yup_na (by omega)).trans ((yup_na (by omega)).trans (hFq2447 316 12 rfl)))))
                    have tb2490 := hT.atp 316 12 0 12 rfl
                    have tb2491 := hTq2479.atp (336 + k.toNat) 0 0 9 (ft336_0 (by omega))
                    have tb2492 := hTq2479.atp (336 + k.toNat) 2 ((-1)) 47 (ft336_2 (by omega))
                    have tb2493 := hTq2479.atp (336 + k.toNat) 3 ((-1)) 47 (ft336_3 (by omega))
                    have tb2494 := hTq2479.atp (336 + k.toNat) 6 ((-1)) 11 (ft336_6 (by omega))
                    have tb2495 := hTq2479.atp (336 + k.toNat) 8 0 2 (ft336_8 (by omega))
                    have tb2496 := hTq2479.atp (336 + k.toNat) 9 ((-1)) 47 (ft336_9 (by omega))
                    have tb2497 := hTq2479.atp (336 + k.toNat) 10 ((-1)) 47 (ft336_10 (by omega))
                    exact y_retI c68_142 (y_fit1 (by omega)) ⟨rfl, hTq2479, hF2484, by omega, fun z hz => ((hFq2479 325 z ((wSv316_lt (by decide)).trans rfl)).trans ((hFq2462 325 z ((wSv316_lt (by decide)).trans rfl)).trans ((yup_na (by omega)).trans ((yup_na (by omega)).trans (hFq2447 325 z rfl)))))⟩
                  · refine y_iconst 138 c68_137 rfl ?_
                    refine y_goto 142 c68_138 rfl ?_
                    have tb2498 := hTq2479.atp 2 2 0 320 rfl
                    have es2499 : mq2479 316 13 = m 316 13 := ((hFq2479 316 13 ((wSv316_lt (by decide)).trans rfl)).trans ((hFq2462 316 13 ((wSv316_lt (by decide)).trans rfl)).trans ((yup_na (by omega)).trans ((yup_na (by omega)).trans (hFq2447 316 13 rfl)))))
                    have tb2500 := hT.atp 316 13 0 8 rfl
                    have es2501 : mq2479 316 12 = m 316 12 := ((hFq2479 316 12 ((wSv316_lt (by decide)).trans rfl)).trans ((hFq2462 316 12 ((wSv316_lt (by decide)).trans rfl)).trans ((yup_na (by omega)).trans ((yup_na (by omega)).trans (hFq2447 316 12 rfl)))))
                    have tb2502 := hT.atp 316 12 0 12 rfl
                    have tb2503 := hTq2479.atp (336 + k.toNat) 0 0 9 (ft336_0 (by omega))
                    have tb2504 := hTq2479.atp (336 + k.toNat) 2 ((-1)) 47 (ft336_2 (by omega))
                    have tb2505 := hTq2479.atp (336 + k.toNat) 3 ((-1)) 47 (ft336_3 (by omega))
                    have tb2506 := hTq2479.atp (336 + k.toNat) 6 ((-1)) 11 (ft336_6 (by omega))
                    have tb2507 := hTq2479.atp (336 + k.toNat) 8 0 2 (ft336_8 (by omega))
                    have tb2508 := hTq2479.atp (336 + k.toNat) 9 ((-1)) 47 (ft336_9 (by omega))
                    have tb2509 := hTq2479.atp (336 + k.toNat) 10 ((-1)) 47 (ft336_10 (by omega))
                    exact y_retI c68_142 (y_fit1 (by omega)) ⟨rfl, hTq2479, hF2484, by omega, fun z hz => ((hFq2479 325 z ((wSv316_lt (by decide)).trans rfl)).trans ((hFq2462 325 z ((wSv316_lt (by decide)).trans rfl)).trans ((yup_na (by omega)).trans ((yup_na (by omega)).trans (hFq2447 325 z rfl)))))⟩
              · refine y_aload 110 c68_109 rfl rfl rfl ?_
                have tb2510 := hTq2462.atp 2 2 0 320 rfl
                refine y_callP 113 [.ref 2] [] c68_110 rfl rfl rfl rfl rfl (ycanO km38 ko2) (t38 hTq2462 he (by have e1 : mq2462 5 e.toNat = m 5 e.toNat := ((hFq2462 5 e.toNat ((wSv316_lt (by decide)).trans rfl)).trans ((yup_na (by omega)).trans ((yup_na (by omega)).trans (hFq2447 5 e.toNat rfl)))); omega) (by omega)) (fun r2511 hr2511 => ?_)
                refine y_iconst 115 c68_113 rfl ?_
                refine y_icmp 124 118 c68_115 rfl rfl (yc_ne (by omega) (by omega)) (fun hb2512 => ?_) (fun hb2512 => ?_)
                · refine y_iload 126 c68_124 rfl rfl ?_
                  refine y_if 137 129 c68_126 rfl rfl (yz_ne (by omega)) (fun hb2513 => ?_) (fun hb2513 => ?_)
                  · exfalso; omega
                  · refine y_aload 130 c68_129 rfl rfl rfl ?_
                    refine y_aload 131 c68_130 rfl rfl rfl ?_
                    have es2515 : mq2462 2 1 = m 2 1 := ((hFq2462 2 1 ((wSv316_lt (by decide)).trans rfl)).trans ((yup_na (by omega)).trans ((yup_na (by omega)).trans (hFq2447 2 1 rfl))))
                    have es2516 : mq2462 316 10 = m 316 10 := ((hFq2462 316 10 ((wSv316_lt (by decide)).trans rfl)).trans ((yup_na (by omega)).trans ((yup_na (by omega)).trans (hFq2447 316 10 rfl))))
                    have tb2517 := hTq2462.atp (336 + k.toNat) 3 ((-1)) 47 (ft336_3 (by omega))
                    refine y_callIB 134 [.ref 2, .ref (336 + k.toNat)] [] c68_131 rfl rfl rfl rfl rfl (ycanO km67 ko2) (t67_316 hTq2462 he (by have e1 : mq2462 5 e.toNat = m 5 e.toNat := ((hFq2462 5 e.toNat ((wSv316_lt (by decide)).trans rfl)).trans ((yup_na (by omega)).trans ((yup_na (by omega)).trans (hFq2447 5 e.toNat rfl)))); omega) (by omega) (by omega) (k := k) (by omega) (by omega) (by omega)) (fun rq2514 mq2514 nq2514 hq2514 => ?_)
                    obtain ⟨rfl, hTq2514, hFq2514, hq2514⟩ := hq2514
                    have hF2518 := hF2474.tr hFq2514 wSv316_wSs316
                    refine y_if 141 137 c68_134 rfl rfl (yz_eq (by omega)) (fun hb2519 => ?_) (fun hb2519 => ?_)
                    · refine y_iconst 142 c68_141 rfl ?_
                      have tb2520 := hTq2514.atp 2 2 0 320 rfl
                      have es2521 : mq2514 316 13 = m 316 13 := ((hFq2514 316 13 ((wSv316_lt (by decide)).trans rfl)).trans ((hFq2462 316 13 ((wSv316_lt (by decide)).trans rfl)).trans ((yup_na (by omega)).trans ((yup_na (by omega)).trans (hFq2447 316 13 rfl)))))
                      have tb2522 := hT.atp 316 13 0 8 rfl
                      have es2523 : mq2514 316 12 = m 316 12 := ((hFq2514 316 12 ((wSv316_lt (by decide)).trans rfl)).trans ((hFq2462 316 12 ((wSv316_lt (by decide)).trans rfl)).trans ((yup_na (by omega)).trans ((yup_na (by omega)).trans (hFq2447 316 12 rfl)))))
                      have tb2524 := hT.atp 316 12 0 12 rfl
                      have tb2525 := hTq2514.atp (336 + k.toNat) 0 0 9 (ft336_0 (by omega))
                      have tb2526 := hTq2514.atp (336 + k.toNat) 2 ((-1)) 47 (ft336_2 (by omega))
                      have tb2527 := hTq2514.atp (336 + k.toNat) 3 ((-1)) 47 (ft336_3 (by omega))
                      have tb2528 := hTq2514.atp (336 + k.toNat) 6 ((-1)) 11 (ft336_6 (by omega))
                      have tb2529 := hTq2514.atp (336 + k.toNat) 8 0 2 (ft336_8 (by omega))
                      have tb2530 := hTq2514.atp (336 + k.toNat) 9 ((-1)) 47 (ft336_9 (by omega))
                      have tb2531 := hTq2514.atp (336 + k.toNat) 10 ((-1)) 47 (ft336_10 (by omega))
                      exact y_retI c68_142 (y_fit1 (by omega)) ⟨rfl, hTq2514, hF2518, by omega, fun z hz => ((hFq2514 325 z ((wSv316_lt (by decide)).trans rfl)).trans ((hFq2462 325 z ((wSv316_lt (by decide)).trans rfl)).trans ((yup_na (by omega)).trans ((yup_na (by omega)).trans (hFq2447 325 z rfl)))))⟩
                    · refine y_iconst 138 c68_137 rfl ?_
                      refine y_goto 142 c68_138 rfl ?_
                      have tb2532 := hTq2514.atp 2 2 0 320 rfl
                      have es2533 : mq2514 316 13 = m 316 13 := ((hFq2514 316 13 ((wSv316_lt (by decide)).trans rfl)).trans ((hFq2462 316 13 ((wSv316_lt (by decide)).trans rfl)).trans ((yup_na (by omega)).trans ((yup_na (by omega)).trans (hFq2447 316 13 rfl)))))
                      have tb2534 := hT.atp 316 13 0 8 rfl
                      have es2535 : mq2514 316 12 = m 316 12 := ((hFq2514 316 12 ((wSv316_lt (by decide)).trans rfl)).trans ((hFq2462 316 12 ((wSv316_lt (by decide)).trans rfl)).trans ((yup_na (by omega)).trans ((yup_na (by omega)).trans (hFq2447 316 12 rfl)))))
                      have tb2536 := hT.atp 316 12 0 12 rfl
                      have tb2537 := hTq2514.atp (336 + k.toNat) 0 0 9 (ft336_0 (by omega))
                      have tb2538 := hTq2514.atp (336 + k.toNat) 2 ((-1)) 47 (ft336_2 (by omega))
                      have tb2539 := hTq2514.atp (336 + k.toNat) 3 ((-1)) 47 (ft336_3 (by omega))
                      have tb2540 := hTq2514.atp (336 + k.toNat) 6 ((-1)) 11 (ft336_6 (by omega))
                      have tb2541 := hTq2514.atp (336 + k.toNat) 8 0 2 (ft336_8 (by omega))
                      have tb2542 := hTq2514.atp (336 + k.toNat) 9 ((-1)) 47 (ft336_9 (by omega))
                      have tb2543 := hTq2514.atp (336 + k.toNat) 10 ((-1)) 47 (ft336_10 (by omega))
                      exact y_retI c68_142 (y_fit1 (by omega)) ⟨rfl, hTq2514, hF2518, by omega, fun z hz => ((hFq2514 325 z ((wSv316_lt (by decide)).trans rfl)).trans ((hFq2462 325 z ((wSv316_lt (by decide)).trans rfl)).trans ((yup_na (by omega)).trans ((yup_na (by omega)).trans (hFq2447 325 z rfl)))))⟩
                · refine y_aload 119 c68_118 rfl rfl rfl ?_
                  refine y_aload 120 c68_119 rfl rfl rfl ?_
                  have es2545 : mq2462 2 1 = m 2 1 := ((hFq2462 2 1 ((wSv316_lt (by decide)).trans rfl)).trans ((yup_na (by omega)).trans ((yup_na (by omega)).trans (hFq2447 2 1 rfl))))
                  have es2546 : mq2462 316 10 = m 316 10 := ((hFq2462 316 10 ((wSv316_lt (by decide)).trans rfl)).trans ((yup_na (by omega)).trans ((yup_na (by omega)).trans (hFq2447 316 10 rfl))))
                  have es2547 : mq2462 316 12 = m 316 12 := ((hFq2462 316 12 ((wSv316_lt (by decide)).trans rfl)).trans ((yup_na (by omega)).trans ((yup_na (by omega)).trans (hFq2447 316 12 rfl))))
                  have tb2548 := hT.atp 316 12 0 12 rfl
                  have tb2549 := hTq2462.atp (336 + k.toNat) 2 ((-1)) 47 (ft336_2 (by omega))
                  have tb2550 := hTq2462.atp (336 + k.toNat) 3 ((-1)) 47 (ft336_3 (by omega))
                  have tb2551 := hTq2462.atp (336 + k.toNat) 8 0 2 (ft336_8 (by omega))
                  refine y_callIB 123 [.ref 2, .ref (336 + k.toNat)] [] c68_120 rfl rfl rfl rfl rfl (ycanO km66 ko2) (t66_316 hTq2462 he (by have e1 : mq2462 5 e.toNat = m 5 e.toNat := ((hFq2462 5 e.toNat ((wSv316_lt (by decide)).trans rfl)).trans ((yup_na (by omega)).trans ((yup_na (by omega)).trans (hFq2447 5 e.toNat rfl)))); omega) (by omega) (by omega) (k := k) (by omega) (by omega) (by omega) (by omega)) (fun rq2544 mq2544 nq2544 hq2544 => ?_)
                  obtain ⟨rfl, hTq2544, hFq2544, hq2544⟩ := hq2544
                  have hF2552 := hF2474.tr hFq2544 wSc316_wSs316
                  have tb2553 := hTq2544.atp 2 2 0 320 rfl
                  have es2554 : mq2544 316 13 = m 316 13 := ((hFq2544 316 13 ((wSc316_lt (by decide)).trans rfl)).trans ((hFq2462 316 13 ((wSv316_lt (by decide)).trans rfl)).trans ((yup_na (by omega)).trans ((yup_na (by omega)).trans (hFq2447 316 13 rfl)))))
                  have tb2555 := hT.atp 316 13 0 8 rfl
                  have tb2556 := hTq2544.atp 316 12 0 12 rfl
                  have tb2557 := hTq2544.atp (336 + k.toNat) 0 0 9 (ft336_0 (by omega))
                  have tb2558 := hTq2544.atp (336 + k.toNat) 2 ((-1)) 47 (ft336_2 (by omega))
                  have tb2559 := hTq2544.atp (336 + k.toNat) 3 ((-1)) 47 (ft336_3 (by omega))
                  have tb2560 := hTq2544.atp (336 + k.toNat) 6 ((-1)) 11 (ft336_6 (by omega))
                  have tb2561 := hTq2544.atp (336 + k.toNat) 8 0 2 (ft336_8 (by omega))
                  have tb2562 := hTq2544.atp (336 + k.toNat) 9 ((-1)) 47 (ft336_9 (by omega))
                  have tb2563 := hTq2544.atp (336 + k.toNat) 10 ((-1)) 47 (ft336_10 (by omega))
                  exact y_retI c68_123 (y_fit1 (by omega)) ⟨rfl, hTq2544, hF2552, by omega, fun z hz => ((hFq2544 325 z ((wSc316_lt (by decide)).trans rfl)).trans ((hFq2462 325 z ((wSv316_lt (by decide)).trans rfl)).trans ((yup_na (by omega)).trans ((yup_na (by omega)).trans (hFq2447 325 z rfl)))))⟩
            · refine y_iconst 99 c68_98 rfl ?_
              have tb2564 := hTq2462.atp 2 2 0 320 rfl
              have es2565 : mq2462 316 13 = m 316 13 := ((hFq2462 316 13 ((wSv316_lt (by decide)).trans rfl)).trans ((yup_na (by omega)).trans ((yup_na (by omega)).trans (hFq2447 316 13 rfl))))
              have tb2566 := hT.atp 316 13 0 8 rfl
              have es2567 : mq2462 316 12 = m 316 12 := ((hFq2462 316 12 ((wSv316_lt (by decide)).trans rfl)).trans ((yup_na (by omega)).trans ((yup_na (by omega)).trans (hFq2447 316 12 rfl))))
              have tb2568 := hT.atp 316 12 0 12 rfl
              have tb2569 := hTq2462.atp (336 + k.toNat) 0 0 9 (ft336_0 (by omega))
              have tb2570 := hTq2462.atp (336 + k.toNat) 2 ((-1)) 47 (ft336_2 (by omega))
              have tb2571 := hTq2462.atp (336 + k.toNat) 3 ((-1)) 47 (ft336_3 (by omega))
              have tb2572 := hTq2462.atp (336 + k.toNat) 6 ((-1)) 11 (ft336_6 (by omega))
              have tb2573 := hTq2462.atp (336 + k.toNat) 8 0 2 (ft336_8 (by omega))
              have tb2574 := hTq2462.atp (336 + k.toNat) 9 ((-1)) 47 (ft336_9 (by omega))
              have tb2575 := hTq2462.atp (336 + k.toNat) 10 ((-1)) 47 (ft336_10 (by omega))
              exact y_retI c68_99 (y_fit1 (by omega)) ⟨rfl, hTq2462, hF2474, by omega, fun z hz => ((hFq2462 325 z ((wSv316_lt (by decide)).trans rfl)).trans ((yup_na (by omega)).trans ((yup_na (by omega)).trans (hFq2447 325 z rfl))))⟩
          · exfalso; omega
        · refine y_iconst 41 c68_40 rfl ?_
          refine y_goto 45 c68_41 rfl ?_
          refine y_istore 47 c68_45 rfl rfl ?_
          refine y_iload 49 c68_47 rfl rfl ?_
          refine y_if 77 52 c68_49 rfl rfl (yz_eq (by omega)) (fun hb2576 => ?_) (fun hb2576 => ?_)
          · exfalso; omega
          · refine y_aload 53 c68_52 rfl rfl rfl ?_
            refine y_iload 54 c68_53 rfl rfl ?_
            refine y_putI 57 c68_54 rfl (ff336_2 (by omega)) (y_fit0 _) ?_
            have hT2577 := hTq2447.up (336 + k.toNat) 2 rq2447 ((-1)) 47 (ft336_2 (by omega)) (by omega)
            have hF2578 := hF2451.up (336 + k.toNat) 2 rq2447 (wSs316_s (by omega))
            refine y_aload 58 c68_57 rfl rfl rfl ?_
            refine y_dup 59 c68_58 rfl rfl ?_
            refine y_getX 62 (mq2447 2 2) c68_59 rfl kf2_2 (yup_na (by omega)) ?_
            refine y_iconst 63 c68_62 rfl ?_
            refine y_iadd 64 c68_63 rfl ?_
            refine y_putI 67 c68_64 rfl kf2_2 (y_fit0 _) ?_
            have hT2579 := hT2577.up 2 2 ((mq2447 2 2) + 1) 0 320 rfl (by omega)
            have hF2580 := hF2578.up 2 2 ((mq2447 2 2) + 1) rfl
            refine y_aload 68 c68_67 rfl rfl rfl ?_
            refine y_aload 69 c68_68 rfl rfl rfl ?_
            have es2582 : (yup (yup mq2447 (336 + k.toNat) 2 rq2447) 2 2 ((mq2447 2 2) + 1)) 2 2 = (mq2447 2 2) + 1 := rfl
            have es2583 : (yup (yup mq2447 (336 + k.toNat) 2 rq2447) 2 2 ((mq2447 2 2) + 1)) 2 1 = m 2 1 := ((yup_nk (by decide)).trans ((yup_na (by omega)).trans (hFq2447 2 1 rfl)))
            have es2584 : (yup (yup mq2447 (336 + k.toNat) 2 rq2447) 2 2 ((mq2447 2 2) + 1)) 316 10 = m 316 10 := ((yup_na (by decide)).trans ((yup_na (by omega)).trans (hFq2447 316 10 rfl)))
            have es2585 : (yup (yup mq2447 (336 + k.toNat) 2 rq2447) 2 2 ((mq2447 2 2) + 1)) 316 16 = m 316 16 := ((yup_na (by decide)).trans ((yup_na (by omega)).trans (hFq2447 316 16 rfl)))
            have tb2586 := hT.atp 316 16 0 40 rfl
            have es2587 : (yup (yup mq2447 (336 + k.toNat) 2 rq2447) 2 2 ((mq2447 2 2) + 1)) (336 + k.toNat) 2 = rq2447 := ((yup_na (by omega)).trans (yup_eq _ _ _ _))
            have es2588 : (yup (yup mq2447 (336 + k.toNat) 2 rq2447) 2 2 ((mq2447 2 2) + 1)) (336 + k.toNat) 8 = m (336 + k.toNat) 8 := ((yup_na (by omega)).trans ((yup_nk (by decide)).trans (hFq2447 (336 + k.toNat) 8 wVr316_n336)))
            have tb2589 := hT.atp (336 + k.toNat) 8 0 2 (ft336_8 (by omega))
            have e13q2581 : (yup (yup mq2447 (336 + k.toNat) 2 rq2447) 2 2 ((mq2447 2 2) + 1)) 316 13 = m 316 13 := ((yup_na (by decide)).trans ((yup_na (by omega)).trans (hFq2447 316 13 rfl)))
            refine y_callIB 72 [.ref 2, .ref (336 + k.toNat)] [] c68_69 rfl rfl rfl rfl rfl (ycanO km64 ko2) (t64_316 hT2579 he (by have e1 : (yup (yup mq2447 (336 + k.toNat) 2 rq2447) 2 2 ((mq2447 2 2) + 1)) 5 e.toNat = m 5 e.toNat := ((yup_na (by decide)).trans ((yup_na (by omega)).trans (hFq2447 5 e.toNat rfl))); omega) (by omega) (by omega) (k := k) (by omega) (by omega) (by omega)) (fun rq2581 mq2581 nq2581 hq2581 => ?_)
            obtain ⟨rfl, hTq2581, hFq2581, hq2581, hZq2581⟩ := hq2581
            rw [e13q2581] at hq2581 hZq2581
            have hF2590 := hF2580.tr hFq2581 wSr316_wSs316
            refine y_if 100 75 c68_72 rfl rfl (yz_ne (by omega)) (fun hb2591 => ?_) (fun hb2591 => ?_)
            · refine y_aload 101 c68_100 rfl rfl rfl ?_
              refine y_getX 104 (mq2581 (336 + k.toNat) 0) c68_101 rfl (ff336_0 (by omega)) rfl ?_
              have tb2592 := hTq2581.atp (336 + k.toNat) 0 0 9 (ft336_0 (by omega))
              refine y_iconst 106 c68_104 rfl ?_
              refine y_icmp 124 109 c68_106 rfl rfl (yc_ne (by omega) (by omega)) (fun hb2593 => ?_) (fun hb2593 => ?_)
              · refine y_iload 126 c68_124 rfl rfl ?_
                refine y_if 137 129 c68_126 rfl rfl (yz_ne (by omega)) (fun hb2594 => ?_) (fun hb2594 => ?_)
                · refine y_iconst 138 c68_137 rfl ?_
                  refine y_goto 142 c68_138 rfl ?_
                  have tb2595 := hTq2581.atp 2 2 0 320 rfl
                  have tb2596 := hTq2581.atp 316 13 0 8 rfl
                  have es2597 : mq2581 316 12 = m 316 12 := ((hFq2581 316 12 ((wSr316_lt (by decide)).trans rfl)).trans ((yup_na (by decide)).trans ((yup_na (by omega)).trans (hFq2447 316 12 rfl))))
                  have tb2598 := hT.atp 316 12 0 12 rfl
                  have tb2599 := hTq2581.atp (336 + k.toNat) 2 ((-1)) 47 (ft336_2 (by omega))
                  have tb2600 := hTq2581.atp (336 + k.toNat) 3 ((-1)) 47 (ft336_3 (by omega))
                  have tb2601 := hTq2581.atp (336 + k.toNat) 6 ((-1)) 11 (ft336_6 (by omega))
                  have tb2602 := hTq2581.atp (336 + k.toNat) 8 0 2 (ft336_8 (by omega))
                  have tb2603 := hTq2581.atp (336 + k.toNat) 9 ((-1)) 47 (ft336_9 (by omega))
                  have tb2604 := hTq2581.atp (336 + k.toNat) 10 ((-1)) 47 (ft336_10 (by omega))
                  exact y_retI c68_142 (y_fit1 (by omega)) ⟨rfl, hTq2581, hF2590, by omega, fun z hz => ((hZq2581 z hz).trans ((yup_na (by decide)).trans ((yup_na (by omega)).trans (hFq2447 325 z rfl))))⟩
                · exfalso; omega
              · refine y_aload 110 c68_109 rfl rfl rfl ?_
                have tb2605 := hTq2581.atp 2 2 0 320 rfl
                refine y_callP 113 [.ref 2] [] c68_110 rfl rfl rfl rfl rfl (ycanO km38 ko2) (t38 hTq2581 he (by have e1 : mq2581 5 e.toNat = m 5 e.toNat := ((hFq2581 5 e.toNat ((wSr316_lt (by decide)).trans rfl)).trans ((yup_na (by decide)).trans ((yup_na (by omega)).trans (hFq2447 5 e.toNat rfl)))); omega) (by omega)) (fun r2606 hr2606 => ?_)
                refine y_iconst 115 c68_113 rfl ?_
                refine y_icmp 124 118 c68_115 rfl rfl (yc_ne (by omega) (by omega)) (fun hb2607 => ?_) (fun hb2607 => ?_)
                · refine y_iload 126 c68_124 rfl rfl ?_
                  refine y_if 137 129 c68_126 rfl rfl (yz_ne (by omega)) (fun hb2608 => ?_) (fun hb2608 => ?_)
                  · refine y_iconst 138 c68_137 rfl ?_
                    refine y_goto 142 c68_138 rfl ?_
                    have tb2609 := hTq2581.atp 316 13 0 8 rfl
                    have es2610 : mq2581 316 12 = m 316 12 := ((hFq2581 316 12 ((wSr316_lt (by decide)).trans rfl)).trans ((yup_na (by decide)).trans ((yup_na (by omega)).trans (hFq2447 316 12 rfl))))
                    have tb2611 := hT.atp 316 12 0 12 rfl
                    have tb2612 := hTq2581.atp (336 + k.toNat) 2 ((-1)) 47 (ft336_2 (by omega))
                    have tb2613 := hTq2581.atp (336 + k.toNat) 3 ((-1)) 47 (ft336_3 (by omega))
                    have tb2614 := hTq2581.atp (336 + k.toNat) 6 ((-1)) 11 (ft336_6 (by omega))
                    have tb2615 := hTq2581.atp (336 + k.toNat) 8 0 2 (ft336_8 (by omega))
                    have tb2616 := hTq2581.atp (336 + k.toNat) 9 ((-1)) 47 (ft336_9 (by omega))
                    have tb2617 := hTq2581.atp (336 + k.toNat) 10 ((-1)) 47 (ft336_10 (by omega))
                    exact y_retI c68_142 (y_fit1 (by omega)) ⟨rfl, hTq2581, hF2590, by omega, fun z hz => ((hZq2581 z hz).trans ((yup_na (by decide)).trans ((yup_na (by omega)).trans (hFq2447 325 z rfl))))⟩
                  · exfalso; omega
                · refine y_aload 119 c68_118 rfl rfl rfl ?_
                  refine y_aload 120 c68_119 rfl rfl rfl ?_
                  have es2619 : mq2581 2 1 = m 2 1 := ((hFq2581 2 1 ((wSr316_lt (by decide)).trans rfl)).trans ((yup_nk (by decide)).trans ((yup_na (by omega)).trans (hFq2447 2 1 rfl))))
                  have es2620 : mq2581 316 10 = m 316 10 := ((hFq2581 316 10 ((wSr316_lt (by decide)).trans rfl)).trans ((yup_na (by decide)).trans ((yup_na (by omega)).trans (hFq2447 316 10 rfl))))
                  have es2621 : mq2581 316 12 = m 316 12 := ((hFq2581 316 12 ((wSr316_lt (by decide)).trans rfl)).trans ((yup_na (by decide)).trans ((yup_na (by omega)).trans (hFq2447 316 12 rfl))))
                  have tb2622 := hT.atp 316 12 0 12 rfl
                  have tb2623 := hTq2581.atp (336 + k.toNat) 2 ((-1)) 47 (ft336_2 (by omega))
                  have tb2624 := hTq2581.atp (336 + k.toNat) 3 ((-1)) 47 (ft336_3 (by omega))
                  have tb2625 := hTq2581.atp (336 + k.toNat) 8 0 2 (ft336_8 (by omega))
                  refine y_callIB 123 [.ref 2, .ref (336 + k.toNat)] [] c68_120 rfl rfl rfl rfl rfl (ycanO km66 ko2) (t66_316 hTq2581 he (by have e1 : mq2581 5 e.toNat = m 5 e.toNat := ((hFq2581 5 e.toNat ((wSr316_lt (by decide)).trans rfl)).trans ((yup_na (by decide)).trans ((yup_na (by omega)).trans (hFq2447 5 e.toNat rfl)))); omega) (by omega) (by omega) (k := k) (by omega) (by omega) (by omega) (by omega)) (fun rq2618 mq2618 nq2618 hq2618 => ?_)
                  obtain ⟨rfl, hTq2618, hFq2618, hq2618⟩ := hq2618
                  have hF2626 := hF2590.tr hFq2618 wSc316_wSs316
                  have tb2627 := hTq2618.atp 2 2 0 320 rfl
                  have es2628 : mq2618 316 13 = mq2581 316 13 := (hFq2618 316 13 ((wSc316_lt (by decide)).trans rfl))
                  have tb2629 := hTq2581.atp 316 13 0 8 rfl
                  have tb2630 := hTq2618.atp 316 12 0 12 rfl
                  have tb2631 := hTq2618.atp (336 + k.toNat) 0 0 9 (ft336_0 (by omega))
                  have tb2632 := hTq2618.atp (336 + k.toNat) 2 ((-1)) 47 (ft336_2 (by omega))
                  have tb2633 := hTq2618.atp (336 + k.toNat) 3 ((-1)) 47 (ft336_3 (by omega))
                  have tb2634 := hTq2618.atp (336 + k.toNat) 6 ((-1)) 11 (ft336_6 (by omega))
                  have tb2635 := hTq2618.atp (336 + k.toNat) 8 0 2 (ft336_8 (by omega))
                  have tb2636 := hTq2618.atp (336 + k.toNat) 9 ((-1)) 47 (ft336_9 (by omega))
                  have tb2637 := hTq2618.atp (336 + k.toNat) 10 ((-1)) 47 (ft336_10 (by omega))
                  have ek : mq2618 325 (m 316 13).toNat = mq2581 325 ((m 316 13).toNat) := (hFq2618 325 ((m 316 13).toNat) ((wSc316_lt (by decide)).trans rfl))
                  exact y_retI c68_123 (y_fit1 (by omega)) ⟨rfl, hTq2618, hF2626, by omega, fun z hz => ((hFq2618 325 z ((wSc316_lt (by decide)).trans rfl)).trans ((hZq2581 z hz).trans ((yup_na (by decide)).trans ((yup_na (by omega)).trans (hFq2447 325 z rfl)))))⟩
            · refine y_iconst 76 c68_75 rfl ?_
              have tb2638 := hTq2581.atp 2 2 0 320 rfl
              have tb2639 := hTq2581.atp 316 13 0 8 rfl
              have es2640 : mq2581 316 12 = m 316 12 := ((hFq2581 316 12 ((wSr316_lt (by decide)).trans rfl)).trans ((yup_na (by decide)).trans ((yup_na (by omega)).trans (hFq2447 316 12 rfl))))
              have tb2641 := hT.atp 316 12 0 12 rfl
              have tb2642 := hTq2581.atp (336 + k.toNat) 0 0 9 (ft336_0 (by omega))
              have tb2643 := hTq2581.atp (336 + k.toNat) 2 ((-1)) 47 (ft336_2 (by omega))
              have tb2644 := hTq2581.atp (336 + k.toNat) 3 ((-1)) 47 (ft336_3 (by omega))
              have tb2645 := hTq2581.atp (336 + k.toNat) 6 ((-1)) 11 (ft336_6 (by omega))
              have tb2646 := hTq2581.atp (336 + k.toNat) 8 0 2 (ft336_8 (by omega))
              have tb2647 := hTq2581.atp (336 + k.toNat) 9 ((-1)) 47 (ft336_9 (by omega))
              have tb2648 := hTq2581.atp (336 + k.toNat) 10 ((-1)) 47 (ft336_10 (by omega))
              exact y_retI c68_76 (y_fit1 (by omega)) ⟨rfl, hTq2581, hF2590, by omega, fun z hz => ((hZq2581 z hz).trans ((yup_na (by decide)).trans ((yup_na (by omega)).trans (hFq2447 325 z rfl))))⟩
    · refine y_iconst 26 c68_25 rfl ?_
      have tb2649 := hTq2447.atp 2 2 0 320 rfl
      have es2650 : mq2447 316 13 = m 316 13 := (hFq2447 316 13 rfl)
      have tb2651 := hT.atp 316 13 0 8 rfl
      have es2652 : mq2447 316 12 = m 316 12 := (hFq2447 316 12 rfl)
      have tb2653 := hT.atp 316 12 0 12 rfl
      have es2654 : mq2447 (336 + k.toNat) 0 = m (336 + k.toNat) 0 := (hFq2447 (336 + k.toNat) 0 wVr316_n336)
      have tb2655 := hT.atp (336 + k.toNat) 0 0 9 (ft336_0 (by omega))
      have es2656 : mq2447 (336 + k.toNat) 2 = m (336 + k.toNat) 2 := (hFq2447 (336 + k.toNat) 2 wVr316_n336)
      have tb2657 := hT.atp (336 + k.toNat) 2 ((-1)) 47 (ft336_2 (by omega))
      have es2658 : mq2447 (336 + k.toNat) 3 = m (336 + k.toNat) 3 := (hFq2447 (336 + k.toNat) 3 wVr316_n336)
      have tb2659 := hT.atp (336 + k.toNat) 3 ((-1)) 47 (ft336_3 (by omega))
      have es2660 : mq2447 (336 + k.toNat) 6 = m (336 + k.toNat) 6 := (hFq2447 (336 + k.toNat) 6 wVr316_n336)
      have tb2661 := hT.atp (336 + k.toNat) 6 ((-1)) 11 (ft336_6 (by omega))
      have es2662 : mq2447 (336 + k.toNat) 8 = m (336 + k.toNat) 8 := (hFq2447 (336 + k.toNat) 8 wVr316_n336)
      have tb2663 := hT.atp (336 + k.toNat) 8 0 2 (ft336_8 (by omega))
      have es2664 : mq2447 (336 + k.toNat) 9 = m (336 + k.toNat) 9 := (hFq2447 (336 + k.toNat) 9 wVr316_n336)
      have tb2665 := hT.atp (336 + k.toNat) 9 ((-1)) 47 (ft336_9 (by omega))
      have es2666 : mq2447 (336 + k.toNat) 10 = m (336 + k.toNat) 10 := (hFq2447 (336 + k.toNat) 10 wVr316_n336)
      have tb2667 := hT.atp (336 + k.toNat) 10 ((-1)) 47 (ft336_10 (by omega))
      exact y_retI c68_26 (y_fit1 (by omega)) ⟨rfl, hTq2447, hF2451, by omega, fun z hz => (hFq2447 325 z rfl)⟩
