section
/-! CONTRACTS: the model, bodies. Printed by wip/whole/gen99.py -/
set_option maxRecDepth 100000 in
theorem t139z_0 {L : Nat} {xs : Nat → Int32} {d nn : Nat} {m : yM} (hT : Ty gT m) (hl : m 376 6 ≤ m 376 1) (hn : m 376 18 = 1) (h8 : m 376 8 < 0) (hX : XS 0 m) (h84 : 1 ≤ m 384 0) (h90 : m 390 0 ≤ 100) (h3 : m 376 3 ≠ 0) (hd : m 376 10 = 0) {x1 : Option Value} : YW (gZ L xs) 139 (d + 8) 28 [some (.ref 376), x1] [] m nn (qU (fun m' n' => n' = nn ∧ Ty gT m' ∧ Fr wBd0 m m' ∧ m' 376 6 ≤ m' 376 1 ∧ m' 376 9 = m 376 9 ∧ m' 376 8 < 0 ∧ mu m' < mu m ∧ m' 390 0 = m 390 0 + 1 ∧ XD 0 m')) := by
  have tb8 := hT.atp 376 8 (-1) 320 rfl
  have tb10 := hT.atp 376 10 0 3 rfl
  have tc383 := hT.atp 383 0 0 6 rfl
  have tc384 := hT.atp 384 0 0 10 rfl
  have tc385 := hT.atp 385 0 0 8 rfl
  have tc386 := hT.atp 386 0 0 12 rfl
  have tc387 := hT.atp 387 0 0 8 rfl
  have tc388 := hT.atp 388 0 0 12 rfl
  have tc389 := hT.atp 389 0 0 48 rfl
  have tc390 := hT.atp 390 0 0 125 rfl
  have hF : Fr wBd0 m m := Fr.rf
  refine y_aload 29 c139_28 rfl rfl rfl ?_
  have tb9711 := hT.atp 376 1 0 320 rfl
  have tb9712 := hT.atp 376 3 0 3 rfl
  have tb9713 := hT.atp 376 6 0 320 rfl
  have tb9714 := hT.atp 376 8 ((-1)) 320 rfl
  refine y_callUB 32 [.ref 376] [] c139_29 rfl rfl rfl rfl rfl (ycanO km99 ko376) (t99u hT (by omega)) (fun mq9710 nq9710 hq9710 => ?_)
  obtain ⟨rfl, hTq9710, hFq9710, hq9710⟩ := hq9710
  have x1q9710 : mq9710 376 1 = m 376 1 := (hFq9710 376 1 rfl)
  have hF9715 := hF.tr hFq9710 wNx_wBd0
  refine y_aload 33 c139_32 rfl rfl rfl ?_
  refine y_iconst 35 c139_33 rfl ?_
  refine y_iconst 36 c139_35 rfl ?_
  refine y_iconst 37 c139_36 rfl ?_
  refine y_iconst 38 c139_37 rfl ?_
  have es9717 : mq9710 376 1 = m 376 1 := (hFq9710 376 1 rfl)
  have tb9718 := hTq9710.atp 376 3 0 3 rfl
  have tb9719 := hTq9710.atp 376 6 0 320 rfl
  have es9720 : mq9710 376 8 = m 376 8 := (hFq9710 376 8 rfl)
  have es9721 : mq9710 376 18 = m 376 18 := (hFq9710 376 18 rfl)
  have tb9722 := hT.atp 376 18 0 1 rfl
  have es9723 : mq9710 390 0 = m 390 0 := (hFq9710 390 0 rfl)
  have es9724 : mq9710 386 0 = m 386 0 := (hFq9710 386 0 rfl)
  have es9725 : mq9710 387 0 = m 387 0 := (hFq9710 387 0 rfl)
  have es9726 : mq9710 388 0 = m 388 0 := (hFq9710 388 0 rfl)
  have es9727 : mq9710 376 17 = m 376 17 := (hFq9710 376 17 rfl)
  have tb9728 := hT.atp 376 17 0 20 rfl
  have es9729 : mq9710 384 0 = m 384 0 := (hFq9710 384 0 rfl)
  have es9730 : mq9710 376 10 = m 376 10 := (hFq9710 376 10 rfl)
  have es9731 : mq9710 376 9 = m 376 9 := (hFq9710 376 9 rfl)
  have tb9732 := hT.atp 376 9 0 40 rfl
  refine y_callIB 41 [.ref 376, yI 12, yI 0, yI 0, yI 0] [] c139_38 rfl rfl rfl rfl rfl (ycanO km127 ko376) (t127_0 hTq9710 (by omega) (by omega) (by omega) (by omega) (by omega) (by omega)) (fun rq9716 mq9716 nq9716 hq9716 => ?_)
  obtain ⟨rfl, hTq9716, hFq9716, hq9716, hE⟩ := hq9716
  unfold EM at hE
  rw [show mq9710 390 0 = m 390 0 from (hFq9710 390 0 rfl)] at hE
  obtain ⟨k1, k2, k3, k4, k5, k6, k7⟩ := hE
  have k8 : ∀ q, q < 1000 * 0 + 8 * (m 390 0).toNat ∨ 1000 * 0 + 8 * (m 390 0).toNat + 8 ≤ q → mq9716 403 q = m 403 q := fun q hq => (k7 q hq).trans ((hFq9710 403 q rfl))
  have x1q9716 : mq9716 376 1 = m 376 1 := ((hFq9716 376 1 rfl).trans (hFq9710 376 1 rfl))
  have hF9733 := hF9715.tr hFq9716 wEm0_wBd0
  refine y_istore 42 c139_41 rfl rfl ?_
  have es9734 : mq9716 376 1 = m 376 1 := ((hFq9716 376 1 rfl).trans (hFq9710 376 1 rfl))
  have es9735 : mq9716 376 3 = mq9710 376 3 := (hFq9716 376 3 rfl)
  have es9736 : mq9716 376 6 = mq9710 376 6 := (hFq9716 376 6 rfl)
  have es9737 : mq9716 376 8 = m 376 8 := ((hFq9716 376 8 rfl).trans (hFq9710 376 8 rfl))
  have tb9738 := hTq9716.atp 390 0 0 125 rfl
  have es9739 : mq9716 386 0 = m 386 0 := ((hFq9716 386 0 rfl).trans (hFq9710 386 0 rfl))
  have es9740 : mq9716 387 0 = m 387 0 := ((hFq9716 387 0 rfl).trans (hFq9710 387 0 rfl))
  have es9741 : mq9716 388 0 = m 388 0 := ((hFq9716 388 0 rfl).trans (hFq9710 388 0 rfl))
  have es9742 : mq9716 376 17 = m 376 17 := ((hFq9716 376 17 rfl).trans (hFq9710 376 17 rfl))
  have es9743 : mq9716 384 0 = m 384 0 := ((hFq9716 384 0 rfl).trans (hFq9710 384 0 rfl))
  have es9744 : mq9716 376 10 = m 376 10 := ((hFq9716 376 10 rfl).trans (hFq9710 376 10 rfl))
  have es9745 : mq9716 376 9 = m 376 9 := ((hFq9716 376 9 rfl).trans (hFq9710 376 9 rfl))
  have em9746 : mu mq9716 = mu mq9710 := mu_fr (hFq9716 376 1 rfl) (hFq9716 376 3 rfl) (hFq9716 376 6 rfl)
  have hw : OW mq9716 (1000 * 0 + 8 * (m 390 0).toNat) := by unfold OW; omega
  have hsc := hX.2.2.2.2.2
  have hCV := hX.2.2.2.2.2.2.2.1
  have hx : XS 0 mq9716 := XS.add hX (by omega) (fun a q ha => (hFq9716 a q (wEm0_Y0 a q ha)).trans (hFq9710 a q (wNx_Y0 a q ha))) k8 hw (by omega) (by omega) (by omega) (by omega) (by omega) (by omega) (by omega) (fun c hc => by rw [show mq9716 401 (8 * 0 + c) = m 401 (8 * 0 + c) from ((hFq9716 401 _ rfl).trans (hFq9710 401 _ rfl))]; exact hCV c (by omega)) (by omega) (by omega)
  have hle : LE 0 mq9716 (mq9716 390 0) := ⟨fun i hi => by have hi2 : i = (m 390 0).toNat := (by omega); subst hi2; exact k2, fun i hi hk2 => by
    by_cases hi2 : i = (m 390 0).toNat
    · subst hi2; omega
    · have e0 := k8 (1000 * 0 + 8 * i) (by omega)
      have e3 := k8 (1000 * 0 + 8 * i + 3) (by omega)
      rw [e0] at hk2
      have h0 := hX.1.2.1 i (by omega) hk2
      rw [e3]
      omega⟩
  exact y_retU c139_42 ⟨rfl, hTq9716, hF9733, by omega, by omega, by omega, by omega, by omega, hx.fin (by omega) hle⟩
set_option maxRecDepth 100000 in
theorem t139e_0 {L : Nat} {xs : Nat → Int32} {d nn : Nat} {m : yM} {mi : yM} (hTi : Ty gT mi) (hFi : Fr wBd0 m mi) (hli : mi 376 6 ≤ mi 376 1) (hw : 0 ≤ mi 376 8) {x1 : Option Value} : YW (gZ L xs) 139 (d + 8) 5 [some (.ref 376), x1] [] mi nn (qU (fun m' n' => n' = nn ∧ Ty gT m' ∧ Fr wBd0 m m' ∧ m' 376 6 ≤ m' 376 1 ∧ (0 ≤ m' 376 8 ∨ (m' 376 8 < 0 ∧ mu m' < mu m ∧ XD 0 m' ∧ m' 390 0 ≤ 2 * m' 376 9 + m' 384 0 ∧ m 390 0 < m' 390 0)))) := by
  have tb := hTi.atp 376 8 (-1) 320 rfl
  refine y_aload 6 c139_5 rfl rfl rfl ?_
  refine y_getX 9 (mi 376 8) c139_6 rfl kf376_8 rfl ?_
  refine y_if 139 12 c139_9 rfl rfl (yz_ge (by omega)) (fun hb => ?_) (fun hb => ?_)
  · exact y_retU c139_139 ⟨rfl, hTi, hFi, hli, Or.inl hw⟩
  · exfalso; omega
set_option maxRecDepth 100000 in
set_option maxHeartbeats 1000000 in
theorem t139a_0 {L : Nat} {xs : Nat → Int32} {d nn : Nat} {m : yM} (hT : Ty gT m) (hl : m 376 6 ≤ m 376 1) (hn : m 376 18 = 1) (h84 : 1 ≤ m 384 0) : ∀ (k : Nat) (x1 : Option Value) (mi : yM), mu mi = k → Ty gT mi → Fr wBd0 m mi → mi 376 6 ≤ mi 376 1 → mi 376 8 < 0 → mu mi ≤ mu m → XS 0 mi → (mi 390 0 + PD mi + 1 ≤ 2 * mi 376 9 + mi 384 0 ∧ m 390 0 ≤ mi 390 0) → YW (gZ L xs) 139 (d + 8) 5 [some (.ref 376), x1] [] mi nn (qU (fun m' n' => n' = nn ∧ Ty gT m' ∧ Fr wBd0 m m' ∧ m' 376 6 ≤ m' 376 1 ∧ (0 ≤ m' 376 8 ∨ (m' 376 8 < 0 ∧ mu m' < mu m ∧ XD 0 m' ∧ m' 390 0 ≤ 2 * m' 376 9 + m' 384 0 ∧ m 390 0 < m' 390 0)))) := by
  intro k
  induction k using Nat.strongRecOn with
  | ind k ih =>
    intro x1 mi hk hTi hFi hli h8i hmu hXi hBi
    have ti376_8 := hTi.atp 376 8 (-1) 320 rfl
    have ti376_9 := hTi.atp 376 9 0 40 rfl
    have ti376_10 := hTi.atp 376 10 0 3 rfl
    have ti384_0 := hTi.atp 384 0 0 10 rfl
    have ti390_0 := hTi.atp 390 0 0 125 rfl
    have hpl := PD.lo (m := mi)
    have em384 : mi 384 0 = m 384 0 := hFi 384 0 rfl
    have em18 : mi 376 18 = m 376 18 := hFi 376 18 rfl
    have em1 : mi 376 1 = m 376 1 := hFi 376 1 rfl
    refine y_aload 6 c139_5 rfl rfl rfl ?_
    refine y_getX 9 (mi 376 8) c139_6 rfl kf376_8 rfl ?_
    refine y_top ((-1)) (by omega) ?_
    refine y_if 139 12 c139_9 rfl rfl (yz_ge (by omega)) (fun hb9747 => ?_) (fun hb9747 => ?_)
    · exfalso; omega
    · refine y_aload 13 c139_12 rfl rfl rfl ?_
      refine y_iconst 15 c139_13 rfl ?_
      have tb9748 := hTi.atp 376 3 0 3 rfl
      refine y_callP 18 [.ref 376, yI 125] [] c139_15 rfl rfl rfl rfl rfl (ycanO km117 ko376) (t117 hTi (by omega)) (fun r9749 hr9749 => ?_)
      refine y_if 50 21 c139_18 rfl rfl (yz_eq (by omega)) (fun hb9750 => ?_) (fun hb9750 => ?_)
      · refine y_aload 51 c139_50 rfl rfl rfl ?_
        refine y_getX 54 (mi 376 9) c139_51 rfl kf376_9 rfl ?_
        refine y_iconst 56 c139_54 rfl ?_
        refine y_icmp 94 59 c139_56 rfl rfl (yc_eq (by omega) (by omega)) (fun hb9751 => ?_) (fun hb9751 => ?_)
        · refine y_aload 95 c139_94 rfl rfl rfl ?_
          have es9753 : mi 376 1 = m 376 1 := (hFi 376 1 rfl)
          have tb9754 := hT.atp 376 1 0 320 rfl
          have tb9755 := hTi.atp 376 6 0 320 rfl
          refine y_callUB 98 [.ref 376] [] c139_95 rfl rfl rfl rfl rfl (ycanO km104 ko376) (t104 hTi) (fun mq9752 nq9752 hq9752 => ?_)
          obtain ⟨rfl, hTq9752, hFq9752, hq9752⟩ := hq9752
          have x1q9752 : mq9752 376 1 = m 376 1 := ((hFq9752 376 1 rfl).trans (hFi 376 1 rfl))
          have hF9756 := hFi.tr hFq9752 wWr_wBd0
          refine y_goto 5 c139_98 rfl ?_
          have es9757 : mq9752 376 1 = m 376 1 := ((hFq9752 376 1 rfl).trans (hFi 376 1 rfl))
          have es9758 : mq9752 376 3 = mi 376 3 := (hFq9752 376 3 rfl)
          have es9759 : mq9752 376 6 = mi 376 6 := (hFq9752 376 6 rfl)
          have tb9760 := hTq9752.atp 376 8 ((-1)) 320 rfl
          exact t139e_0 hTq9752 hF9756 (by omega) (by omega)
        · refine y_aload 60 c139_59 rfl rfl rfl ?_
          refine y_callP 63 [.ref 376] [] c139_60 rfl rfl rfl rfl rfl (ycanO km115 ko376) (t115 hTi) (fun r9761 hr9761 => ?_)
          refine y_if 101 66 c139_63 rfl rfl (yz_ne (by omega)) (fun hb9762 => ?_) (fun hb9762 => ?_)
          · refine y_aload 102 c139_101 rfl rfl rfl ?_
            refine y_dup 103 c139_102 rfl rfl ?_
            refine y_getX 106 (mi 376 9) c139_103 rfl kf376_9 rfl ?_
            refine y_iconst 107 c139_106 rfl ?_
            refine y_iadd 108 c139_107 rfl ?_
            refine y_putI 111 c139_108 rfl kf376_9 (y_fit0 _) ?_
            have hT9763 := hTi.up 376 9 ((mi 376 9) + 1) 0 40 rfl (by omega)
            have hF9764 := hFi.up 376 9 ((mi 376 9) + 1) rfl
            refine y_aload 112 c139_111 rfl rfl rfl ?_
            have es9765 : (yup mi 376 9 ((mi 376 9) + 1)) 376 3 = mi 376 3 := rfl
            refine y_callP 115 [.ref 376] [] c139_112 rfl rfl rfl rfl rfl (ycanO km110 ko376) (t110 hT9763) (fun r9766 hr9766 => ?_)
            refine y_if 125 118 c139_115 rfl rfl (yz_ne (by omega)) (fun hb9767 => ?_) (fun hb9767 => ?_)
            · refine y_aload 126 c139_125 rfl rfl rfl ?_
              have es9769 : (yup mi 376 9 ((mi 376 9) + 1)) 376 1 = m 376 1 := ((yup_nk (by decide)).trans (hFi 376 1 rfl))
              have tb9770 := hT.atp 376 1 0 320 rfl
              have es9771 : (yup mi 376 9 ((mi 376 9) + 1)) 376 3 = mi 376 3 := rfl
              have es9772 : (yup mi 376 9 ((mi 376 9) + 1)) 376 6 = mi 376 6 := rfl
              have tb9773 := hTi.atp 376 6 0 320 rfl
              have es9774 : (yup mi 376 9 ((mi 376 9) + 1)) 376 8 = mi 376 8 := rfl
              have es9775 : (yup mi 376 9 ((mi 376 9) + 1)) 376 18 = m 376 18 := ((yup_nk (by decide)).trans (hFi 376 18 rfl))
              have tb9776 := hT.atp 376 18 0 1 rfl
              have es9777 : (yup mi 376 9 ((mi 376 9) + 1)) 376 10 = mi 376 10 := rfl
              have es9778 : (yup mi 376 9 ((mi 376 9) + 1)) 376 9 = (mi 376 9) + 1 := rfl
              have es9779 : (yup mi 376 9 ((mi 376 9) + 1)) 390 0 = mi 390 0 := rfl
              have es9780 : (yup mi 376 9 ((mi 376 9) + 1)) 384 0 = m 384 0 := ((yup_na (by decide)).trans (hFi 384 0 rfl))
              have tb9781 := hT.atp 384 0 0 10 rfl
              have em9782 : mu (yup mi 376 9 ((mi 376 9) + 1)) = mu mi := mu_fr (yup_nk (by decide)) (yup_nk (by decide)) (yup_nk (by decide))
              have hXc : XS 0 (yup mi 376 9 ((mi 376 9) + 1)) := hXi.fr (fun a q ha => yup_ne (by rintro ⟨rfl, rfl⟩; simp [vXs] at ha))
              have hPc : PD (yup mi 376 9 ((mi 376 9) + 1)) = PD mi := PD.fr rfl (fun q => yup_na (by decide))
              refine y_callUB 129 [.ref 376] [] c139_126 rfl rfl rfl rfl rfl (ycanO km131 ko376) (t131_0 hT9763 (by omega) (by omega) (by omega) hXc (by omega) (by omega) (by omega)) (fun mq9768 nq9768 hq9768 => ?_)
              obtain ⟨rfl, hTq9768, hFq9768, hlq9768, hq9768⟩ := hq9768
              have hF9783 := hF9764.tr hFq9768 (fun _ _ e => e)
              refine y_goto 5 c139_129 rfl ?_
              have c84 : mq9768 384 0 = mi 384 0 := hFq9768 384 0 rfl
              have c9 : mq9768 376 9 = (yup mi 376 9 ((mi 376 9) + 1)) 376 9 := hq9768.1
              have c10 : (yup mi 376 9 ((mi 376 9) + 1)) 376 9 = mi 376 9 + 1 := yup_eq _ _ _ _
              rcases hq9768.2 with q | q
              · exact t139e_0 hTq9768 hF9783 hlq9768 q
              · obtain ⟨q1, q2, ⟨q3, q5⟩, q4⟩ := q
                have hlo := mu_lo hlq9768
                exact ih (mu mq9768).toNat (by omega) _ _ (by omega) hTq9768 hF9783 hlq9768 q1 (by omega) q4 (by omega)
            · refine y_aload 119 c139_118 rfl rfl rfl ?_
              have es9784 : (yup mi 376 9 ((mi 376 9) + 1)) 376 3 = mi 376 3 := rfl
              refine y_callP 122 [.ref 376] [] c139_119 rfl rfl rfl rfl rfl (ycanO km112 ko376) (t112 hT9763) (fun r9785 hr9785 => ?_)
              refine y_if 132 125 c139_122 rfl rfl (yz_eq (by omega)) (fun hb9786 => ?_) (fun hb9786 => ?_)
              · refine y_aload 133 c139_132 rfl rfl rfl ?_
                have es9788 : (yup mi 376 9 ((mi 376 9) + 1)) 376 1 = m 376 1 := ((yup_nk (by decide)).trans (hFi 376 1 rfl))
                have tb9789 := hT.atp 376 1 0 320 rfl
                have es9790 : (yup mi 376 9 ((mi 376 9) + 1)) 376 3 = mi 376 3 := rfl
                have es9791 : (yup mi 376 9 ((mi 376 9) + 1)) 376 6 = mi 376 6 := rfl
                have tb9792 := hTi.atp 376 6 0 320 rfl
                have es9793 : (yup mi 376 9 ((mi 376 9) + 1)) 376 8 = mi 376 8 := rfl
                have es9794 : (yup mi 376 9 ((mi 376 9) + 1)) 376 18 = m 376 18 := ((yup_nk (by decide)).trans (hFi 376 18 rfl))
                have tb9795 := hT.atp 376 18 0 1 rfl
                have es9796 : (yup mi 376 9 ((mi 376 9) + 1)) 376 10 = mi 376 10 := rfl
                have es9797 : (yup mi 376 9 ((mi 376 9) + 1)) 376 9 = (mi 376 9) + 1 := rfl
                have es9798 : (yup mi 376 9 ((mi 376 9) + 1)) 390 0 = mi 390 0 := rfl
                have es9799 : (yup mi 376 9 ((mi 376 9) + 1)) 384 0 = m 384 0 := ((yup_na (by decide)).trans (hFi 384 0 rfl))
                have tb9800 := hT.atp 384 0 0 10 rfl
                have em9801 : mu (yup mi 376 9 ((mi 376 9) + 1)) = mu mi := mu_fr (yup_nk (by decide)) (yup_nk (by decide)) (yup_nk (by decide))
                have hXc : XS 0 (yup mi 376 9 ((mi 376 9) + 1)) := hXi.fr (fun a q ha => yup_ne (by rintro ⟨rfl, rfl⟩; simp [vXs] at ha))
                have hPc : PD (yup mi 376 9 ((mi 376 9) + 1)) = PD mi := PD.fr rfl (fun q => yup_na (by decide))
                refine y_callUB 136 [.ref 376] [] c139_133 rfl rfl rfl rfl rfl (ycanO km138 ko376) (t138_0 hT9763 (by omega) (by omega) (by omega) hXc (by omega) (by omega) (by omega)) (fun mq9787 nq9787 hq9787 => ?_)
                obtain ⟨rfl, hTq9787, hFq9787, hlq9787, hq9787⟩ := hq9787
                have hF9802 := hF9764.tr hFq9787 wSt0_wBd0
                refine y_goto 5 c139_136 rfl ?_
                have c84 : mq9787 384 0 = mi 384 0 := hFq9787 384 0 rfl
                have c9 : mq9787 376 9 = (yup mi 376 9 ((mi 376 9) + 1)) 376 9 := hFq9787 376 9 rfl
                have c10 : (yup mi 376 9 ((mi 376 9) + 1)) 376 9 = mi 376 9 + 1 := yup_eq _ _ _ _
                have cp : PD mq9787 = PD (yup mi 376 9 ((mi 376 9) + 1)) := PD.fr (hFq9787 376 10 rfl) (fun q => hFq9787 378 q rfl)
                rcases hq9787 with q | q
                · exact t139e_0 hTq9787 hF9802 hlq9787 q
                · obtain ⟨q1, q2, q3, q4⟩ := q
                  have hlo := mu_lo hlq9787
                  exact ih (mu mq9787).toNat (by omega) _ _ (by omega) hTq9787 hF9802 hlq9787 q1 (by omega) q4 (by omega)
              · refine y_aload 126 c139_125 rfl rfl rfl ?_
                have es9804 : (yup mi 376 9 ((mi 376 9) + 1)) 376 1 = m 376 1 := ((yup_nk (by decide)).trans (hFi 376 1 rfl))
                have tb9805 := hT.atp 376 1 0 320 rfl
                have es9806 : (yup mi 376 9 ((mi 376 9) + 1)) 376 3 = mi 376 3 := rfl
                have es9807 : (yup mi 376 9 ((mi 376 9) + 1)) 376 6 = mi 376 6 := rfl
                have tb9808 := hTi.atp 376 6 0 320 rfl
                have es9809 : (yup mi 376 9 ((mi 376 9) + 1)) 376 8 = mi 376 8 := rfl
                have es9810 : (yup mi 376 9 ((mi 376 9) + 1)) 376 18 = m 376 18 := ((yup_nk (by decide)).trans (hFi 376 18 rfl))
                have tb9811 := hT.atp 376 18 0 1 rfl
                have es9812 : (yup mi 376 9 ((mi 376 9) + 1)) 376 10 = mi 376 10 := rfl
                have es9813 : (yup mi 376 9 ((mi 376 9) + 1)) 376 9 = (mi 376 9) + 1 := rfl
                have es9814 : (yup mi 376 9 ((mi 376 9) + 1)) 390 0 = mi 390 0 := rfl
                have es9815 : (yup mi 376 9 ((mi 376 9) + 1)) 384 0 = m 384 0 := ((yup_na (by decide)).trans (hFi 384 0 rfl))
                have tb9816 := hT.atp 384 0 0 10 rfl
                have em9817 : mu (yup mi 376 9 ((mi 376 9) + 1)) = mu mi := mu_fr (yup_nk (by decide)) (yup_nk (by decide)) (yup_nk (by decide))
                have hXc : XS 0 (yup mi 376 9 ((mi 376 9) + 1)) := hXi.fr (fun a q ha => yup_ne (by rintro ⟨rfl, rfl⟩; simp [vXs] at ha))
                have hPc : PD (yup mi 376 9 ((mi 376 9) + 1)) = PD mi := PD.fr rfl (fun q => yup_na (by decide))
                refine y_callUB 129 [.ref 376] [] c139_126 rfl rfl rfl rfl rfl (ycanO km131 ko376) (t131_0 hT9763 (by omega) (by omega) (by omega) hXc (by omega) (by omega) (by omega)) (fun mq9803 nq9803 hq9803 => ?_)
                obtain ⟨rfl, hTq9803, hFq9803, hlq9803, hq9803⟩ := hq9803
                have hF9818 := hF9764.tr hFq9803 (fun _ _ e => e)
                refine y_goto 5 c139_129 rfl ?_
                have c84 : mq9803 384 0 = mi 384 0 := hFq9803 384 0 rfl
                have c9 : mq9803 376 9 = (yup mi 376 9 ((mi 376 9) + 1)) 376 9 := hq9803.1
                have c10 : (yup mi 376 9 ((mi 376 9) + 1)) 376 9 = mi 376 9 + 1 := yup_eq _ _ _ _
                rcases hq9803.2 with q | q
                · exact t139e_0 hTq9803 hF9818 hlq9803 q
                · obtain ⟨q1, q2, ⟨q3, q5⟩, q4⟩ := q
                  have hlo := mu_lo hlq9803
                  exact ih (mu mq9803).toNat (by omega) _ _ (by omega) hTq9803 hF9818 hlq9803 q1 (by omega) q4 (by omega)
          · refine y_aload 67 c139_66 rfl rfl rfl ?_
            refine y_callP 70 [.ref 376] [] c139_67 rfl rfl rfl rfl rfl (ycanO km114 ko376) (t114 hTi) (fun r9819 hr9819 => ?_)
            refine y_if 101 73 c139_70 rfl rfl (yz_ne (by omega)) (fun hb9820 => ?_) (fun hb9820 => ?_)
            · refine y_aload 102 c139_101 rfl rfl rfl ?_
              refine y_dup 103 c139_102 rfl rfl ?_
              refine y_getX 106 (mi 376 9) c139_103 rfl kf376_9 rfl ?_
              refine y_iconst 107 c139_106 rfl ?_
              refine y_iadd 108 c139_107 rfl ?_
              refine y_putI 111 c139_108 rfl kf376_9 (y_fit0 _) ?_
              have hT9821 := hTi.up 376 9 ((mi 376 9) + 1) 0 40 rfl (by omega)
              have hF9822 := hFi.up 376 9 ((mi 376 9) + 1) rfl
              refine y_aload 112 c139_111 rfl rfl rfl ?_
              have es9823 : (yup mi 376 9 ((mi 376 9) + 1)) 376 3 = mi 376 3 := rfl
              refine y_callP 115 [.ref 376] [] c139_112 rfl rfl rfl rfl rfl (ycanO km110 ko376) (t110 hT9821) (fun r9824 hr9824 => ?_)
              refine y_if 125 118 c139_115 rfl rfl (yz_ne (by omega)) (fun hb9825 => ?_) (fun hb9825 => ?_)
              · refine y_aload 126 c139_125 rfl rfl rfl ?_
                have es9827 : (yup mi 376 9 ((mi 376 9) + 1)) 376 1 = m 376 1 := ((yup_nk (by decide)).trans (hFi 376 1 rfl))
                have tb9828 := hT.atp 376 1 0 320 rfl
                have es9829 : (yup mi 376 9 ((mi 376 9) + 1)) 376 3 = mi 376 3 := rfl
                have es9830 : (yup mi 376 9 ((mi 376 9) + 1)) 376 6 = mi 376 6 := rfl
                have tb9831 := hTi.atp 376 6 0 320 rfl
                have es9832 : (yup mi 376 9 ((mi 376 9) + 1)) 376 8 = mi 376 8 := rfl
                have es9833 : (yup mi 376 9 ((mi 376 9) + 1)) 376 18 = m 376 18 := ((yup_nk (by decide)).trans (hFi 376 18 rfl))
                have tb9834 := hT.atp 376 18 0 1 rfl
                have es9835 : (yup mi 376 9 ((mi 376 9) + 1)) 376 10 = mi 376 10 := rfl
                have es9836 : (yup mi 376 9 ((mi 376 9) + 1)) 376 9 = (mi 376 9) + 1 := rfl
                have es9837 : (yup mi 376 9 ((mi 376 9) + 1)) 390 0 = mi 390 0 := rfl
                have es9838 : (yup mi 376 9 ((mi 376 9) + 1)) 384 0 = m 384 0 := ((yup_na (by decide)).trans (hFi 384 0 rfl))
                have tb9839 := hT.atp 384 0 0 10 rfl
                have em9840 : mu (yup mi 376 9 ((mi 376 9) + 1)) = mu mi := mu_fr (yup_nk (by decide)) (yup_nk (by decide)) (yup_nk (by decide))
                have hXc : XS 0 (yup mi 376 9 ((mi 376 9) + 1)) := hXi.fr (fun a q ha => yup_ne (by rintro ⟨rfl, rfl⟩; simp [vXs] at ha))
                have hPc : PD (yup mi 376 9 ((mi 376 9) + 1)) = PD mi := PD.fr rfl (fun q => yup_na (by decide))
                refine y_callUB 129 [.ref 376] [] c139_126 rfl rfl rfl rfl rfl (ycanO km131 ko376) (t131_0 hT9821 (by omega) (by omega) (by omega) hXc (by omega) (by omega) (by omega)) (fun mq9826 nq9826 hq9826 => ?_)
                obtain ⟨rfl, hTq9826, hFq9826, hlq9826, hq9826⟩ := hq9826
                have hF9841 := hF9822.tr hFq9826 (fun _ _ e => e)
                refine y_goto 5 c139_129 rfl ?_
                have c84 : mq9826 384 0 = mi 384 0 := hFq9826 384 0 rfl
                have c9 : mq9826 376 9 = (yup mi 376 9 ((mi 376 9) + 1)) 376 9 := hq9826.1
                have c10 : (yup mi 376 9 ((mi 376 9) + 1)) 376 9 = mi 376 9 + 1 := yup_eq _ _ _ _
                rcases hq9826.2 with q | q
                · exact t139e_0 hTq9826 hF9841 hlq9826 q
                · obtain ⟨q1, q2, ⟨q3, q5⟩, q4⟩ := q
                  have hlo := mu_lo hlq9826
                  exact ih (mu mq9826).toNat (by omega) _ _ (by omega) hTq9826 hF9841 hlq9826 q1 (by omega) q4 (by omega)
              · refine y_aload 119 c139_118 rfl rfl rfl ?_
                have es9842 : (yup mi 376 9 ((mi 376 9) + 1)) 376 3 = mi 376 3 := rfl
                refine y_callP 122 [.ref 376] [] c139_119 rfl rfl rfl rfl rfl (ycanO km112 ko376) (t112 hT9821) (fun r9843 hr9843 => ?_)
                refine y_if 132 125 c139_122 rfl rfl (yz_eq (by omega)) (fun hb9844 => ?_) (fun hb9844 => ?_)
                · refine y_aload 133 c139_132 rfl rfl rfl ?_
                  have es9846 : (yup mi 376 9 ((mi 376 9) + 1)) 376 1 = m 376 1 := ((yup_nk (by decide)).trans (hFi 376 1 rfl))
                  have tb9847 := hT.atp 376 1 0 320 rfl
                  have es9848 : (yup mi 376 9 ((mi 376 9) + 1)) 376 3 = mi 376 3 := rfl
                  have es9849 : (yup mi 376 9 ((mi 376 9) + 1)) 376 6 = mi 376 6 := rfl
                  have tb9850 := hTi.atp 376 6 0 320 rfl
                  have es9851 : (yup mi 376 9 ((mi 376 9) + 1)) 376 8 = mi 376 8 := rfl
                  have es9852 : (yup mi 376 9 ((mi 376 9) + 1)) 376 18 = m 376 18 := ((yup_nk (by decide)).trans (hFi 376 18 rfl))
                  have tb9853 := hT.atp 376 18 0 1 rfl
                  have es9854 : (yup mi 376 9 ((mi 376 9) + 1)) 376 10 = mi 376 10 := rfl
                  have es9855 : (yup mi 376 9 ((mi 376 9) + 1)) 376 9 = (mi 376 9) + 1 := rfl
                  have es9856 : (yup mi 376 9 ((mi 376 9) + 1)) 390 0 = mi 390 0 := rfl
                  have es9857 : (yup mi 376 9 ((mi 376 9) + 1)) 384 0 = m 384 0 := ((yup_na (by decide)).trans (hFi 384 0 rfl))
                  have tb9858 := hT.atp 384 0 0 10 rfl
                  have em9859 : mu (yup mi 376 9 ((mi 376 9) + 1)) = mu mi := mu_fr (yup_nk (by decide)) (yup_nk (by decide)) (yup_nk (by decide))
                  have hXc : XS 0 (yup mi 376 9 ((mi 376 9) + 1)) := hXi.fr (fun a q ha => yup_ne (by rintro ⟨rfl, rfl⟩; simp [vXs] at ha))
                  have hPc : PD (yup mi 376 9 ((mi 376 9) + 1)) = PD mi := PD.fr rfl (fun q => yup_na (by decide))
                  refine y_callUB 136 [.ref 376] [] c139_133 rfl rfl rfl rfl rfl (ycanO km138 ko376) (t138_0 hT9821 (by omega) (by omega) (by omega) hXc (by omega) (by omega) (by omega)) (fun mq9845 nq9845 hq9845 => ?_)
                  obtain ⟨rfl, hTq9845, hFq9845, hlq9845, hq9845⟩ := hq9845
                  have hF9860 := hF9822.tr hFq9845 wSt0_wBd0
                  refine y_goto 5 c139_136 rfl ?_
                  have c84 : mq9845 384 0 = mi 384 0 := hFq9845 384 0 rfl
                  have c9 : mq9845 376 9 = (yup mi 376 9 ((mi 376 9) + 1)) 376 9 := hFq9845 376 9 rfl
                  have c10 : (yup mi 376 9 ((mi 376 9) + 1)) 376 9 = mi 376 9 + 1 := yup_eq _ _ _ _
                  have cp : PD mq9845 = PD (yup mi 376 9 ((mi 376 9) + 1)) := PD.fr (hFq9845 376 10 rfl) (fun q => hFq9845 378 q rfl)
                  rcases hq9845 with q | q
                  · exact t139e_0 hTq9845 hF9860 hlq9845 q
                  · obtain ⟨q1, q2, q3, q4⟩ := q
                    have hlo := mu_lo hlq9845
                    exact ih (mu mq9845).toNat (by omega) _ _ (by omega) hTq9845 hF9860 hlq9845 q1 (by omega) q4 (by omega)
                · refine y_aload 126 c139_125 rfl rfl rfl ?_
                  have es9862 : (yup mi 376 9 ((mi 376 9) + 1)) 376 1 = m 376 1 := ((yup_nk (by decide)).trans (hFi 376 1 rfl))
                  have tb9863 := hT.atp 376 1 0 320 rfl
                  have es9864 : (yup mi 376 9 ((mi 376 9) + 1)) 376 3 = mi 376 3 := rfl
                  have es9865 : (yup mi 376 9 ((mi 376 9) + 1)) 376 6 = mi 376 6 := rfl
                  have tb9866 := hTi.atp 376 6 0 320 rfl
                  have es9867 : (yup mi 376 9 ((mi 376 9) + 1)) 376 8 = mi 376 8 := rfl
                  have es9868 : (yup mi 376 9 ((mi 376 9) + 1)) 376 18 = m 376 18 := ((yup_nk (by decide)).trans (hFi 376 18 rfl))
                  have tb9869 := hT.atp 376 18 0 1 rfl
                  have es9870 : (yup mi 376 9 ((mi 376 9) + 1)) 376 10 = mi 376 10 := rfl
                  have es9871 : (yup mi 376 9 ((mi 376 9) + 1)) 376 9 = (mi 376 9) + 1 := rfl
                  have es9872 : (yup mi 376 9 ((mi 376 9) + 1)) 390 0 = mi 390 0 := rfl
                  have es9873 : (yup mi 376 9 ((mi 376 9) + 1)) 384 0 = m 384 0 := ((yup_na (by decide)).trans (hFi 384 0 rfl))
                  have tb9874 := hT.atp 384 0 0 10 rfl
                  have em9875 : mu (yup mi 376 9 ((mi 376 9) + 1)) = mu mi := mu_fr (yup_nk (by decide)) (yup_nk (by decide)) (yup_nk (by decide))
                  have hXc : XS 0 (yup mi 376 9 ((mi 376 9) + 1)) := hXi.fr (fun a q ha => yup_ne (by rintro ⟨rfl, rfl⟩; simp [vXs] at ha))
                  have hPc : PD (yup mi 376 9 ((mi 376 9) + 1)) = PD mi := PD.fr rfl (fun q => yup_na (by decide))
                  refine y_callUB 129 [.ref 376] [] c139_126 rfl rfl rfl rfl rfl (ycanO km131 ko376) (t131_0 hT9821 (by omega) (by omega) (by omega) hXc (by omega) (by omega) (by omega)) (fun mq9861 nq9861 hq9861 => ?_)
                  obtain ⟨rfl, hTq9861, hFq9861, hlq9861, hq9861⟩ := hq9861
                  have hF9876 := hF9822.tr hFq9861 (fun _ _ e => e)
                  refine y_goto 5 c139_129 rfl ?_
                  have c84 : mq9861 384 0 = mi 384 0 := hFq9861 384 0 rfl
                  have c9 : mq9861 376 9 = (yup mi 376 9 ((mi 376 9) + 1)) 376 9 := hq9861.1
                  have c10 : (yup mi 376 9 ((mi 376 9) + 1)) 376 9 = mi 376 9 + 1 := yup_eq _ _ _ _
                  rcases hq9861.2 with q | q
                  · exact t139e_0 hTq9861 hF9876 hlq9861 q
                  · obtain ⟨q1, q2, ⟨q3, q5⟩, q4⟩ := q
                    have hlo := mu_lo hlq9861
                    exact ih (mu mq9861).toNat (by omega) _ _ (by omega) hTq9861 hF9876 hlq9861 q1 (by omega) q4 (by omega)
            · refine y_aload 74 c139_73 rfl rfl rfl ?_
              refine y_callP 77 [.ref 376] [] c139_74 rfl rfl rfl rfl rfl (ycanO km110 ko376) (t110 hTi) (fun r9877 hr9877 => ?_)
              refine y_if 101 80 c139_77 rfl rfl (yz_ne (by omega)) (fun hb9878 => ?_) (fun hb9878 => ?_)
              · refine y_aload 102 c139_101 rfl rfl rfl ?_
                refine y_dup 103 c139_102 rfl rfl ?_
                refine y_getX 106 (mi 376 9) c139_103 rfl kf376_9 rfl ?_
                refine y_iconst 107 c139_106 rfl ?_
                refine y_iadd 108 c139_107 rfl ?_
                refine y_putI 111 c139_108 rfl kf376_9 (y_fit0 _) ?_
                have hT9879 := hTi.up 376 9 ((mi 376 9) + 1) 0 40 rfl (by omega)
                have hF9880 := hFi.up 376 9 ((mi 376 9) + 1) rfl
                refine y_aload 112 c139_111 rfl rfl rfl ?_
                have es9881 : (yup mi 376 9 ((mi 376 9) + 1)) 376 3 = mi 376 3 := rfl
                refine y_callP 115 [.ref 376] [] c139_112 rfl rfl rfl rfl rfl (ycanO km110 ko376) (t110 hT9879) (fun r9882 hr9882 => ?_)
                refine y_if 125 118 c139_115 rfl rfl (yz_ne (by omega)) (fun hb9883 => ?_) (fun hb9883 => ?_)
                · refine y_aload 126 c139_125 rfl rfl rfl ?_
                  have es9885 : (yup mi 376 9 ((mi 376 9) + 1)) 376 1 = m 376 1 := ((yup_nk (by decide)).trans (hFi 376 1 rfl))
                  have tb9886 := hT.atp 376 1 0 320 rfl
                  have es9887 : (yup mi 376 9 ((mi 376 9) + 1)) 376 3 = mi 376 3 := rfl
                  have es9888 : (yup mi 376 9 ((mi 376 9) + 1)) 376 6 = mi 376 6 := rfl
                  have tb9889 := hTi.atp 376 6 0 320 rfl
                  have es9890 : (yup mi 376 9 ((mi 376 9) + 1)) 376 8 = mi 376 8 := rfl
                  have es9891 : (yup mi 376 9 ((mi 376 9) + 1)) 376 18 = m 376 18 := ((yup_nk (by decide)).trans (hFi 376 18 rfl))
                  have tb9892 := hT.atp 376 18 0 1 rfl
                  have es9893 : (yup mi 376 9 ((mi 376 9) + 1)) 376 10 = mi 376 10 := rfl
                  have es9894 : (yup mi 376 9 ((mi 376 9) + 1)) 376 9 = (mi 376 9) + 1 := rfl
                  have es9895 : (yup mi 376 9 ((mi 376 9) + 1)) 390 0 = mi 390 0 := rfl
                  have es9896 : (yup mi 376 9 ((mi 376 9) + 1)) 384 0 = m 384 0 := ((yup_na (by decide)).trans (hFi 384 0 rfl))
                  have tb9897 := hT.atp 384 0 0 10 rfl
                  have em9898 : mu (yup mi 376 9 ((mi 376 9) + 1)) = mu mi := mu_fr (yup_nk (by decide)) (yup_nk (by decide)) (yup_nk (by decide))
                  have hXc : XS 0 (yup mi 376 9 ((mi 376 9) + 1)) := hXi.fr (fun a q ha => yup_ne (by rintro ⟨rfl, rfl⟩; simp [vXs] at ha))
                  have hPc : PD (yup mi 376 9 ((mi 376 9) + 1)) = PD mi := PD.fr rfl (fun q => yup_na (by decide))
                  refine y_callUB 129 [.ref 376] [] c139_126 rfl rfl rfl rfl rfl (ycanO km131 ko376) (t131_0 hT9879 (by omega) (by omega) (by omega) hXc (by omega) (by omega) (by omega)) (fun mq9884 nq9884 hq9884 => ?_)
                  obtain ⟨rfl, hTq9884, hFq9884, hlq9884, hq9884⟩ := hq9884
                  have hF9899 := hF9880.tr hFq9884 (fun _ _ e => e)
                  refine y_goto 5 c139_129 rfl ?_
                  have c84 : mq9884 384 0 = mi 384 0 := hFq9884 384 0 rfl
                  have c9 : mq9884 376 9 = (yup mi 376 9 ((mi 376 9) + 1)) 376 9 := hq9884.1
                  have c10 : (yup mi 376 9 ((mi 376 9) + 1)) 376 9 = mi 376 9 + 1 := yup_eq _ _ _ _
                  rcases hq9884.2 with q | q
                  · exact t139e_0 hTq9884 hF9899 hlq9884 q
                  · obtain ⟨q1, q2, ⟨q3, q5⟩, q4⟩ := q
                    have hlo := mu_lo hlq9884
                    exact ih (mu mq9884).toNat (by omega) _ _ (by omega) hTq9884 hF9899 hlq9884 q1 (by omega) q4 (by omega)
                · refine y_aload 119 c139_118 rfl rfl rfl ?_
                  have es9900 : (yup mi 376 9 ((mi 376 9) + 1)) 376 3 = mi 376 3 := rfl
                  refine y_callP 122 [.ref 376] [] c139_119 rfl rfl rfl rfl rfl (ycanO km112 ko376) (t112 hT9879) (fun r9901 hr9901 => ?_)
                  refine y_if 132 125 c139_122 rfl rfl (yz_eq (by omega)) (fun hb9902 => ?_) (fun hb9902 => ?_)
                  · refine y_aload 133 c139_132 rfl rfl rfl ?_
                    have es9904 : (yup mi 376 9 ((mi 376 9) + 1)) 376 1 = m 376 1 := ((yup_nk (by decide)).trans (hFi 376 1 rfl))
                    have tb9905 := hT.atp 376 1 0 320 rfl
                    have es9906 : (yup mi 376 9 ((mi 376 9) + 1)) 376 3 = mi 376 3 := rfl
                    have es9907 : (yup mi 376 9 ((mi 376 9) + 1)) 376 6 = mi 376 6 := rfl
                    have tb9908 := hTi.atp 376 6 0 320 rfl
                    have es9909 : (yup mi 376 9 ((mi 376 9) + 1)) 376 8 = mi 376 8 := rfl
                    have es9910 : (yup mi 376 9 ((mi 376 9) + 1)) 376 18 = m 376 18 := ((yup_nk (by decide)).trans (hFi 376 18 rfl))
                    have tb9911 := hT.atp 376 18 0 1 rfl
                    have es9912 : (yup mi 376 9 ((mi 376 9) + 1)) 376 10 = mi 376 10 := rfl
                    have es9913 : (yup mi 376 9 ((mi 376 9) + 1)) 376 9 = (mi 376 9) + 1 := rfl
                    have es9914 : (yup mi 376 9 ((mi 376 9) + 1)) 390 0 = mi 390 0 := rfl
                    have es9915 : (yup mi 376 9 ((mi 376 9) + 1)) 384 0 = m 384 0 := ((yup_na (by decide)).trans (hFi 384 0 rfl))
                    have tb9916 := hT.atp 384 0 0 10 rfl
                    have em9917 : mu (yup mi 376 9 ((mi 376 9) + 1)) = mu mi := mu_fr (yup_nk (by decide)) (yup_nk (by decide)) (yup_nk (by decide))
                    have hXc : XS 0 (yup mi 376 9 ((mi 376 9) + 1)) := hXi.fr (fun a q ha => yup_ne (by rintro ⟨rfl, rfl⟩; simp [vXs] at ha))
                    have hPc : PD (yup mi 376 9 ((mi 376 9) + 1)) = PD mi := PD.fr rfl (fun q => yup_na (by decide))
                    refine y_callUB 136 [.ref 376] [] c139_133 rfl rfl rfl rfl rfl (ycanO km138 ko376) (t138_0 hT9879 (by omega) (by omega) (by omega) hXc (by omega) (by omega) (by omega)) (fun mq9903 nq9903 hq9903 => ?_)
                    obtain ⟨rfl, hTq9903, hFq9903, hlq9903, hq9903⟩ := hq9903
                    have hF9918 := hF9880.tr hFq9903 wSt0_wBd0
                    refine y_goto 5 c139_136 rfl ?_
                    have c84 : mq9903 384 0 = mi 384 0 := hFq9903 384 0 rfl
                    have c9 : mq9903 376 9 = (yup mi 376 9 ((mi 376 9) + 1)) 376 9 := hFq9903 376 9 rfl
                    have c10 : (yup mi 376 9 ((mi 376 9) + 1)) 376 9 = mi 376 9 + 1 := yup_eq _ _ _ _
                    have cp : PD mq9903 = PD (yup mi 376 9 ((mi 376 9) + 1)) := PD.fr (hFq9903 376 10 rfl) (fun q => hFq9903 378 q rfl)
                    rcases hq9903 with q | q
                    · exact t139e_0 hTq9903 hF9918 hlq9903 q
                    · obtain ⟨q1, q2, q3, q4⟩ := q
                      have hlo := mu_lo hlq9903
                      exact ih (mu mq9903).toNat (by omega) _ _ (by omega) hTq9903 hF9918 hlq9903 q1 (by omega) q4 (by omega)
                  · refine y_aload 126 c139_125 rfl rfl rfl ?_
                    have es9920 : (yup mi 376 9 ((mi 376 9) + 1)) 376 1 = m 376 1 := ((yup_nk (by decide)).trans (hFi 376 1 rfl))
                    have tb9921 := hT.atp 376 1 0 320 rfl
                    have es9922 : (yup mi 376 9 ((mi 376 9) + 1)) 376 3 = mi 376 3 := rfl
                    have es9923 : (yup mi 376 9 ((mi 376 9) + 1)) 376 6 = mi 376 6 := rfl
                    have tb9924 := hTi.atp 376 6 0 320 rfl
                    have es9925 : (yup mi 376 9 ((mi 376 9) + 1)) 376 8 = mi 376 8 := rfl
                    have es9926 : (yup mi 376 9 ((mi 376 9) + 1)) 376 18 = m 376 18 := ((yup_nk (by decide)).trans (hFi 376 18 rfl))
                    have tb9927 := hT.atp 376 18 0 1 rfl
                    have es9928 : (yup mi 376 9 ((mi 376 9) + 1)) 376 10 = mi 376 10 := rfl
                    have es9929 : (yup mi 376 9 ((mi 376 9) + 1)) 376 9 = (mi 376 9) + 1 := rfl
                    have es9930 : (yup mi 376 9 ((mi 376 9) + 1)) 390 0 = mi 390 0 := rfl
                    have es9931 : (yup mi 376 9 ((mi 376 9) + 1)) 384 0 = m 384 0 := ((yup_na (by decide)).trans (hFi 384 0 rfl))
                    have tb9932 := hT.atp 384 0 0 10 rfl
                    have em9933 : mu (yup mi 376 9 ((mi 376 9) + 1)) = mu mi := mu_fr (yup_nk (by decide)) (yup_nk (by decide)) (yup_nk (by decide))
                    have hXc : XS 0 (yup mi 376 9 ((mi 376 9) + 1)) := hXi.fr (fun a q ha => yup_ne (by rintro ⟨rfl, rfl⟩; simp [vXs] at ha))
                    have hPc : PD (yup mi 376 9 ((mi 376 9) + 1)) = PD mi := PD.fr rfl (fun q => yup_na (by decide))
                    refine y_callUB 129 [.ref 376] [] c139_126 rfl rfl rfl rfl rfl (ycanO km131 ko376) (t131_0 hT9879 (by omega) (by omega) (by omega) hXc (by omega) (by omega) (by omega)) (fun mq9919 nq9919 hq9919 => ?_)
                    obtain ⟨rfl, hTq9919, hFq9919, hlq9919, hq9919⟩ := hq9919
                    have hF9934 := hF9880.tr hFq9919 (fun _ _ e => e)
                    refine y_goto 5 c139_129 rfl ?_
                    have c84 : mq9919 384 0 = mi 384 0 := hFq9919 384 0 rfl
                    have c9 : mq9919 376 9 = (yup mi 376 9 ((mi 376 9) + 1)) 376 9 := hq9919.1
                    have c10 : (yup mi 376 9 ((mi 376 9) + 1)) 376 9 = mi 376 9 + 1 := yup_eq _ _ _ _
                    rcases hq9919.2 with q | q
                    · exact t139e_0 hTq9919 hF9934 hlq9919 q
                    · obtain ⟨q1, q2, ⟨q3, q5⟩, q4⟩ := q
                      have hlo := mu_lo hlq9919
                      exact ih (mu mq9919).toNat (by omega) _ _ (by omega) hTq9919 hF9934 hlq9919 q1 (by omega) q4 (by omega)
              · refine y_aload 81 c139_80 rfl rfl rfl ?_
                refine y_callP 84 [.ref 376] [] c139_81 rfl rfl rfl rfl rfl (ycanO km112 ko376) (t112 hTi) (fun r9935 hr9935 => ?_)
                refine y_if 101 87 c139_84 rfl rfl (yz_ne (by omega)) (fun hb9936 => ?_) (fun hb9936 => ?_)
                · refine y_aload 102 c139_101 rfl rfl rfl ?_
                  refine y_dup 103 c139_102 rfl rfl ?_
                  refine y_getX 106 (mi 376 9) c139_103 rfl kf376_9 rfl ?_
                  refine y_iconst 107 c139_106 rfl ?_
                  refine y_iadd 108 c139_107 rfl ?_
                  refine y_putI 111 c139_108 rfl kf376_9 (y_fit0 _) ?_
                  have hT9937 := hTi.up 376 9 ((mi 376 9) + 1) 0 40 rfl (by omega)
                  have hF9938 := hFi.up 376 9 ((mi 376 9) + 1) rfl
                  refine y_aload 112 c139_111 rfl rfl rfl ?_
                  have es9939 : (yup mi 376 9 ((mi 376 9) + 1)) 376 3 = mi 376 3 := rfl
                  refine y_callP 115 [.ref 376] [] c139_112 rfl rfl rfl rfl rfl (ycanO km110 ko376) (t110 hT9937) (fun r9940 hr9940 => ?_)
                  refine y_if 125 118 c139_115 rfl rfl (yz_ne (by omega)) (fun hb9941 => ?_) (fun hb9941 => ?_)
                  · refine y_aload 126 c139_125 rfl rfl rfl ?_
                    have es9943 : (yup mi 376 9 ((mi 376 9) + 1)) 376 1 = m 376 1 := ((yup_nk (by decide)).trans (hFi 376 1 rfl))
                    have tb9944 := hT.atp 376 1 0 320 rfl
                    have es9945 : (yup mi 376 9 ((mi 376 9) + 1)) 376 3 = mi 376 3 := rfl
                    have es9946 : (yup mi 376 9 ((mi 376 9) + 1)) 376 6 = mi 376 6 := rfl
                    have tb9947 := hTi.atp 376 6 0 320 rfl
                    have es9948 : (yup mi 376 9 ((mi 376 9) + 1)) 376 8 = mi 376 8 := rfl
                    have es9949 : (yup mi 376 9 ((mi 376 9) + 1)) 376 18 = m 376 18 := ((yup_nk (by decide)).trans (hFi 376 18 rfl))
                    have tb9950 := hT.atp 376 18 0 1 rfl
                    have es9951 : (yup mi 376 9 ((mi 376 9) + 1)) 376 10 = mi 376 10 := rfl
                    have es9952 : (yup mi 376 9 ((mi 376 9) + 1)) 376 9 = (mi 376 9) + 1 := rfl
                    have es9953 : (yup mi 376 9 ((mi 376 9) + 1)) 390 0 = mi 390 0 := rfl
                    have es9954 : (yup mi 376 9 ((mi 376 9) + 1)) 384 0 = m 384 0 := ((yup_na (by decide)).trans (hFi 384 0 rfl))
                    have tb9955 := hT.atp 384 0 0 10 rfl
                    have em9956 : mu (yup mi 376 9 ((mi 376 9) + 1)) = mu mi := mu_fr (yup_nk (by decide)) (yup_nk (by decide)) (yup_nk (by decide))
                    have hXc : XS 0 (yup mi 376 9 ((mi 376 9) + 1)) := hXi.fr (fun a q ha => yup_ne (by rintro ⟨rfl, rfl⟩; simp [vXs] at ha))
                    have hPc : PD (yup mi 376 9 ((mi 376 9) + 1)) = PD mi := PD.fr rfl (fun q => yup_na (by decide))
                    refine y_callUB 129 [.ref 376] [] c139_126 rfl rfl rfl rfl rfl (ycanO km131 ko376) (t131_0 hT9937 (by omega) (by omega) (by omega) hXc (by omega) (by omega) (by omega)) (fun mq9942 nq9942 hq9942 => ?_)
                    obtain ⟨rfl, hTq9942, hFq9942, hlq9942, hq9942⟩ := hq9942
                    have hF9957 := hF9938.tr hFq9942 (fun _ _ e => e)
                    refine y_goto 5 c139_129 rfl ?_
                    have c84 : mq9942 384 0 = mi 384 0 := hFq9942 384 0 rfl
                    have c9 : mq9942 376 9 = (yup mi 376 9 ((mi 376 9) + 1)) 376 9 := hq9942.1
                    have c10 : (yup mi 376 9 ((mi 376 9) + 1)) 376 9 = mi 376 9 + 1 := yup_eq _ _ _ _
                    rcases hq9942.2 with q | q
                    · exact t139e_0 hTq9942 hF9957 hlq9942 q
                    · obtain ⟨q1, q2, ⟨q3, q5⟩, q4⟩ := q
                      have hlo := mu_lo hlq9942
                      exact ih (mu mq9942).toNat (by omega) _ _ (by omega) hTq9942 hF9957 hlq9942 q1 (by omega) q4 (by omega)
                  · refine y_aload 119 c139_118 rfl rfl rfl ?_
                    have es9958 : (yup mi 376 9 ((mi 376 9) + 1)) 376 3 = mi 376 3 := rfl
                    refine y_callP 122 [.ref 376] [] c139_119 rfl rfl rfl rfl rfl (ycanO km112 ko376) (t112 hT9937) (fun r9959 hr9959 => ?_)
                    refine y_if 132 125 c139_122 rfl rfl (yz_eq (by omega)) (fun hb9960 => ?_) (fun hb9960 => ?_)
                    · refine y_aload 133 c139_132 rfl rfl rfl ?_
                      have es9962 : (yup mi 376 9 ((mi 376 9) + 1)) 376 1 = m 376 1 := ((yup_nk (by decide)).trans (hFi 376 1 rfl))
                      have tb9963 := hT.atp 376 1 0 320 rfl
                      have es9964 : (yup mi 376 9 ((mi 376 9) + 1)) 376 3 = mi 376 3 := rfl
                      have es9965 : (yup mi 376 9 ((mi 376 9) + 1)) 376 6 = mi 376 6 := rfl
                      have tb9966 := hTi.atp 376 6 0 320 rfl
                      have es9967 : (yup mi 376 9 ((mi 376 9) + 1)) 376 8 = mi 376 8 := rfl
                      have es9968 : (yup mi 376 9 ((mi 376 9) + 1)) 376 18 = m 376 18 := ((yup_nk (by decide)).trans (hFi 376 18 rfl))
                      have tb9969 := hT.atp 376 18 0 1 rfl
                      have es9970 : (yup mi 376 9 ((mi 376 9) + 1)) 376 10 = mi 376 10 := rfl
                      have es9971 : (yup mi 376 9 ((mi 376 9) + 1)) 376 9 = (mi 376 9) + 1 := rfl
                      have es9972 : (yup mi 376 9 ((mi 376 9) + 1)) 390 0 = mi 390 0 := rfl
                      have es9973 : (yup mi 376 9 ((mi 376 9) + 1)) 384 0 = m 384 0 := ((yup_na (by decide)).trans (hFi 384 0 rfl))
                      have tb9974 := hT.atp 384 0 0 10 rfl
                      have em9975 : mu (yup mi 376 9 ((mi 376 9) + 1)) = mu mi := mu_fr (yup_nk (by decide)) (yup_nk (by decide)) (yup_nk (by decide))
                      have hXc : XS 0 (yup mi 376 9 ((mi 376 9) + 1)) := hXi.fr (fun a q ha => yup_ne (by rintro ⟨rfl, rfl⟩; simp [vXs] at ha))
                      have hPc : PD (yup mi 376 9 ((mi 376 9) + 1)) = PD mi := PD.fr rfl (fun q => yup_na (by decide))
                      refine y_callUB 136 [.ref 376] [] c139_133 rfl rfl rfl rfl rfl (ycanO km138 ko376) (t138_0 hT9937 (by omega) (by omega) (by omega) hXc (by omega) (by omega) (by omega)) (fun mq9961 nq9961 hq9961 => ?_)
                      obtain ⟨rfl, hTq9961, hFq9961, hlq9961, hq9961⟩ := hq9961
                      have hF9976 := hF9938.tr hFq9961 wSt0_wBd0
                      refine y_goto 5 c139_136 rfl ?_
                      have c84 : mq9961 384 0 = mi 384 0 := hFq9961 384 0 rfl
                      have c9 : mq9961 376 9 = (yup mi 376 9 ((mi 376 9) + 1)) 376 9 := hFq9961 376 9 rfl
                      have c10 : (yup mi 376 9 ((mi 376 9) + 1)) 376 9 = mi 376 9 + 1 := yup_eq _ _ _ _
                      have cp : PD mq9961 = PD (yup mi 376 9 ((mi 376 9) + 1)) := PD.fr (hFq9961 376 10 rfl) (fun q => hFq9961 378 q rfl)
                      rcases hq9961 with q | q
                      · exact t139e_0 hTq9961 hF9976 hlq9961 q
                      · obtain ⟨q1, q2, q3, q4⟩ := q
                        have hlo := mu_lo hlq9961
                        exact ih (mu mq9961).toNat (by omega) _ _ (by omega) hTq9961 hF9976 hlq9961 q1 (by omega) q4 (by omega)
                    · refine y_aload 126 c139_125 rfl rfl rfl ?_
                      have es9978 : (yup mi 376 9 ((mi 376 9) + 1)) 376 1 = m 376 1 := ((yup_nk (by decide)).trans (hFi 376 1 rfl))
                      have tb9979 := hT.atp 376 1 0 320 rfl
                      have es9980 : (yup mi 376 9 ((mi 376 9) + 1)) 376 3 = mi 376 3 := rfl
                      have es9981 : (yup mi 376 9 ((mi 376 9) + 1)) 376 6 = mi 376 6 := rfl
                      have tb9982 := hTi.atp 376 6 0 320 rfl
                      have es9983 : (yup mi 376 9 ((mi 376 9) + 1)) 376 8 = mi 376 8 := rfl
                      have es9984 : (yup mi 376 9 ((mi 376 9) + 1)) 376 18 = m 376 18 := ((yup_nk (by decide)).trans (hFi 376 18 rfl))
                      have tb9985 := hT.atp 376 18 0 1 rfl
                      have es9986 : (yup mi 376 9 ((mi 376 9) + 1)) 376 10 = mi 376 10 := rfl
                      have es9987 : (yup mi 376 9 ((mi 376 9) + 1)) 376 9 = (mi 376 9) + 1 := rfl
                      have es9988 : (yup mi 376 9 ((mi 376 9) + 1)) 390 0 = mi 390 0 := rfl
                      have es9989 : (yup mi 376 9 ((mi 376 9) + 1)) 384 0 = m 384 0 := ((yup_na (by decide)).trans (hFi 384 0 rfl))
                      have tb9990 := hT.atp 384 0 0 10 rfl
                      have em9991 : mu (yup mi 376 9 ((mi 376 9) + 1)) = mu mi := mu_fr (yup_nk (by decide)) (yup_nk (by decide)) (yup_nk (by decide))
                      have hXc : XS 0 (yup mi 376 9 ((mi 376 9) + 1)) := hXi.fr (fun a q ha => yup_ne (by rintro ⟨rfl, rfl⟩; simp [vXs] at ha))
                      have hPc : PD (yup mi 376 9 ((mi 376 9) + 1)) = PD mi := PD.fr rfl (fun q => yup_na (by decide))
                      refine y_callUB 129 [.ref 376] [] c139_126 rfl rfl rfl rfl rfl (ycanO km131 ko376) (t131_0 hT9937 (by omega) (by omega) (by omega) hXc (by omega) (by omega) (by omega)) (fun mq9977 nq9977 hq9977 => ?_)
                      obtain ⟨rfl, hTq9977, hFq9977, hlq9977, hq9977⟩ := hq9977
                      have hF9992 := hF9938.tr hFq9977 (fun _ _ e => e)
                      refine y_goto 5 c139_129 rfl ?_
                      have c84 : mq9977 384 0 = mi 384 0 := hFq9977 384 0 rfl
                      have c9 : mq9977 376 9 = (yup mi 376 9 ((mi 376 9) + 1)) 376 9 := hq9977.1
                      have c10 : (yup mi 376 9 ((mi 376 9) + 1)) 376 9 = mi 376 9 + 1 := yup_eq _ _ _ _
                      rcases hq9977.2 with q | q
                      · exact t139e_0 hTq9977 hF9992 hlq9977 q
                      · obtain ⟨q1, q2, ⟨q3, q5⟩, q4⟩ := q
                        have hlo := mu_lo hlq9977
                        exact ih (mu mq9977).toNat (by omega) _ _ (by omega) hTq9977 hF9992 hlq9977 q1 (by omega) q4 (by omega)
                · refine y_aload 88 c139_87 rfl rfl rfl ?_
                  refine y_callP 91 [.ref 376] [] c139_88 rfl rfl rfl rfl rfl (ycanO km113 ko376) (t113 hTi) (fun r9993 hr9993 => ?_)
                  refine y_if 101 94 c139_91 rfl rfl (yz_ne (by omega)) (fun hb9994 => ?_) (fun hb9994 => ?_)
                  · refine y_aload 102 c139_101 rfl rfl rfl ?_
                    refine y_dup 103 c139_102 rfl rfl ?_
                    refine y_getX 106 (mi 376 9) c139_103 rfl kf376_9 rfl ?_
                    refine y_iconst 107 c139_106 rfl ?_
                    refine y_iadd 108 c139_107 rfl ?_
                    refine y_putI 111 c139_108 rfl kf376_9 (y_fit0 _) ?_
                    have hT9995 := hTi.up 376 9 ((mi 376 9) + 1) 0 40 rfl (by omega)
                    have hF9996 := hFi.up 376 9 ((mi 376 9) + 1) rfl
                    refine y_aload 112 c139_111 rfl rfl rfl ?_
                    have es9997 : (yup mi 376 9 ((mi 376 9) + 1)) 376 3 = mi 376 3 := rfl
                    refine y_callP 115 [.ref 376] [] c139_112 rfl rfl rfl rfl rfl (ycanO km110 ko376) (t110 hT9995) (fun r9998 hr9998 => ?_)
                    refine y_if 125 118 c139_115 rfl rfl (yz_ne (by omega)) (fun hb9999 => ?_) (fun hb9999 => ?_)
                    · refine y_aload 126 c139_125 rfl rfl rfl ?_
                      have es10001 : (yup mi 376 9 ((mi 376 9) + 1)) 376 1 = m 376 1 := ((yup_nk (by decide)).trans (hFi 376 1 rfl))
                      have tb10002 := hT.atp 376 1 0 320 rfl
                      have es10003 : (yup mi 376 9 ((mi 376 9) + 1)) 376 3 = mi 376 3 := rfl
                      have es10004 : (yup mi 376 9 ((mi 376 9) + 1)) 376 6 = mi 376 6 := rfl
                      have tb10005 := hTi.atp 376 6 0 320 rfl
                      have es10006 : (yup mi 376 9 ((mi 376 9) + 1)) 376 8 = mi 376 8 := rfl
                      have es10007 : (yup mi 376 9 ((mi 376 9) + 1)) 376 18 = m 376 18 := ((yup_nk (by decide)).trans (hFi 376 18 rfl))
                      have tb10008 := hT.atp 376 18 0 1 rfl
                      have es10009 : (yup mi 376 9 ((mi 376 9) + 1)) 376 10 = mi 376 10 := rfl
                      have es10010 : (yup mi 376 9 ((mi 376 9) + 1)) 376 9 = (mi 376 9) + 1 := rfl
                      have es10011 : (yup mi 376 9 ((mi 376 9) + 1)) 390 0 = mi 390 0 := rfl
                      have es10012 : (yup mi 376 9 ((mi 376 9) + 1)) 384 0 = m 384 0 := ((yup_na (by decide)).trans (hFi 384 0 rfl))
                      have tb10013 := hT.atp 384 0 0 10 rfl
                      have em10014 : mu (yup mi 376 9 ((mi 376 9) + 1)) = mu mi := mu_fr (yup_nk (by decide)) (yup_nk (by decide)) (yup_nk (by decide))
                      have hXc : XS 0 (yup mi 376 9 ((mi 376 9) + 1)) := hXi.fr (fun a q ha => yup_ne (by rintro ⟨rfl, rfl⟩; simp [vXs] at ha))
                      have hPc : PD (yup mi 376 9 ((mi 376 9) + 1)) = PD mi := PD.fr rfl (fun q => yup_na (by decide))
                      refine y_callUB 129 [.ref 376] [] c139_126 rfl rfl rfl rfl rfl (ycanO km131 ko376) (t131_0 hT9995 (by omega) (by omega) (by omega) hXc (by omega) (by omega) (by omega)) (fun mq10000 nq10000 hq10000 => ?_)
                      obtain ⟨rfl, hTq10000, hFq10000, hlq10000, hq10000⟩ := hq10000
                      have hF10015 := hF9996.tr hFq10000 (fun _ _ e => e)
                      refine y_goto 5 c139_129 rfl ?_
                      have c84 : mq10000 384 0 = mi 384 0 := hFq10000 384 0 rfl
                      have c9 : mq10000 376 9 = (yup mi 376 9 ((mi 376 9) + 1)) 376 9 := hq10000.1
                      have c10 : (yup mi 376 9 ((mi 376 9) + 1)) 376 9 = mi 376 9 + 1 := yup_eq _ _ _ _
                      rcases hq10000.2 with q | q
                      · exact t139e_0 hTq10000 hF10015 hlq10000 q
                      · obtain ⟨q1, q2, ⟨q3, q5⟩, q4⟩ := q
                        have hlo := mu_lo hlq10000
                        exact ih (mu mq10000).toNat (by omega) _ _ (by omega) hTq10000 hF10015 hlq10000 q1 (by omega) q4 (by omega)
                    · refine y_aload 119 c139_118 rfl rfl rfl ?_
                      have es10016 : (yup mi 376 9 ((mi 376 9) + 1)) 376 3 = mi 376 3 := rfl
                      refine y_callP 122 [.ref 376] [] c139_119 rfl rfl rfl rfl rfl (ycanO km112 ko376) (t112 hT9995) (fun r10017 hr10017 => ?_)
                      refine y_if 132 125 c139_122 rfl rfl (yz_eq (by omega)) (fun hb10018 => ?_) (fun hb10018 => ?_)
                      · refine y_aload 133 c139_132 rfl rfl rfl ?_
                        have es10020 : (yup mi 376 9 ((mi 376 9) + 1)) 376 1 = m 376 1 := ((yup_nk (by decide)).trans (hFi 376 1 rfl))
                        have tb10021 := hT.atp 376 1 0 320 rfl
                        have es10022 : (yup mi 376 9 ((mi 376 9) + 1)) 376 3 = mi 376 3 := rfl
                        have es10023 : (yup mi 376 9 ((mi 376 9) + 1)) 376 6 = mi 376 6 := rfl
                        have tb10024 := hTi.atp 376 6 0 320 rfl
                        have es10025 : (yup mi 376 9 ((mi 376 9) + 1)) 376 8 = mi 376 8 := rfl
                        have es10026 : (yup mi 376 9 ((mi 376 9) + 1)) 376 18 = m 376 18 := ((yup_nk (by decide)).trans (hFi 376 18 rfl))
                        have tb10027 := hT.atp 376 18 0 1 rfl
                        have es10028 : (yup mi 376 9 ((mi 376 9) + 1)) 376 10 = mi 376 10 := rfl
                        have es10029 : (yup mi 376 9 ((mi 376 9) + 1)) 376 9 = (mi 376 9) + 1 := rfl
                        have es10030 : (yup mi 376 9 ((mi 376 9) + 1)) 390 0 = mi 390 0 := rfl
                        have es10031 : (yup mi 376 9 ((mi 376 9) + 1)) 384 0 = m 384 0 := ((yup_na (by decide)).trans (hFi 384 0 rfl))
                        have tb10032 := hT.atp 384 0 0 10 rfl
                        have em10033 : mu (yup mi 376 9 ((mi 376 9) + 1)) = mu mi := mu_fr (yup_nk (by decide)) (yup_nk (by decide)) (yup_nk (by decide))
                        have hXc : XS 0 (yup mi 376 9 ((mi 376 9) + 1)) := hXi.fr (fun a q ha => yup_ne (by rintro ⟨rfl, rfl⟩; simp [vXs] at ha))
                        have hPc : PD (yup mi 376 9 ((mi 376 9) + 1)) = PD mi := PD.fr rfl (fun q => yup_na (by decide))
                        refine y_callUB 136 [.ref 376] [] c139_133 rfl rfl rfl rfl rfl (ycanO km138 ko376) (t138_0 hT9995 (by omega) (by omega) (by omega) hXc (by omega) (by omega) (by omega)) (fun mq10019 nq10019 hq10019 => ?_)
                        obtain ⟨rfl, hTq10019, hFq10019, hlq10019, hq10019⟩ := hq10019
                        have hF10034 := hF9996.tr hFq10019 wSt0_wBd0
                        refine y_goto 5 c139_136 rfl ?_
                        have c84 : mq10019 384 0 = mi 384 0 := hFq10019 384 0 rfl
                        have c9 : mq10019 376 9 = (yup mi 376 9 ((mi 376 9) + 1)) 376 9 := hFq10019 376 9 rfl
                        have c10 : (yup mi 376 9 ((mi 376 9) + 1)) 376 9 = mi 376 9 + 1 := yup_eq _ _ _ _
                        have cp : PD mq10019 = PD (yup mi 376 9 ((mi 376 9) + 1)) := PD.fr (hFq10019 376 10 rfl) (fun q => hFq10019 378 q rfl)
                        rcases hq10019 with q | q
                        · exact t139e_0 hTq10019 hF10034 hlq10019 q
                        · obtain ⟨q1, q2, q3, q4⟩ := q
                          have hlo := mu_lo hlq10019
                          exact ih (mu mq10019).toNat (by omega) _ _ (by omega) hTq10019 hF10034 hlq10019 q1 (by omega) q4 (by omega)
                      · refine y_aload 126 c139_125 rfl rfl rfl ?_
                        have es10036 : (yup mi 376 9 ((mi 376 9) + 1)) 376 1 = m 376 1 := ((yup_nk (by decide)).trans (hFi 376 1 rfl))
                        have tb10037 := hT.atp 376 1 0 320 rfl
                        have es10038 : (yup mi 376 9 ((mi 376 9) + 1)) 376 3 = mi 376 3 := rfl
                        have es10039 : (yup mi 376 9 ((mi 376 9) + 1)) 376 6 = mi 376 6 := rfl
                        have tb10040 := hTi.atp 376 6 0 320 rfl
                        have es10041 : (yup mi 376 9 ((mi 376 9) + 1)) 376 8 = mi 376 8 := rfl
                        have es10042 : (yup mi 376 9 ((mi 376 9) + 1)) 376 18 = m 376 18 := ((yup_nk (by decide)).trans (hFi 376 18 rfl))
                        have tb10043 := hT.atp 376 18 0 1 rfl
                        have es10044 : (yup mi 376 9 ((mi 376 9) + 1)) 376 10 = mi 376 10 := rfl
                        have es10045 : (yup mi 376 9 ((mi 376 9) + 1)) 376 9 = (mi 376 9) + 1 := rfl
                        have es10046 : (yup mi 376 9 ((mi 376 9) + 1)) 390 0 = mi 390 0 := rfl
                        have es10047 : (yup mi 376 9 ((mi 376 9) + 1)) 384 0 = m 384 0 := ((yup_na (by decide)).trans (hFi 384 0 rfl))
                        have tb10048 := hT.atp 384 0 0 10 rfl
                        have em10049 : mu (yup mi 376 9 ((mi 376 9) + 1)) = mu mi := mu_fr (yup_nk (by decide)) (yup_nk (by decide)) (yup_nk (by decide))
                        have hXc : XS 0 (yup mi 376 9 ((mi 376 9) + 1)) := hXi.fr (fun a q ha => yup_ne (by rintro ⟨rfl, rfl⟩; simp [vXs] at ha))
                        have hPc : PD (yup mi 376 9 ((mi 376 9) + 1)) = PD mi := PD.fr rfl (fun q => yup_na (by decide))
                        refine y_callUB 129 [.ref 376] [] c139_126 rfl rfl rfl rfl rfl (ycanO km131 ko376) (t131_0 hT9995 (by omega) (by omega) (by omega) hXc (by omega) (by omega) (by omega)) (fun mq10035 nq10035 hq10035 => ?_)
                        obtain ⟨rfl, hTq10035, hFq10035, hlq10035, hq10035⟩ := hq10035
                        have hF10050 := hF9996.tr hFq10035 (fun _ _ e => e)
                        refine y_goto 5 c139_129 rfl ?_
                        have c84 : mq10035 384 0 = mi 384 0 := hFq10035 384 0 rfl
                        have c9 : mq10035 376 9 = (yup mi 376 9 ((mi 376 9) + 1)) 376 9 := hq10035.1
                        have c10 : (yup mi 376 9 ((mi 376 9) + 1)) 376 9 = mi 376 9 + 1 := yup_eq _ _ _ _
                        rcases hq10035.2 with q | q
                        · exact t139e_0 hTq10035 hF10050 hlq10035 q
                        · obtain ⟨q1, q2, ⟨q3, q5⟩, q4⟩ := q
                          have hlo := mu_lo hlq10035
                          exact ih (mu mq10035).toNat (by omega) _ _ (by omega) hTq10035 hF10050 hlq10035 q1 (by omega) q4 (by omega)
                  · refine y_aload 95 c139_94 rfl rfl rfl ?_
                    have es10052 : mi 376 1 = m 376 1 := (hFi 376 1 rfl)
                    have tb10053 := hT.atp 376 1 0 320 rfl
                    have tb10054 := hTi.atp 376 6 0 320 rfl
                    refine y_callUB 98 [.ref 376] [] c139_95 rfl rfl rfl rfl rfl (ycanO km104 ko376) (t104 hTi) (fun mq10051 nq10051 hq10051 => ?_)
                    obtain ⟨rfl, hTq10051, hFq10051, hq10051⟩ := hq10051
                    have x1q10051 : mq10051 376 1 = m 376 1 := ((hFq10051 376 1 rfl).trans (hFi 376 1 rfl))
                    have hF10055 := hFi.tr hFq10051 wWr_wBd0
                    refine y_goto 5 c139_98 rfl ?_
                    have es10056 : mq10051 376 1 = m 376 1 := ((hFq10051 376 1 rfl).trans (hFi 376 1 rfl))
                    have es10057 : mq10051 376 3 = mi 376 3 := (hFq10051 376 3 rfl)
                    have es10058 : mq10051 376 6 = mi 376 6 := (hFq10051 376 6 rfl)
                    have tb10059 := hTq10051.atp 376 8 ((-1)) 320 rfl
                    exact t139e_0 hTq10051 hF10055 (by omega) (by omega)
      · refine y_aload 22 c139_21 rfl rfl rfl ?_
        refine y_getX 25 (mi 376 10) c139_22 rfl kf376_10 rfl ?_
        refine y_if 43 28 c139_25 rfl rfl (yz_ne (by omega)) (fun hb10060 => ?_) (fun hb10060 => ?_)
        · refine y_aload 44 c139_43 rfl rfl rfl ?_
          have es10062 : mi 376 1 = m 376 1 := (hFi 376 1 rfl)
          have tb10063 := hT.atp 376 1 0 320 rfl
          have tb10064 := hTi.atp 376 6 0 320 rfl
          have es10065 : mi 376 18 = m 376 18 := (hFi 376 18 rfl)
          have tb10066 := hT.atp 376 18 0 1 rfl
          have es10067 : mi 384 0 = m 384 0 := (hFi 384 0 rfl)
          have tb10068 := hT.atp 384 0 0 10 rfl
          have hXc := hXi
          refine y_callUB 47 [.ref 376] [] c139_44 rfl rfl rfl rfl rfl (ycanO km129 ko376) (t129_0 hTi (by omega) (by omega) (by omega) hXc (by omega) (by omega) (by omega) (by omega)) (fun mq10061 nq10061 hq10061 => ?_)
          obtain ⟨rfl, hTq10061, hFq10061, hlq10061, hq10061⟩ := hq10061
          have hF10069 := hFi.tr hFq10061 (fun _ _ e => e)
          refine y_goto 5 c139_47 rfl ?_
          have c84 : mq10061 384 0 = mi 384 0 := hFq10061 384 0 rfl
          have c9 : mq10061 376 9 = mi 376 9 := hq10061.1
          rcases hq10061.2 with q | q
          · exact t139e_0 hTq10061 hF10069 hlq10061 q
          · obtain ⟨q1, q2, ⟨q3, q5⟩, q4⟩ := q
            have hlo := mu_lo hlq10061
            exact ih (mu mq10061).toNat (by omega) _ _ (by omega) hTq10061 hF10069 hlq10061 q1 (by omega) q4 (by omega)
        · have es10070 : mi 376 1 = m 376 1 := (hFi 376 1 rfl)
          have tb10071 := hT.atp 376 1 0 320 rfl
          have tb10072 := hTi.atp 376 6 0 320 rfl
          have es10073 : mi 376 18 = m 376 18 := (hFi 376 18 rfl)
          have tb10074 := hT.atp 376 18 0 1 rfl
          have es10075 : mi 384 0 = m 384 0 := (hFi 384 0 rfl)
          have tb10076 := hT.atp 384 0 0 10 rfl
          refine YW.mono (t139z_0 hTi hli (by omega) h8i hXi (by omega) (by omega) (by omega) (by omega)) (fun r m2 n2 hq => ?_)
          obtain ⟨rfl, rfl, z1, z2, z3, z4, z5, z6, z7, z8⟩ := hq
          have z9 : m2 384 0 = mi 384 0 := z2 384 0 rfl
          exact ⟨rfl, rfl, z1, hFi.tr z2 (fun _ _ e => e), z3, Or.inr ⟨z5, by omega, z8, by omega, by omega⟩⟩
set_option maxRecDepth 100000 in
theorem t139_0 {L : Nat} {xs : Nat → Int32} {d nn : Nat} {m : yM} (hT : Ty gT m) (hl : m 376 6 ≤ m 376 1) (hn : m 376 18 = 1) (h84 : 1 ≤ m 384 0) (h8 : m 376 8 < 0) (hC : XD 0 m) (hB : m 390 0 + 1 ≤ 2 * m 376 9 + m 384 0) : YC (gZ L xs) (d + 8) 139 [.ref 376] m nn (qU (fun m' n' => n' = nn ∧ Ty gT m' ∧ Fr wBd0 m m' ∧ m' 376 6 ≤ m' 376 1 ∧ (0 ≤ m' 376 8 ∨ (m' 376 8 < 0 ∧ mu m' < mu m ∧ XD 0 m' ∧ m' 390 0 ≤ 2 * m' 376 9 + m' 384 0 ∧ m 390 0 < m' 390 0)))) := by
  refine YC.mkB [some (.ref 376), none] kn139 rfl rfl ?_
  have hF : Fr wBd0 m m := Fr.rf
  refine y_aload 1 c139_0 rfl rfl rfl ?_
  refine y_iconst 2 c139_1 rfl ?_
  refine y_putI 5 c139_2 rfl kf376_10 (y_fit0 _) ?_
  have hT10077 := hT.up 376 10 0 0 3 rfl (by omega)
  have hF10078 := hF.up 376 10 0 rfl
  have es10079 : (yup m 376 10 0) 376 1 = m 376 1 := rfl
  have tb10080 := hT.atp 376 1 0 320 rfl
  have es10081 : (yup m 376 10 0) 376 3 = m 376 3 := rfl
  have tb10082 := hT.atp 376 3 0 3 rfl
  have es10083 : (yup m 376 10 0) 376 6 = m 376 6 := rfl
  have tb10084 := hT.atp 376 6 0 320 rfl
  have es10085 : (yup m 376 10 0) 376 8 = m 376 8 := rfl
  have tb10086 := hT.atp 376 8 ((-1)) 320 rfl
  have es10087 : (yup m 376 10 0) 376 9 = m 376 9 := rfl
  have tb10088 := hT.atp 376 9 0 40 rfl
  have es10089 : (yup m 376 10 0) 390 0 = m 390 0 := rfl
  have tb10090 := hT.atp 390 0 0 125 rfl
  have es10091 : (yup m 376 10 0) 384 0 = m 384 0 := rfl
  have tb10092 := hT.atp 384 0 0 10 rfl
  have em10093 : mu (yup m 376 10 0) = mu m := mu_fr (yup_nk (by decide)) (yup_nk (by decide)) (yup_nk (by decide))
  have hx0 : XS 0 (yup m 376 10 0) := hC.begin (fun a q ha => yup_ne (by rintro ⟨rfl, rfl⟩; simp [vXc] at ha)) (yup_eq _ _ _ _)
  have hp0 : PD (yup m 376 10 0) = 0 := PD.zero (yup_eq _ _ _ _)
  have hlo := mu_lo (m := yup m 376 10 0) (by omega)
  exact t139a_0 hT hl hn h84 (mu (yup m 376 10 0)).toNat _ _ (by omega) hT10077 hF10078 (by omega) (by omega) (by omega) hx0 (by omega)
set_option maxRecDepth 100000 in
theorem t139z_1 {L : Nat} {xs : Nat → Int32} {d nn : Nat} {m : yM} (hT : Ty gT m) (hl : m 376 6 ≤ m 376 1) (hn : m 376 18 = 0) (h8 : m 376 8 < 0) (hX : XS 1 m) (h84 : 1 ≤ m 384 1) (h90 : m 390 1 ≤ 100) (h3 : m 376 3 ≠ 0) (hd : m 376 10 = 0) {x1 : Option Value} : YW (gZ L xs) 139 (d + 8) 28 [some (.ref 376), x1] [] m nn (qU (fun m' n' => n' = nn ∧ Ty gT m' ∧ Fr wBd1 m m' ∧ m' 376 6 ≤ m' 376 1 ∧ m' 376 9 = m 376 9 ∧ m' 376 8 < 0 ∧ mu m' < mu m ∧ m' 390 1 = m 390 1 + 1 ∧ XD 1 m')) := by
  have tb8 := hT.atp 376 8 (-1) 320 rfl
  have tb10 := hT.atp 376 10 0 3 rfl
  have tc383 := hT.atp 383 1 0 6 rfl
  have tc384 := hT.atp 384 1 0 10 rfl
  have tc385 := hT.atp 385 1 0 8 rfl
  have tc386 := hT.atp 386 1 0 12 rfl
  have tc387 := hT.atp 387 1 0 8 rfl
  have tc388 := hT.atp 388 1 0 12 rfl
  have tc389 := hT.atp 389 1 0 48 rfl
  have tc390 := hT.atp 390 1 0 125 rfl
  have hF : Fr wBd1 m m := Fr.rf
  refine y_aload 29 c139_28 rfl rfl rfl ?_
  have tb10095 := hT.atp 376 1 0 320 rfl
  have tb10096 := hT.atp 376 3 0 3 rfl
  have tb10097 := hT.atp 376 6 0 320 rfl
  have tb10098 := hT.atp 376 8 ((-1)) 320 rfl
  refine y_callUB 32 [.ref 376] [] c139_29 rfl rfl rfl rfl rfl (ycanO km99 ko376) (t99u hT (by omega)) (fun mq10094 nq10094 hq10094 => ?_)
  obtain ⟨rfl, hTq10094, hFq10094, hq10094⟩ := hq10094
  have x1q10094 : mq10094 376 1 = m 376 1 := (hFq10094 376 1 rfl)
  have hF10099 := hF.tr hFq10094 wNx_wBd1
  refine y_aload 33 c139_32 rfl rfl rfl ?_
  refine y_iconst 35 c139_33 rfl ?_
  refine y_iconst 36 c139_35 rfl ?_
  refine y_iconst 37 c139_36 rfl ?_
  refine y_iconst 38 c139_37 rfl ?_
  have es10101 : mq10094 376 1 = m 376 1 := (hFq10094 376 1 rfl)
  have tb10102 := hTq10094.atp 376 3 0 3 rfl
  have tb10103 := hTq10094.atp 376 6 0 320 rfl
  have es10104 : mq10094 376 8 = m 376 8 := (hFq10094 376 8 rfl)
  have es10105 : mq10094 376 18 = m 376 18 := (hFq10094 376 18 rfl)
  have tb10106 := hT.atp 376 18 0 1 rfl
  have es10107 : mq10094 390 1 = m 390 1 := (hFq10094 390 1 rfl)
  have es10108 : mq10094 386 1 = m 386 1 := (hFq10094 386 1 rfl)
  have es10109 : mq10094 387 1 = m 387 1 := (hFq10094 387 1 rfl)
  have es10110 : mq10094 388 1 = m 388 1 := (hFq10094 388 1 rfl)
  have es10111 : mq10094 376 17 = m 376 17 := (hFq10094 376 17 rfl)
  have tb10112 := hT.atp 376 17 0 20 rfl
  have es10113 : mq10094 384 1 = m 384 1 := (hFq10094 384 1 rfl)
  have es10114 : mq10094 376 10 = m 376 10 := (hFq10094 376 10 rfl)
  have es10115 : mq10094 376 9 = m 376 9 := (hFq10094 376 9 rfl)
  have tb10116 := hT.atp 376 9 0 40 rfl
  refine y_callIB 41 [.ref 376, yI 12, yI 0, yI 0, yI 0] [] c139_38 rfl rfl rfl rfl rfl (ycanO km127 ko376) (t127_1 hTq10094 (by omega) (by omega) (by omega) (by omega) (by omega) (by omega)) (fun rq10100 mq10100 nq10100 hq10100 => ?_)
  obtain ⟨rfl, hTq10100, hFq10100, hq10100, hE⟩ := hq10100
  unfold EM at hE
  rw [show mq10094 390 1 = m 390 1 from (hFq10094 390 1 rfl)] at hE
  obtain ⟨k1, k2, k3, k4, k5, k6, k7⟩ := hE
  have k8 : ∀ q, q < 1000 * 1 + 8 * (m 390 1).toNat ∨ 1000 * 1 + 8 * (m 390 1).toNat + 8 ≤ q → mq10100 403 q = m 403 q := fun q hq => (k7 q hq).trans ((hFq10094 403 q rfl))
  have x1q10100 : mq10100 376 1 = m 376 1 := ((hFq10100 376 1 rfl).trans (hFq10094 376 1 rfl))
  have hF10117 := hF10099.tr hFq10100 wEm1_wBd1
  refine y_istore 42 c139_41 rfl rfl ?_
  have es10118 : mq10100 376 1 = m 376 1 := ((hFq10100 376 1 rfl).trans (hFq10094 376 1 rfl))
  have es10119 : mq10100 376 3 = mq10094 376 3 := (hFq10100 376 3 rfl)
  have es10120 : mq10100 376 6 = mq10094 376 6 := (hFq10100 376 6 rfl)
  have es10121 : mq10100 376 8 = m 376 8 := ((hFq10100 376 8 rfl).trans (hFq10094 376 8 rfl))
  have tb10122 := hTq10100.atp 390 1 0 125 rfl
  have es10123 : mq10100 386 1 = m 386 1 := ((hFq10100 386 1 rfl).trans (hFq10094 386 1 rfl))
  have es10124 : mq10100 387 1 = m 387 1 := ((hFq10100 387 1 rfl).trans (hFq10094 387 1 rfl))
  have es10125 : mq10100 388 1 = m 388 1 := ((hFq10100 388 1 rfl).trans (hFq10094 388 1 rfl))
  have es10126 : mq10100 376 17 = m 376 17 := ((hFq10100 376 17 rfl).trans (hFq10094 376 17 rfl))
  have es10127 : mq10100 384 1 = m 384 1 := ((hFq10100 384 1 rfl).trans (hFq10094 384 1 rfl))
  have es10128 : mq10100 376 10 = m 376 10 := ((hFq10100 376 10 rfl).trans (hFq10094 376 10 rfl))
  have es10129 : mq10100 376 9 = m 376 9 := ((hFq10100 376 9 rfl).trans (hFq10094 376 9 rfl))
  have em10130 : mu mq10100 = mu mq10094 := mu_fr (hFq10100 376 1 rfl) (hFq10100 376 3 rfl) (hFq10100 376 6 rfl)
  have hw : OW mq10100 (1000 * 1 + 8 * (m 390 1).toNat) := by unfold OW; omega
  have hsc := hX.2.2.2.2.2
  have hCV := hX.2.2.2.2.2.2.2.1
  have hx : XS 1 mq10100 := XS.add hX (by omega) (fun a q ha => (hFq10100 a q (wEm1_Y1 a q ha)).trans (hFq10094 a q (wNx_Y1 a q ha))) k8 hw (by omega) (by omega) (by omega) (by omega) (by omega) (by omega) (by omega) (fun c hc => by rw [show mq10100 401 (8 * 1 + c) = m 401 (8 * 1 + c) from ((hFq10100 401 _ rfl).trans (hFq10094 401 _ rfl))]; exact hCV c (by omega)) (by omega) (by omega)
  have hle : LE 1 mq10100 (mq10100 390 1) := ⟨fun i hi => by have hi2 : i = (m 390 1).toNat := (by omega); subst hi2; exact k2, fun i hi hk2 => by
    by_cases hi2 : i = (m 390 1).toNat
    · subst hi2; omega
    · have e0 := k8 (1000 * 1 + 8 * i) (by omega)
      have e3 := k8 (1000 * 1 + 8 * i + 3) (by omega)
      rw [e0] at hk2
      have h0 := hX.1.2.1 i (by omega) hk2
      rw [e3]
      omega⟩
  exact y_retU c139_42 ⟨rfl, hTq10100, hF10117, by omega, by omega, by omega, by omega, by omega, hx.fin (by omega) hle⟩
set_option maxRecDepth 100000 in
theorem t139e_1 {L : Nat} {xs : Nat → Int32} {d nn : Nat} {m : yM} {mi : yM} (hTi : Ty gT mi) (hFi : Fr wBd1 m mi) (hli : mi 376 6 ≤ mi 376 1) (hw : 0 ≤ mi 376 8) {x1 : Option Value} : YW (gZ L xs) 139 (d + 8) 5 [some (.ref 376), x1] [] mi nn (qU (fun m' n' => n' = nn ∧ Ty gT m' ∧ Fr wBd1 m m' ∧ m' 376 6 ≤ m' 376 1 ∧ (0 ≤ m' 376 8 ∨ (m' 376 8 < 0 ∧ mu m' < mu m ∧ XD 1 m' ∧ m' 390 1 ≤ 2 * m' 376 9 + m' 384 1 ∧ m 390 1 < m' 390 1)))) := by
  have tb := hTi.atp 376 8 (-1) 320 rfl
  refine y_aload 6 c139_5 rfl rfl rfl ?_
  refine y_getX 9 (mi 376 8) c139_6 rfl kf376_8 rfl ?_
  refine y_if 139 12 c139_9 rfl rfl (yz_ge (by omega)) (fun hb => ?_) (fun hb => ?_)
  · exact y_retU c139_139 ⟨rfl, hTi, hFi, hli, Or.inl hw⟩
  · exfalso; omega
set_option maxRecDepth 100000 in
set_option maxHeartbeats 1000000 in
theorem t139a_1 {L : Nat} {xs : Nat → Int32} {d nn : Nat} {m : yM} (hT : Ty gT m) (hl : m 376 6 ≤ m 376 1) (hn : m 376 18 = 0) (h84 : 1 ≤ m 384 1) : ∀ (k : Nat) (x1 : Option Value) (mi : yM), mu mi = k → Ty gT mi → Fr wBd1 m mi → mi 376 6 ≤ mi 376 1 → mi 376 8 < 0 → mu mi ≤ mu m → XS 1 mi → (mi 390 1 + PD mi + 1 ≤ 2 * mi 376 9 + mi 384 1 ∧ m 390 1 ≤ mi 390 1) → YW (gZ L xs) 139 (d + 8) 5 [some (.ref 376), x1] [] mi nn (qU (fun m' n' => n' = nn ∧ Ty gT m' ∧ Fr wBd1 m m' ∧ m' 376 6 ≤ m' 376 1 ∧ (0 ≤ m' 376 8 ∨ (m' 376 8 < 0 ∧ mu m' < mu m ∧ XD 1 m' ∧ m' 390 1 ≤ 2 * m' 376 9 + m' 384 1 ∧ m 390 1 < m' 390 1)))) := by
  intro k
  induction k using Nat.strongRecOn with
  | ind k ih =>
    intro x1 mi hk hTi hFi hli h8i hmu hXi hBi
    have ti376_8 := hTi.atp 376 8 (-1) 320 rfl
    have ti376_9 := hTi.atp 376 9 0 40 rfl
    have ti376_10 := hTi.atp 376 10 0 3 rfl
    have ti384_1 := hTi.atp 384 1 0 10 rfl
    have ti390_1 := hTi.atp 390 1 0 125 rfl
    have hpl := PD.lo (m := mi)
    have em384 : mi 384 1 = m 384 1 := hFi 384 1 rfl
    have em18 : mi 376 18 = m 376 18 := hFi 376 18 rfl
    have em1 : mi 376 1 = m 376 1 := hFi 376 1 rfl
    refine y_aload 6 c139_5 rfl rfl rfl ?_
    refine y_getX 9 (mi 376 8) c139_6 rfl kf376_8 rfl ?_
    refine y_top ((-1)) (by omega) ?_
    refine y_if 139 12 c139_9 rfl rfl (yz_ge (by omega)) (fun hb10131 => ?_) (fun hb10131 => ?_)
    · exfalso; omega
    · refine y_aload 13 c139_12 rfl rfl rfl ?_
      refine y_iconst 15 c139_13 rfl ?_
      have tb10132 := hTi.atp 376 3 0 3 rfl
      refine y_callP 18 [.ref 376, yI 125] [] c139_15 rfl rfl rfl rfl rfl (ycanO km117 ko376) (t117 hTi (by omega)) (fun r10133 hr10133 => ?_)
      refine y_if 50 21 c139_18 rfl rfl (yz_eq (by omega)) (fun hb10134 => ?_) (fun hb10134 => ?_)
      · refine y_aload 51 c139_50 rfl rfl rfl ?_
        refine y_getX 54 (mi 376 9) c139_51 rfl kf376_9 rfl ?_
        refine y_iconst 56 c139_54 rfl ?_
        refine y_icmp 94 59 c139_56 rfl rfl (yc_eq (by omega) (by omega)) (fun hb10135 => ?_) (fun hb10135 => ?_)
        · refine y_aload 95 c139_94 rfl rfl rfl ?_
          have es10137 : mi 376 1 = m 376 1 := (hFi 376 1 rfl)
          have tb10138 := hT.atp 376 1 0 320 rfl
          have tb10139 := hTi.atp 376 6 0 320 rfl
          refine y_callUB 98 [.ref 376] [] c139_95 rfl rfl rfl rfl rfl (ycanO km104 ko376) (t104 hTi) (fun mq10136 nq10136 hq10136 => ?_)
          obtain ⟨rfl, hTq10136, hFq10136, hq10136⟩ := hq10136
          have x1q10136 : mq10136 376 1 = m 376 1 := ((hFq10136 376 1 rfl).trans (hFi 376 1 rfl))
          have hF10140 := hFi.tr hFq10136 wWr_wBd1
          refine y_goto 5 c139_98 rfl ?_
          have es10141 : mq10136 376 1 = m 376 1 := ((hFq10136 376 1 rfl).trans (hFi 376 1 rfl))
          have es10142 : mq10136 376 3 = mi 376 3 := (hFq10136 376 3 rfl)
          have es10143 : mq10136 376 6 = mi 376 6 := (hFq10136 376 6 rfl)
          have tb10144 := hTq10136.atp 376 8 ((-1)) 320 rfl
          exact t139e_1 hTq10136 hF10140 (by omega) (by omega)
        · refine y_aload 60 c139_59 rfl rfl rfl ?_
          refine y_callP 63 [.ref 376] [] c139_60 rfl rfl rfl rfl rfl (ycanO km115 ko376) (t115 hTi) (fun r10145 hr10145 => ?_)
          refine y_if 101 66 c139_63 rfl rfl (yz_ne (by omega)) (fun hb10146 => ?_) (fun hb10146 => ?_)
          · refine y_aload 102 c139_101 rfl rfl rfl ?_
            refine y_dup 103 c139_102 rfl rfl ?_
            refine y_getX 106 (mi 376 9) c139_103 rfl kf376_9 rfl ?_
            refine y_iconst 107 c139_106 rfl ?_
            refine y_iadd 108 c139_107 rfl ?_
            refine y_putI 111 c139_108 rfl kf376_9 (y_fit0 _) ?_
            have hT10147 := hTi.up 376 9 ((mi 376 9) + 1) 0 40 rfl (by omega)
            have hF10148 := hFi.up 376 9 ((mi 376 9) + 1) rfl
            refine y_aload 112 c139_111 rfl rfl rfl ?_
            have es10149 : (yup mi 376 9 ((mi 376 9) + 1)) 376 3 = mi 376 3 := rfl
            refine y_callP 115 [.ref 376] [] c139_112 rfl rfl rfl rfl rfl (ycanO km110 ko376) (t110 hT10147) (fun r10150 hr10150 => ?_)
            refine y_if 125 118 c139_115 rfl rfl (yz_ne (by omega)) (fun hb10151 => ?_) (fun hb10151 => ?_)
            · refine y_aload 126 c139_125 rfl rfl rfl ?_
              have es10153 : (yup mi 376 9 ((mi 376 9) + 1)) 376 1 = m 376 1 := ((yup_nk (by decide)).trans (hFi 376 1 rfl))
              have tb10154 := hT.atp 376 1 0 320 rfl
              have es10155 : (yup mi 376 9 ((mi 376 9) + 1)) 376 3 = mi 376 3 := rfl
              have es10156 : (yup mi 376 9 ((mi 376 9) + 1)) 376 6 = mi 376 6 := rfl
              have tb10157 := hTi.atp 376 6 0 320 rfl
              have es10158 : (yup mi 376 9 ((mi 376 9) + 1)) 376 8 = mi 376 8 := rfl
              have es10159 : (yup mi 376 9 ((mi 376 9) + 1)) 376 18 = m 376 18 := ((yup_nk (by decide)).trans (hFi 376 18 rfl))
              have tb10160 := hT.atp 376 18 0 1 rfl
              have es10161 : (yup mi 376 9 ((mi 376 9) + 1)) 376 10 = mi 376 10 := rfl
              have es10162 : (yup mi 376 9 ((mi 376 9) + 1)) 376 9 = (mi 376 9) + 1 := rfl
              have es10163 : (yup mi 376 9 ((mi 376 9) + 1)) 390 1 = mi 390 1 := rfl
              have es10164 : (yup mi 376 9 ((mi 376 9) + 1)) 384 1 = m 384 1 := ((yup_na (by decide)).trans (hFi 384 1 rfl))
              have tb10165 := hT.atp 384 1 0 10 rfl
              have em10166 : mu (yup mi 376 9 ((mi 376 9) + 1)) = mu mi := mu_fr (yup_nk (by decide)) (yup_nk (by decide)) (yup_nk (by decide))
              have hXc : XS 1 (yup mi 376 9 ((mi 376 9) + 1)) := hXi.fr (fun a q ha => yup_ne (by rintro ⟨rfl, rfl⟩; simp [vXs] at ha))
              have hPc : PD (yup mi 376 9 ((mi 376 9) + 1)) = PD mi := PD.fr rfl (fun q => yup_na (by decide))
              refine y_callUB 129 [.ref 376] [] c139_126 rfl rfl rfl rfl rfl (ycanO km131 ko376) (t131_1 hT10147 (by omega) (by omega) (by omega) hXc (by omega) (by omega) (by omega)) (fun mq10152 nq10152 hq10152 => ?_)
              obtain ⟨rfl, hTq10152, hFq10152, hlq10152, hq10152⟩ := hq10152
              have hF10167 := hF10148.tr hFq10152 (fun _ _ e => e)
              refine y_goto 5 c139_129 rfl ?_
              have c84 : mq10152 384 1 = mi 384 1 := hFq10152 384 1 rfl
              have c9 : mq10152 376 9 = (yup mi 376 9 ((mi 376 9) + 1)) 376 9 := hq10152.1
              have c10 : (yup mi 376 9 ((mi 376 9) + 1)) 376 9 = mi 376 9 + 1 := yup_eq _ _ _ _
              rcases hq10152.2 with q | q
              · exact t139e_1 hTq10152 hF10167 hlq10152 q
              · obtain ⟨q1, q2, ⟨q3, q5⟩, q4⟩ := q
                have hlo := mu_lo hlq10152
                exact ih (mu mq10152).toNat (by omega) _ _ (by omega) hTq10152 hF10167 hlq10152 q1 (by omega) q4 (by omega)
            · refine y_aload 119 c139_118 rfl rfl rfl ?_
              have es10168 : (yup mi 376 9 ((mi 376 9) + 1)) 376 3 = mi 376 3 := rfl
              refine y_callP 122 [.ref 376] [] c139_119 rfl rfl rfl rfl rfl (ycanO km112 ko376) (t112 hT10147) (fun r10169 hr10169 => ?_)
              refine y_if 132 125 c139_122 rfl rfl (yz_eq (by omega)) (fun hb10170 => ?_) (fun hb10170 => ?_)
              · refine y_aload 133 c139_132 rfl rfl rfl ?_
                have es10172 : (yup mi 376 9 ((mi 376 9) + 1)) 376 1 = m 376 1 := ((yup_nk (by decide)).trans (hFi 376 1 rfl))
                have tb10173 := hT.atp 376 1 0 320 rfl
                have es10174 : (yup mi 376 9 ((mi 376 9) + 1)) 376 3 = mi 376 3 := rfl
                have es10175 : (yup mi 376 9 ((mi 376 9) + 1)) 376 6 = mi 376 6 := rfl
                have tb10176 := hTi.atp 376 6 0 320 rfl
                have es10177 : (yup mi 376 9 ((mi 376 9) + 1)) 376 8 = mi 376 8 := rfl
                have es10178 : (yup mi 376 9 ((mi 376 9) + 1)) 376 18 = m 376 18 := ((yup_nk (by decide)).trans (hFi 376 18 rfl))
                have tb10179 := hT.atp 376 18 0 1 rfl
                have es10180 : (yup mi 376 9 ((mi 376 9) + 1)) 376 10 = mi 376 10 := rfl
                have es10181 : (yup mi 376 9 ((mi 376 9) + 1)) 376 9 = (mi 376 9) + 1 := rfl
                have es10182 : (yup mi 376 9 ((mi 376 9) + 1)) 390 1 = mi 390 1 := rfl
                have es10183 : (yup mi 376 9 ((mi 376 9) + 1)) 384 1 = m 384 1 := ((yup_na (by decide)).trans (hFi 384 1 rfl))
                have tb10184 := hT.atp 384 1 0 10 rfl
                have em10185 : mu (yup mi 376 9 ((mi 376 9) + 1)) = mu mi := mu_fr (yup_nk (by decide)) (yup_nk (by decide)) (yup_nk (by decide))
                have hXc : XS 1 (yup mi 376 9 ((mi 376 9) + 1)) := hXi.fr (fun a q ha => yup_ne (by rintro ⟨rfl, rfl⟩; simp [vXs] at ha))
                have hPc : PD (yup mi 376 9 ((mi 376 9) + 1)) = PD mi := PD.fr rfl (fun q => yup_na (by decide))
                refine y_callUB 136 [.ref 376] [] c139_133 rfl rfl rfl rfl rfl (ycanO km138 ko376) (t138_1 hT10147 (by omega) (by omega) (by omega) hXc (by omega) (by omega) (by omega)) (fun mq10171 nq10171 hq10171 => ?_)
                obtain ⟨rfl, hTq10171, hFq10171, hlq10171, hq10171⟩ := hq10171
                have hF10186 := hF10148.tr hFq10171 wSt1_wBd1
                refine y_goto 5 c139_136 rfl ?_
                have c84 : mq10171 384 1 = mi 384 1 := hFq10171 384 1 rfl
                have c9 : mq10171 376 9 = (yup mi 376 9 ((mi 376 9) + 1)) 376 9 := hFq10171 376 9 rfl
                have c10 : (yup mi 376 9 ((mi 376 9) + 1)) 376 9 = mi 376 9 + 1 := yup_eq _ _ _ _
                have cp : PD mq10171 = PD (yup mi 376 9 ((mi 376 9) + 1)) := PD.fr (hFq10171 376 10 rfl) (fun q => hFq10171 378 q rfl)
                rcases hq10171 with q | q
                · exact t139e_1 hTq10171 hF10186 hlq10171 q
                · obtain ⟨q1, q2, q3, q4⟩ := q
                  have hlo := mu_lo hlq10171
                  exact ih (mu mq10171).toNat (by omega) _ _ (by omega) hTq10171 hF10186 hlq10171 q1 (by omega) q4 (by omega)
              · refine y_aload 126 c139_125 rfl rfl rfl ?_
                have es10188 : (yup mi 376 9 ((mi 376 9) + 1)) 376 1 = m 376 1 := ((yup_nk (by decide)).trans (hFi 376 1 rfl))
                have tb10189 := hT.atp 376 1 0 320 rfl
                have es10190 : (yup mi 376 9 ((mi 376 9) + 1)) 376 3 = mi 376 3 := rfl
                have es10191 : (yup mi 376 9 ((mi 376 9) + 1)) 376 6 = mi 376 6 := rfl
                have tb10192 := hTi.atp 376 6 0 320 rfl
                have es10193 : (yup mi 376 9 ((mi 376 9) + 1)) 376 8 = mi 376 8 := rfl
                have es10194 : (yup mi 376 9 ((mi 376 9) + 1)) 376 18 = m 376 18 := ((yup_nk (by decide)).trans (hFi 376 18 rfl))
                have tb10195 := hT.atp 376 18 0 1 rfl
                have es10196 : (yup mi 376 9 ((mi 376 9) + 1)) 376 10 = mi 376 10 := rfl
                have es10197 : (yup mi 376 9 ((mi 376 9) + 1)) 376 9 = (mi 376 9) + 1 := rfl
                have es10198 : (yup mi 376 9 ((mi 376 9) + 1)) 390 1 = mi 390 1 := rfl
                have es10199 : (yup mi 376 9 ((mi 376 9) + 1)) 384 1 = m 384 1 := ((yup_na (by decide)).trans (hFi 384 1 rfl))
                have tb10200 := hT.atp 384 1 0 10 rfl
                have em10201 : mu (yup mi 376 9 ((mi 376 9) + 1)) = mu mi := mu_fr (yup_nk (by decide)) (yup_nk (by decide)) (yup_nk (by decide))
                have hXc : XS 1 (yup mi 376 9 ((mi 376 9) + 1)) := hXi.fr (fun a q ha => yup_ne (by rintro ⟨rfl, rfl⟩; simp [vXs] at ha))
                have hPc : PD (yup mi 376 9 ((mi 376 9) + 1)) = PD mi := PD.fr rfl (fun q => yup_na (by decide))
                refine y_callUB 129 [.ref 376] [] c139_126 rfl rfl rfl rfl rfl (ycanO km131 ko376) (t131_1 hT10147 (by omega) (by omega) (by omega) hXc (by omega) (by omega) (by omega)) (fun mq10187 nq10187 hq10187 => ?_)
                obtain ⟨rfl, hTq10187, hFq10187, hlq10187, hq10187⟩ := hq10187
                have hF10202 := hF10148.tr hFq10187 (fun _ _ e => e)
                refine y_goto 5 c139_129 rfl ?_
                have c84 : mq10187 384 1 = mi 384 1 := hFq10187 384 1 rfl
                have c9 : mq10187 376 9 = (yup mi 376 9 ((mi 376 9) + 1)) 376 9 := hq10187.1
                have c10 : (yup mi 376 9 ((mi 376 9) + 1)) 376 9 = mi 376 9 + 1 := yup_eq _ _ _ _
                rcases hq10187.2 with q | q
                · exact t139e_1 hTq10187 hF10202 hlq10187 q
                · obtain ⟨q1, q2, ⟨q3, q5⟩, q4⟩ := q
                  have hlo := mu_lo hlq10187
                  exact ih (mu mq10187).toNat (by omega) _ _ (by omega) hTq10187 hF10202 hlq10187 q1 (by omega) q4 (by omega)
          · refine y_aload 67 c139_66 rfl rfl rfl ?_
            refine y_callP 70 [.ref 376] [] c139_67 rfl rfl rfl rfl rfl (ycanO km114 ko376) (t114 hTi) (fun r10203 hr10203 => ?_)
            refine y_if 101 73 c139_70 rfl rfl (yz_ne (by omega)) (fun hb10204 => ?_) (fun hb10204 => ?_)
            · refine y_aload 102 c139_101 rfl rfl rfl ?_
              refine y_dup 103 c139_102 rfl rfl ?_
              refine y_getX 106 (mi 376 9) c139_103 rfl kf376_9 rfl ?_
              refine y_iconst 107 c139_106 rfl ?_
              refine y_iadd 108 c139_107 rfl ?_
              refine y_putI 111 c139_108 rfl kf376_9 (y_fit0 _) ?_
              have hT10205 := hTi.up 376 9 ((mi 376 9) + 1) 0 40 rfl (by omega)
              have hF10206 := hFi.up 376 9 ((mi 376 9) + 1) rfl
              refine y_aload 112 c139_111 rfl rfl rfl ?_
              have es10207 : (yup mi 376 9 ((mi 376 9) + 1)) 376 3 = mi 376 3 := rfl
              refine y_callP 115 [.ref 376] [] c139_112 rfl rfl rfl rfl rfl (ycanO km110 ko376) (t110 hT10205) (fun r10208 hr10208 => ?_)
              refine y_if 125 118 c139_115 rfl rfl (yz_ne (by omega)) (fun hb10209 => ?_) (fun hb10209 => ?_)
              · refine y_aload 126 c139_125 rfl rfl rfl ?_
                have es10211 : (yup mi 376 9 ((mi 376 9) + 1)) 376 1 = m 376 1 := ((yup_nk (by decide)).trans (hFi 376 1 rfl))
                have tb10212 := hT.atp 376 1 0 320 rfl
                have es10213 : (yup mi 376 9 ((mi 376 9) + 1)) 376 3 = mi 376 3 := rfl
                have es10214 : (yup mi 376 9 ((mi 376 9) + 1)) 376 6 = mi 376 6 := rfl
                have tb10215 := hTi.atp 376 6 0 320 rfl
                have es10216 : (yup mi 376 9 ((mi 376 9) + 1)) 376 8 = mi 376 8 := rfl
                have es10217 : (yup mi 376 9 ((mi 376 9) + 1)) 376 18 = m 376 18 := ((yup_nk (by decide)).trans (hFi 376 18 rfl))
                have tb10218 := hT.atp 376 18 0 1 rfl
                have es10219 : (yup mi 376 9 ((mi 376 9) + 1)) 376 10 = mi 376 10 := rfl
                have es10220 : (yup mi 376 9 ((mi 376 9) + 1)) 376 9 = (mi 376 9) + 1 := rfl
                have es10221 : (yup mi 376 9 ((mi 376 9) + 1)) 390 1 = mi 390 1 := rfl
                have es10222 : (yup mi 376 9 ((mi 376 9) + 1)) 384 1 = m 384 1 := ((yup_na (by decide)).trans (hFi 384 1 rfl))
                have tb10223 := hT.atp 384 1 0 10 rfl
                have em10224 : mu (yup mi 376 9 ((mi 376 9) + 1)) = mu mi := mu_fr (yup_nk (by decide)) (yup_nk (by decide)) (yup_nk (by decide))
                have hXc : XS 1 (yup mi 376 9 ((mi 376 9) + 1)) := hXi.fr (fun a q ha => yup_ne (by rintro ⟨rfl, rfl⟩; simp [vXs] at ha))
                have hPc : PD (yup mi 376 9 ((mi 376 9) + 1)) = PD mi := PD.fr rfl (fun q => yup_na (by decide))
                refine y_callUB 129 [.ref 376] [] c139_126 rfl rfl rfl rfl rfl (ycanO km131 ko376) (t131_1 hT10205 (by omega) (by omega) (by omega) hXc (by omega) (by omega) (by omega)) (fun mq10210 nq10210 hq10210 => ?_)
                obtain ⟨rfl, hTq10210, hFq10210, hlq10210, hq10210⟩ := hq10210
                have hF10225 := hF10206.tr hFq10210 (fun _ _ e => e)
                refine y_goto 5 c139_129 rfl ?_
                have c84 : mq10210 384 1 = mi 384 1 := hFq10210 384 1 rfl
                have c9 : mq10210 376 9 = (yup mi 376 9 ((mi 376 9) + 1)) 376 9 := hq10210.1
                have c10 : (yup mi 376 9 ((mi 376 9) + 1)) 376 9 = mi 376 9 + 1 := yup_eq _ _ _ _
                rcases hq10210.2 with q | q
                · exact t139e_1 hTq10210 hF10225 hlq10210 q
                · obtain ⟨q1, q2, ⟨q3, q5⟩, q4⟩ := q
                  have hlo := mu_lo hlq10210
                  exact ih (mu mq10210).toNat (by omega) _ _ (by omega) hTq10210 hF10225 hlq10210 q1 (by omega) q4 (by omega)
              · refine y_aload 119 c139_118 rfl rfl rfl ?_
                have es10226 : (yup mi 376 9 ((mi 376 9) + 1)) 376 3 = mi 376 3 := rfl
                refine y_callP 122 [.ref 376] [] c139_119 rfl rfl rfl rfl rfl (ycanO km112 ko376) (t112 hT10205) (fun r10227 hr10227 => ?_)
                refine y_if 132 125 c139_122 rfl rfl (yz_eq (by omega)) (fun hb10228 => ?_) (fun hb10228 => ?_)
                · refine y_aload 133 c139_132 rfl rfl rfl ?_
                  have es10230 : (yup mi 376 9 ((mi 376 9) + 1)) 376 1 = m 376 1 := ((yup_nk (by decide)).trans (hFi 376 1 rfl))
                  have tb10231 := hT.atp 376 1 0 320 rfl
                  have es10232 : (yup mi 376 9 ((mi 376 9) + 1)) 376 3 = mi 376 3 := rfl
                  have es10233 : (yup mi 376 9 ((mi 376 9) + 1)) 376 6 = mi 376 6 := rfl
                  have tb10234 := hTi.atp 376 6 0 320 rfl
                  have es10235 : (yup mi 376 9 ((mi 376 9) + 1)) 376 8 = mi 376 8 := rfl
                  have es10236 : (yup mi 376 9 ((mi 376 9) + 1)) 376 18 = m 376 18 := ((yup_nk (by decide)).trans (hFi 376 18 rfl))
                  have tb10237 := hT.atp 376 18 0 1 rfl
                  have es10238 : (yup mi 376 9 ((mi 376 9) + 1)) 376 10 = mi 376 10 := rfl
                  have es10239 : (yup mi 376 9 ((mi 376 9) + 1)) 376 9 = (mi 376 9) + 1 := rfl
                  have es10240 : (yup mi 376 9 ((mi 376 9) + 1)) 390 1 = mi 390 1 := rfl
                  have es10241 : (yup mi 376 9 ((mi 376 9) + 1)) 384 1 = m 384 1 := ((yup_na (by decide)).trans (hFi 384 1 rfl))
                  have tb10242 := hT.atp 384 1 0 10 rfl
                  have em10243 : mu (yup mi 376 9 ((mi 376 9) + 1)) = mu mi := mu_fr (yup_nk (by decide)) (yup_nk (by decide)) (yup_nk (by decide))
                  have hXc : XS 1 (yup mi 376 9 ((mi 376 9) + 1)) := hXi.fr (fun a q ha => yup_ne (by rintro ⟨rfl, rfl⟩; simp [vXs] at ha))
                  have hPc : PD (yup mi 376 9 ((mi 376 9) + 1)) = PD mi := PD.fr rfl (fun q => yup_na (by decide))
                  refine y_callUB 136 [.ref 376] [] c139_133 rfl rfl rfl rfl rfl (ycanO km138 ko376) (t138_1 hT10205 (by omega) (by omega) (by omega) hXc (by omega) (by omega) (by omega)) (fun mq10229 nq10229 hq10229 => ?_)
                  obtain ⟨rfl, hTq10229, hFq10229, hlq10229, hq10229⟩ := hq10229
                  have hF10244 := hF10206.tr hFq10229 wSt1_wBd1
                  refine y_goto 5 c139_136 rfl ?_
                  have c84 : mq10229 384 1 = mi 384 1 := hFq10229 384 1 rfl
                  have c9 : mq10229 376 9 = (yup mi 376 9 ((mi 376 9) + 1)) 376 9 := hFq10229 376 9 rfl
                  have c10 : (yup mi 376 9 ((mi 376 9) + 1)) 376 9 = mi 376 9 + 1 := yup_eq _ _ _ _
                  have cp : PD mq10229 = PD (yup mi 376 9 ((mi 376 9) + 1)) := PD.fr (hFq10229 376 10 rfl) (fun q => hFq10229 378 q rfl)
                  rcases hq10229 with q | q
                  · exact t139e_1 hTq10229 hF10244 hlq10229 q
                  · obtain ⟨q1, q2, q3, q4⟩ := q
                    have hlo := mu_lo hlq10229
                    exact ih (mu mq10229).toNat (by omega) _ _ (by omega) hTq10229 hF10244 hlq10229 q1 (by omega) q4 (by omega)
                · refine y_aload 126 c139_125 rfl rfl rfl ?_
                  have es10246 : (yup mi 376 9 ((mi 376 9) + 1)) 376 1 = m 376 1 := ((yup_nk (by decide)).trans (hFi 376 1 rfl))
                  have tb10247 := hT.atp 376 1 0 320 rfl
                  have es10248 : (yup mi 376 9 ((mi 376 9) + 1)) 376 3 = mi 376 3 := rfl
                  have es10249 : (yup mi 376 9 ((mi 376 9) + 1)) 376 6 = mi 376 6 := rfl
                  have tb10250 := hTi.atp 376 6 0 320 rfl
                  have es10251 : (yup mi 376 9 ((mi 376 9) + 1)) 376 8 = mi 376 8 := rfl
                  have es10252 : (yup mi 376 9 ((mi 376 9) + 1)) 376 18 = m 376 18 := ((yup_nk (by decide)).trans (hFi 376 18 rfl))
                  have tb10253 := hT.atp 376 18 0 1 rfl
                  have es10254 : (yup mi 376 9 ((mi 376 9) + 1)) 376 10 = mi 376 10 := rfl
                  have es10255 : (yup mi 376 9 ((mi 376 9) + 1)) 376 9 = (mi 376 9) + 1 := rfl
                  have es10256 : (yup mi 376 9 ((mi 376 9) + 1)) 390 1 = mi 390 1 := rfl
                  have es10257 : (yup mi 376 9 ((mi 376 9) + 1)) 384 1 = m 384 1 := ((yup_na (by decide)).trans (hFi 384 1 rfl))
                  have tb10258 := hT.atp 384 1 0 10 rfl
                  have em10259 : mu (yup mi 376 9 ((mi 376 9) + 1)) = mu mi := mu_fr (yup_nk (by decide)) (yup_nk (by decide)) (yup_nk (by decide))
                  have hXc : XS 1 (yup mi 376 9 ((mi 376 9) + 1)) := hXi.fr (fun a q ha => yup_ne (by rintro ⟨rfl, rfl⟩; simp [vXs] at ha))
                  have hPc : PD (yup mi 376 9 ((mi 376 9) + 1)) = PD mi := PD.fr rfl (fun q => yup_na (by decide))
                  refine y_callUB 129 [.ref 376] [] c139_126 rfl rfl rfl rfl rfl (ycanO km131 ko376) (t131_1 hT10205 (by omega) (by omega) (by omega) hXc (by omega) (by omega) (by omega)) (fun mq10245 nq10245 hq10245 => ?_)
                  obtain ⟨rfl, hTq10245, hFq10245, hlq10245, hq10245⟩ := hq10245
                  have hF10260 := hF10206.tr hFq10245 (fun _ _ e => e)
                  refine y_goto 5 c139_129 rfl ?_
                  have c84 : mq10245 384 1 = mi 384 1 := hFq10245 384 1 rfl
                  have c9 : mq10245 376 9 = (yup mi 376 9 ((mi 376 9) + 1)) 376 9 := hq10245.1
                  have c10 : (yup mi 376 9 ((mi 376 9) + 1)) 376 9 = mi 376 9 + 1 := yup_eq _ _ _ _
                  rcases hq10245.2 with q | q
                  · exact t139e_1 hTq10245 hF10260 hlq10245 q
                  · obtain ⟨q1, q2, ⟨q3, q5⟩, q4⟩ := q
                    have hlo := mu_lo hlq10245
                    exact ih (mu mq10245).toNat (by omega) _ _ (by omega) hTq10245 hF10260 hlq10245 q1 (by omega) q4 (by omega)
            · refine y_aload 74 c139_73 rfl rfl rfl ?_
              refine y_callP 77 [.ref 376] [] c139_74 rfl rfl rfl rfl rfl (ycanO km110 ko376) (t110 hTi) (fun r10261 hr10261 => ?_)
              refine y_if 101 80 c139_77 rfl rfl (yz_ne (by omega)) (fun hb10262 => ?_) (fun hb10262 => ?_)
              · refine y_aload 102 c139_101 rfl rfl rfl ?_
                refine y_dup 103 c139_102 rfl rfl ?_
                refine y_getX 106 (mi 376 9) c139_103 rfl kf376_9 rfl ?_
                refine y_iconst 107 c139_106 rfl ?_
                refine y_iadd 108 c139_107 rfl ?_
                refine y_putI 111 c139_108 rfl kf376_9 (y_fit0 _) ?_
                have hT10263 := hTi.up 376 9 ((mi 376 9) + 1) 0 40 rfl (by omega)
                have hF10264 := hFi.up 376 9 ((mi 376 9) + 1) rfl
                refine y_aload 112 c139_111 rfl rfl rfl ?_
                have es10265 : (yup mi 376 9 ((mi 376 9) + 1)) 376 3 = mi 376 3 := rfl
                refine y_callP 115 [.ref 376] [] c139_112 rfl rfl rfl rfl rfl (ycanO km110 ko376) (t110 hT10263) (fun r10266 hr10266 => ?_)
                refine y_if 125 118 c139_115 rfl rfl (yz_ne (by omega)) (fun hb10267 => ?_) (fun hb10267 => ?_)
                · refine y_aload 126 c139_125 rfl rfl rfl ?_
                  have es10269 : (yup mi 376 9 ((mi 376 9) + 1)) 376 1 = m 376 1 := ((yup_nk (by decide)).trans (hFi 376 1 rfl))
                  have tb10270 := hT.atp 376 1 0 320 rfl
                  have es10271 : (yup mi 376 9 ((mi 376 9) + 1)) 376 3 = mi 376 3 := rfl
                  have es10272 : (yup mi 376 9 ((mi 376 9) + 1)) 376 6 = mi 376 6 := rfl
                  have tb10273 := hTi.atp 376 6 0 320 rfl
                  have es10274 : (yup mi 376 9 ((mi 376 9) + 1)) 376 8 = mi 376 8 := rfl
                  have es10275 : (yup mi 376 9 ((mi 376 9) + 1)) 376 18 = m 376 18 := ((yup_nk (by decide)).trans (hFi 376 18 rfl))
                  have tb10276 := hT.atp 376 18 0 1 rfl
                  have es10277 : (yup mi 376 9 ((mi 376 9) + 1)) 376 10 = mi 376 10 := rfl
                  have es10278 : (yup mi 376 9 ((mi 376 9) + 1)) 376 9 = (mi 376 9) + 1 := rfl
                  have es10279 : (yup mi 376 9 ((mi 376 9) + 1)) 390 1 = mi 390 1 := rfl
                  have es10280 : (yup mi 376 9 ((mi 376 9) + 1)) 384 1 = m 384 1 := ((yup_na (by decide)).trans (hFi 384 1 rfl))
                  have tb10281 := hT.atp 384 1 0 10 rfl
                  have em10282 : mu (yup mi 376 9 ((mi 376 9) + 1)) = mu mi := mu_fr (yup_nk (by decide)) (yup_nk (by decide)) (yup_nk (by decide))
                  have hXc : XS 1 (yup mi 376 9 ((mi 376 9) + 1)) := hXi.fr (fun a q ha => yup_ne (by rintro ⟨rfl, rfl⟩; simp [vXs] at ha))
                  have hPc : PD (yup mi 376 9 ((mi 376 9) + 1)) = PD mi := PD.fr rfl (fun q => yup_na (by decide))
                  refine y_callUB 129 [.ref 376] [] c139_126 rfl rfl rfl rfl rfl (ycanO km131 ko376) (t131_1 hT10263 (by omega) (by omega) (by omega) hXc (by omega) (by omega) (by omega)) (fun mq10268 nq10268 hq10268 => ?_)
                  obtain ⟨rfl, hTq10268, hFq10268, hlq10268, hq10268⟩ := hq10268
                  have hF10283 := hF10264.tr hFq10268 (fun _ _ e => e)
                  refine y_goto 5 c139_129 rfl ?_
                  have c84 : mq10268 384 1 = mi 384 1 := hFq10268 384 1 rfl
                  have c9 : mq10268 376 9 = (yup mi 376 9 ((mi 376 9) + 1)) 376 9 := hq10268.1
                  have c10 : (yup mi 376 9 ((mi 376 9) + 1)) 376 9 = mi 376 9 + 1 := yup_eq _ _ _ _
                  rcases hq10268.2 with q | q
                  · exact t139e_1 hTq10268 hF10283 hlq10268 q
                  · obtain ⟨q1, q2, ⟨q3, q5⟩, q4⟩ := q
                    have hlo := mu_lo hlq10268
                    exact ih (mu mq10268).toNat (by omega) _ _ (by omega) hTq10268 hF10283 hlq10268 q1 (by omega) q4 (by omega)
                · refine y_aload 119 c139_118 rfl rfl rfl ?_
                  have es10284 : (yup mi 376 9 ((mi 376 9) + 1)) 376 3 = mi 376 3 := rfl
                  refine y_callP 122 [.ref 376] [] c139_119 rfl rfl rfl rfl rfl (ycanO km112 ko376) (t112 hT10263) (fun r10285 hr10285 => ?_)
                  refine y_if 132 125 c139_122 rfl rfl (yz_eq (by omega)) (fun hb10286 => ?_) (fun hb10286 => ?_)
                  · refine y_aload 133 c139_132 rfl rfl rfl ?_
                    have es10288 : (yup mi 376 9 ((mi 376 9) + 1)) 376 1 = m 376 1 := ((yup_nk (by decide)).trans (hFi 376 1 rfl))
                    have tb10289 := hT.atp 376 1 0 320 rfl
                    have es10290 : (yup mi 376 9 ((mi 376 9) + 1)) 376 3 = mi 376 3 := rfl
                    have es10291 : (yup mi 376 9 ((mi 376 9) + 1)) 376 6 = mi 376 6 := rfl
                    have tb10292 := hTi.atp 376 6 0 320 rfl
                    have es10293 : (yup mi 376 9 ((mi 376 9) + 1)) 376 8 = mi 376 8 := rfl
                    have es10294 : (yup mi 376 9 ((mi 376 9) + 1)) 376 18 = m 376 18 := ((yup_nk (by decide)).trans (hFi 376 18 rfl))
                    have tb10295 := hT.atp 376 18 0 1 rfl
                    have es10296 : (yup mi 376 9 ((mi 376 9) + 1)) 376 10 = mi 376 10 := rfl
                    have es10297 : (yup mi 376 9 ((mi 376 9) + 1)) 376 9 = (mi 376 9) + 1 := rfl
                    have es10298 : (yup mi 376 9 ((mi 376 9) + 1)) 390 1 = mi 390 1 := rfl
                    have es10299 : (yup mi 376 9 ((mi 376 9) + 1)) 384 1 = m 384 1 := ((yup_na (by decide)).trans (hFi 384 1 rfl))
                    have tb10300 := hT.atp 384 1 0 10 rfl
                    have em10301 : mu (yup mi 376 9 ((mi 376 9) + 1)) = mu mi := mu_fr (yup_nk (by decide)) (yup_nk (by decide)) (yup_nk (by decide))
                    have hXc : XS 1 (yup mi 376 9 ((mi 376 9) + 1)) := hXi.fr (fun a q ha => yup_ne (by rintro ⟨rfl, rfl⟩; simp [vXs] at ha))
                    have hPc : PD (yup mi 376 9 ((mi 376 9) + 1)) = PD mi := PD.fr rfl (fun q => yup_na (by decide))
                    refine y_callUB 136 [.ref 376] [] c139_133 rfl rfl rfl rfl rfl (ycanO km138 ko376) (t138_1 hT10263 (by omega) (by omega) (by omega) hXc (by omega) (by omega) (by omega)) (fun mq10287 nq10287 hq10287 => ?_)
                    obtain ⟨rfl, hTq10287, hFq10287, hlq10287, hq10287⟩ := hq10287
                    have hF10302 := hF10264.tr hFq10287 wSt1_wBd1
                    refine y_goto 5 c139_136 rfl ?_
                    have c84 : mq10287 384 1 = mi 384 1 := hFq10287 384 1 rfl
                    have c9 : mq10287 376 9 = (yup mi 376 9 ((mi 376 9) + 1)) 376 9 := hFq10287 376 9 rfl
                    have c10 : (yup mi 376 9 ((mi 376 9) + 1)) 376 9 = mi 376 9 + 1 := yup_eq _ _ _ _
                    have cp : PD mq10287 = PD (yup mi 376 9 ((mi 376 9) + 1)) := PD.fr (hFq10287 376 10 rfl) (fun q => hFq10287 378 q rfl)
                    rcases hq10287 with q | q
                    · exact t139e_1 hTq10287 hF10302 hlq10287 q
                    · obtain ⟨q1, q2, q3, q4⟩ := q
                      have hlo := mu_lo hlq10287
                      exact ih (mu mq10287).toNat (by omega) _ _ (by omega) hTq10287 hF10302 hlq10287 q1 (by omega) q4 (by omega)
                  · refine y_aload 126 c139_125 rfl rfl rfl ?_
                    have es10304 : (yup mi 376 9 ((mi 376 9) + 1)) 376 1 = m 376 1 := ((yup_nk (by decide)).trans (hFi 376 1 rfl))
                    have tb10305 := hT.atp 376 1 0 320 rfl
                    have es10306 : (yup mi 376 9 ((mi 376 9) + 1)) 376 3 = mi 376 3 := rfl
                    have es10307 : (yup mi 376 9 ((mi 376 9) + 1)) 376 6 = mi 376 6 := rfl
                    have tb10308 := hTi.atp 376 6 0 320 rfl
                    have es10309 : (yup mi 376 9 ((mi 376 9) + 1)) 376 8 = mi 376 8 := rfl
                    have es10310 : (yup mi 376 9 ((mi 376 9) + 1)) 376 18 = m 376 18 := ((yup_nk (by decide)).trans (hFi 376 18 rfl))
                    have tb10311 := hT.atp 376 18 0 1 rfl
                    have es10312 : (yup mi 376 9 ((mi 376 9) + 1)) 376 10 = mi 376 10 := rfl
                    have es10313 : (yup mi 376 9 ((mi 376 9) + 1)) 376 9 = (mi 376 9) + 1 := rfl
                    have es10314 : (yup mi 376 9 ((mi 376 9) + 1)) 390 1 = mi 390 1 := rfl
                    have es10315 : (yup mi 376 9 ((mi 376 9) + 1)) 384 1 = m 384 1 := ((yup_na (by decide)).trans (hFi 384 1 rfl))
                    have tb10316 := hT.atp 384 1 0 10 rfl
                    have em10317 : mu (yup mi 376 9 ((mi 376 9) + 1)) = mu mi := mu_fr (yup_nk (by decide)) (yup_nk (by decide)) (yup_nk (by decide))
                    have hXc : XS 1 (yup mi 376 9 ((mi 376 9) + 1)) := hXi.fr (fun a q ha => yup_ne (by rintro ⟨rfl, rfl⟩; simp [vXs] at ha))
                    have hPc : PD (yup mi 376 9 ((mi 376 9) + 1)) = PD mi := PD.fr rfl (fun q => yup_na (by decide))
                    refine y_callUB 129 [.ref 376] [] c139_126 rfl rfl rfl rfl rfl (ycanO km131 ko376) (t131_1 hT10263 (by omega) (by omega) (by omega) hXc (by omega) (by omega) (by omega)) (fun mq10303 nq10303 hq10303 => ?_)
                    obtain ⟨rfl, hTq10303, hFq10303, hlq10303, hq10303⟩ := hq10303
                    have hF10318 := hF10264.tr hFq10303 (fun _ _ e => e)
                    refine y_goto 5 c139_129 rfl ?_
                    have c84 : mq10303 384 1 = mi 384 1 := hFq10303 384 1 rfl
                    have c9 : mq10303 376 9 = (yup mi 376 9 ((mi 376 9) + 1)) 376 9 := hq10303.1
                    have c10 : (yup mi 376 9 ((mi 376 9) + 1)) 376 9 = mi 376 9 + 1 := yup_eq _ _ _ _
                    rcases hq10303.2 with q | q
                    · exact t139e_1 hTq10303 hF10318 hlq10303 q
                    · obtain ⟨q1, q2, ⟨q3, q5⟩, q4⟩ := q
                      have hlo := mu_lo hlq10303
                      exact ih (mu mq10303).toNat (by omega) _ _ (by omega) hTq10303 hF10318 hlq10303 q1 (by omega) q4 (by omega)
              · refine y_aload 81 c139_80 rfl rfl rfl ?_
                refine y_callP 84 [.ref 376] [] c139_81 rfl rfl rfl rfl rfl (ycanO km112 ko376) (t112 hTi) (fun r10319 hr10319 => ?_)
                refine y_if 101 87 c139_84 rfl rfl (yz_ne (by omega)) (fun hb10320 => ?_) (fun hb10320 => ?_)
                · refine y_aload 102 c139_101 rfl rfl rfl ?_
                  refine y_dup 103 c139_102 rfl rfl ?_
                  refine y_getX 106 (mi 376 9) c139_103 rfl kf376_9 rfl ?_
                  refine y_iconst 107 c139_106 rfl ?_
                  refine y_iadd 108 c139_107 rfl ?_
                  refine y_putI 111 c139_108 rfl kf376_9 (y_fit0 _) ?_
                  have hT10321 := hTi.up 376 9 ((mi 376 9) + 1) 0 40 rfl (by omega)
                  have hF10322 := hFi.up 376 9 ((mi 376 9) + 1) rfl
                  refine y_aload 112 c139_111 rfl rfl rfl ?_
                  have es10323 : (yup mi 376 9 ((mi 376 9) + 1)) 376 3 = mi 376 3 := rfl
                  refine y_callP 115 [.ref 376] [] c139_112 rfl rfl rfl rfl rfl (ycanO km110 ko376) (t110 hT10321) (fun r10324 hr10324 => ?_)
                  refine y_if 125 118 c139_115 rfl rfl (yz_ne (by omega)) (fun hb10325 => ?_) (fun hb10325 => ?_)
                  · refine y_aload 126 c139_125 rfl rfl rfl ?_
                    have es10327 : (yup mi 376 9 ((mi 376 9) + 1)) 376 1 = m 376 1 := ((yup_nk (by decide)).trans (hFi 376 1 rfl))
                    have tb10328 := hT.atp 376 1 0 320 rfl
                    have es10329 : (yup mi 376 9 ((mi 376 9) + 1)) 376 3 = mi 376 3 := rfl
                    have es10330 : (yup mi 376 9 ((mi 376 9) + 1)) 376 6 = mi 376 6 := rfl
                    have tb10331 := hTi.atp 376 6 0 320 rfl
                    have es10332 : (yup mi 376 9 ((mi 376 9) + 1)) 376 8 = mi 376 8 := rfl
                    have es10333 : (yup mi 376 9 ((mi 376 9) + 1)) 376 18 = m 376 18 := ((yup_nk (by decide)).trans (hFi 376 18 rfl))
                    have tb10334 := hT.atp 376 18 0 1 rfl
                    have es10335 : (yup mi 376 9 ((mi 376 9) + 1)) 376 10 = mi 376 10 := rfl
                    have es10336 : (yup mi 376 9 ((mi 376 9) + 1)) 376 9 = (mi 376 9) + 1 := rfl
                    have es10337 : (yup mi 376 9 ((mi 376 9) + 1)) 390 1 = mi 390 1 := rfl
                    have es10338 : (yup mi 376 9 ((mi 376 9) + 1)) 384 1 = m 384 1 := ((yup_na (by decide)).trans (hFi 384 1 rfl))
                    have tb10339 := hT.atp 384 1 0 10 rfl
                    have em10340 : mu (yup mi 376 9 ((mi 376 9) + 1)) = mu mi := mu_fr (yup_nk (by decide)) (yup_nk (by decide)) (yup_nk (by decide))
                    have hXc : XS 1 (yup mi 376 9 ((mi 376 9) + 1)) := hXi.fr (fun a q ha => yup_ne (by rintro ⟨rfl, rfl⟩; simp [vXs] at ha))
                    have hPc : PD (yup mi 376 9 ((mi 376 9) + 1)) = PD mi := PD.fr rfl (fun q => yup_na (by decide))
                    refine y_callUB 129 [.ref 376] [] c139_126 rfl rfl rfl rfl rfl (ycanO km131 ko376) (t131_1 hT10321 (by omega) (by omega) (by omega) hXc (by omega) (by omega) (by omega)) (fun mq10326 nq10326 hq10326 => ?_)
                    obtain ⟨rfl, hTq10326, hFq10326, hlq10326, hq10326⟩ := hq10326
                    have hF10341 := hF10322.tr hFq10326 (fun _ _ e => e)
                    refine y_goto 5 c139_129 rfl ?_
                    have c84 : mq10326 384 1 = mi 384 1 := hFq10326 384 1 rfl
                    have c9 : mq10326 376 9 = (yup mi 376 9 ((mi 376 9) + 1)) 376 9 := hq10326.1
                    have c10 : (yup mi 376 9 ((mi 376 9) + 1)) 376 9 = mi 376 9 + 1 := yup_eq _ _ _ _
                    rcases hq10326.2 with q | q
                    · exact t139e_1 hTq10326 hF10341 hlq10326 q
                    · obtain ⟨q1, q2, ⟨q3, q5⟩, q4⟩ := q
                      have hlo := mu_lo hlq10326
                      exact ih (mu mq10326).toNat (by omega) _ _ (by omega) hTq10326 hF10341 hlq10326 q1 (by omega) q4 (by omega)
                  · refine y_aload 119 c139_118 rfl rfl rfl ?_
                    have es10342 : (yup mi 376 9 ((mi 376 9) + 1)) 376 3 = mi 376 3 := rfl
                    refine y_callP 122 [.ref 376] [] c139_119 rfl rfl rfl rfl rfl (ycanO km112 ko376) (t112 hT10321) (fun r10343 hr10343 => ?_)
                    refine y_if 132 125 c139_122 rfl rfl (yz_eq (by omega)) (fun hb10344 => ?_) (fun hb10344 => ?_)
                    · refine y_aload 133 c139_132 rfl rfl rfl ?_
                      have es10346 : (yup mi 376 9 ((mi 376 9) + 1)) 376 1 = m 376 1 := ((yup_nk (by decide)).trans (hFi 376 1 rfl))
                      have tb10347 := hT.atp 376 1 0 320 rfl
                      have es10348 : (yup mi 376 9 ((mi 376 9) + 1)) 376 3 = mi 376 3 := rfl
                      have es10349 : (yup mi 376 9 ((mi 376 9) + 1)) 376 6 = mi 376 6 := rfl
                      have tb10350 := hTi.atp 376 6 0 320 rfl
                      have es10351 : (yup mi 376 9 ((mi 376 9) + 1)) 376 8 = mi 376 8 := rfl
                      have es10352 : (yup mi 376 9 ((mi 376 9) + 1)) 376 18 = m 376 18 := ((yup_nk (by decide)).trans (hFi 376 18 rfl))
                      have tb10353 := hT.atp 376 18 0 1 rfl
                      have es10354 : (yup mi 376 9 ((mi 376 9) + 1)) 376 10 = mi 376 10 := rfl
                      have es10355 : (yup mi 376 9 ((mi 376 9) + 1)) 376 9 = (mi 376 9) + 1 := rfl
                      have es10356 : (yup mi 376 9 ((mi 376 9) + 1)) 390 1 = mi 390 1 := rfl
                      have es10357 : (yup mi 376 9 ((mi 376 9) + 1)) 384 1 = m 384 1 := ((yup_na (by decide)).trans (hFi 384 1 rfl))
                      have tb10358 := hT.atp 384 1 0 10 rfl
                      have em10359 : mu (yup mi 376 9 ((mi 376 9) + 1)) = mu mi := mu_fr (yup_nk (by decide)) (yup_nk (by decide)) (yup_nk (by decide))
                      have hXc : XS 1 (yup mi 376 9 ((mi 376 9) + 1)) := hXi.fr (fun a q ha => yup_ne (by rintro ⟨rfl, rfl⟩; simp [vXs] at ha))
                      have hPc : PD (yup mi 376 9 ((mi 376 9) + 1)) = PD mi := PD.fr rfl (fun q => yup_na (by decide))
                      refine y_callUB 136 [.ref 376] [] c139_133 rfl rfl rfl rfl rfl (ycanO km138 ko376) (t138_1 hT10321 (by omega) (by omega) (by omega) hXc (by omega) (by omega) (by omega)) (fun mq10345 nq10345 hq10345 => ?_)
                      obtain ⟨rfl, hTq10345, hFq10345, hlq10345, hq10345⟩ := hq10345
                      have hF10360 := hF10322.tr hFq10345 wSt1_wBd1
                      refine y_goto 5 c139_136 rfl ?_
                      have c84 : mq10345 384 1 = mi 384 1 := hFq10345 384 1 rfl
                      have c9 : mq10345 376 9 = (yup mi 376 9 ((mi 376 9) + 1)) 376 9 := hFq10345 376 9 rfl
                      have c10 : (yup mi 376 9 ((mi 376 9) + 1)) 376 9 = mi 376 9 + 1 := yup_eq _ _ _ _
                      have cp : PD mq10345 = PD (yup mi 376 9 ((mi 376 9) + 1)) := PD.fr (hFq10345 376 10 rfl) (fun q => hFq10345 378 q rfl)
                      rcases hq10345 with q | q
                      · exact t139e_1 hTq10345 hF10360 hlq10345 q
                      · obtain ⟨q1, q2, q3, q4⟩ := q
                        have hlo := mu_lo hlq10345
                        exact ih (mu mq10345).toNat (by omega) _ _ (by omega) hTq10345 hF10360 hlq10345 q1 (by omega) q4 (by omega)
                    · refine y_aload 126 c139_125 rfl rfl rfl ?_
                      have es10362 : (yup mi 376 9 ((mi 376 9) + 1)) 376 1 = m 376 1 := ((yup_nk (by decide)).trans (hFi 376 1 rfl))
                      have tb10363 := hT.atp 376 1 0 320 rfl
                      have es10364 : (yup mi 376 9 ((mi 376 9) + 1)) 376 3 = mi 376 3 := rfl
                      have es10365 : (yup mi 376 9 ((mi 376 9) + 1)) 376 6 = mi 376 6 := rfl
                      have tb10366 := hTi.atp 376 6 0 320 rfl
                      have es10367 : (yup mi 376 9 ((mi 376 9) + 1)) 376 8 = mi 376 8 := rfl
                      have es10368 : (yup mi 376 9 ((mi 376 9) + 1)) 376 18 = m 376 18 := ((yup_nk (by decide)).trans (hFi 376 18 rfl))
                      have tb10369 := hT.atp 376 18 0 1 rfl
                      have es10370 : (yup mi 376 9 ((mi 376 9) + 1)) 376 10 = mi 376 10 := rfl
                      have es10371 : (yup mi 376 9 ((mi 376 9) + 1)) 376 9 = (mi 376 9) + 1 := rfl
                      have es10372 : (yup mi 376 9 ((mi 376 9) + 1)) 390 1 = mi 390 1 := rfl
                      have es10373 : (yup mi 376 9 ((mi 376 9) + 1)) 384 1 = m 384 1 := ((yup_na (by decide)).trans (hFi 384 1 rfl))
                      have tb10374 := hT.atp 384 1 0 10 rfl
                      have em10375 : mu (yup mi 376 9 ((mi 376 9) + 1)) = mu mi := mu_fr (yup_nk (by decide)) (yup_nk (by decide)) (yup_nk (by decide))
                      have hXc : XS 1 (yup mi 376 9 ((mi 376 9) + 1)) := hXi.fr (fun a q ha => yup_ne (by rintro ⟨rfl, rfl⟩; simp [vXs] at ha))
                      have hPc : PD (yup mi 376 9 ((mi 376 9) + 1)) = PD mi := PD.fr rfl (fun q => yup_na (by decide))
                      refine y_callUB 129 [.ref 376] [] c139_126 rfl rfl rfl rfl rfl (ycanO km131 ko376) (t131_1 hT10321 (by omega) (by omega) (by omega) hXc (by omega) (by omega) (by omega)) (fun mq10361 nq10361 hq10361 => ?_)
                      obtain ⟨rfl, hTq10361, hFq10361, hlq10361, hq10361⟩ := hq10361
                      have hF10376 := hF10322.tr hFq10361 (fun _ _ e => e)
                      refine y_goto 5 c139_129 rfl ?_
                      have c84 : mq10361 384 1 = mi 384 1 := hFq10361 384 1 rfl
                      have c9 : mq10361 376 9 = (yup mi 376 9 ((mi 376 9) + 1)) 376 9 := hq10361.1
                      have c10 : (yup mi 376 9 ((mi 376 9) + 1)) 376 9 = mi 376 9 + 1 := yup_eq _ _ _ _
                      rcases hq10361.2 with q | q
                      · exact t139e_1 hTq10361 hF10376 hlq10361 q
                      · obtain ⟨q1, q2, ⟨q3, q5⟩, q4⟩ := q
                        have hlo := mu_lo hlq10361
                        exact ih (mu mq10361).toNat (by omega) _ _ (by omega) hTq10361 hF10376 hlq10361 q1 (by omega) q4 (by omega)
                · refine y_aload 88 c139_87 rfl rfl rfl ?_
                  refine y_callP 91 [.ref 376] [] c139_88 rfl rfl rfl rfl rfl (ycanO km113 ko376) (t113 hTi) (fun r10377 hr10377 => ?_)
                  refine y_if 101 94 c139_91 rfl rfl (yz_ne (by omega)) (fun hb10378 => ?_) (fun hb10378 => ?_)
                  · refine y_aload 102 c139_101 rfl rfl rfl ?_
                    refine y_dup 103 c139_102 rfl rfl ?_
                    refine y_getX 106 (mi 376 9) c139_103 rfl kf376_9 rfl ?_
                    refine y_iconst 107 c139_106 rfl ?_
                    refine y_iadd 108 c139_107 rfl ?_
                    refine y_putI 111 c139_108 rfl kf376_9 (y_fit0 _) ?_
                    have hT10379 := hTi.up 376 9 ((mi 376 9) + 1) 0 40 rfl (by omega)
                    have hF10380 := hFi.up 376 9 ((mi 376 9) + 1) rfl
                    refine y_aload 112 c139_111 rfl rfl rfl ?_
                    have es10381 : (yup mi 376 9 ((mi 376 9) + 1)) 376 3 = mi 376 3 := rfl
                    refine y_callP 115 [.ref 376] [] c139_112 rfl rfl rfl rfl rfl (ycanO km110 ko376) (t110 hT10379) (fun r10382 hr10382 => ?_)
                    refine y_if 125 118 c139_115 rfl rfl (yz_ne (by omega)) (fun hb10383 => ?_) (fun hb10383 => ?_)
                    · refine y_aload 126 c139_125 rfl rfl rfl ?_
                      have es10385 : (yup mi 376 9 ((mi 376 9) + 1)) 376 1 = m 376 1 := ((yup_nk (by decide)).trans (hFi 376 1 rfl))
                      have tb10386 := hT.atp 376 1 0 320 rfl
                      have es10387 : (yup mi 376 9 ((mi 376 9) + 1)) 376 3 = mi 376 3 := rfl
                      have es10388 : (yup mi 376 9 ((mi 376 9) + 1)) 376 6 = mi 376 6 := rfl
                      have tb10389 := hTi.atp 376 6 0 320 rfl
                      have es10390 : (yup mi 376 9 ((mi 376 9) + 1)) 376 8 = mi 376 8 := rfl
                      have es10391 : (yup mi 376 9 ((mi 376 9) + 1)) 376 18 = m 376 18 := ((yup_nk (by decide)).trans (hFi 376 18 rfl))
                      have tb10392 := hT.atp 376 18 0 1 rfl
                      have es10393 : (yup mi 376 9 ((mi 376 9) + 1)) 376 10 = mi 376 10 := rfl
                      have es10394 : (yup mi 376 9 ((mi 376 9) + 1)) 376 9 = (mi 376 9) + 1 := rfl
                      have es10395 : (yup mi 376 9 ((mi 376 9) + 1)) 390 1 = mi 390 1 := rfl
                      have es10396 : (yup mi 376 9 ((mi 376 9) + 1)) 384 1 = m 384 1 := ((yup_na (by decide)).trans (hFi 384 1 rfl))
                      have tb10397 := hT.atp 384 1 0 10 rfl
                      have em10398 : mu (yup mi 376 9 ((mi 376 9) + 1)) = mu mi := mu_fr (yup_nk (by decide)) (yup_nk (by decide)) (yup_nk (by decide))
                      have hXc : XS 1 (yup mi 376 9 ((mi 376 9) + 1)) := hXi.fr (fun a q ha => yup_ne (by rintro ⟨rfl, rfl⟩; simp [vXs] at ha))
                      have hPc : PD (yup mi 376 9 ((mi 376 9) + 1)) = PD mi := PD.fr rfl (fun q => yup_na (by decide))
                      refine y_callUB 129 [.ref 376] [] c139_126 rfl rfl rfl rfl rfl (ycanO km131 ko376) (t131_1 hT10379 (by omega) (by omega) (by omega) hXc (by omega) (by omega) (by omega)) (fun mq10384 nq10384 hq10384 => ?_)
                      obtain ⟨rfl, hTq10384, hFq10384, hlq10384, hq10384⟩ := hq10384
                      have hF10399 := hF10380.tr hFq10384 (fun _ _ e => e)
                      refine y_goto 5 c139_129 rfl ?_
                      have c84 : mq10384 384 1 = mi 384 1 := hFq10384 384 1 rfl
                      have c9 : mq10384 376 9 = (yup mi 376 9 ((mi 376 9) + 1)) 376 9 := hq10384.1
                      have c10 : (yup mi 376 9 ((mi 376 9) + 1)) 376 9 = mi 376 9 + 1 := yup_eq _ _ _ _
                      rcases hq10384.2 with q | q
                      · exact t139e_1 hTq10384 hF10399 hlq10384 q
                      · obtain ⟨q1, q2, ⟨q3, q5⟩, q4⟩ := q
                        have hlo := mu_lo hlq10384
                        exact ih (mu mq10384).toNat (by omega) _ _ (by omega) hTq10384 hF10399 hlq10384 q1 (by omega) q4 (by omega)
                    · refine y_aload 119 c139_118 rfl rfl rfl ?_
                      have es10400 : (yup mi 376 9 ((mi 376 9) + 1)) 376 3 = mi 376 3 := rfl
                      refine y_callP 122 [.ref 376] [] c139_119 rfl rfl rfl rfl rfl (ycanO km112 ko376) (t112 hT10379) (fun r10401 hr10401 => ?_)
                      refine y_if 132 125 c139_122 rfl rfl (yz_eq (by omega)) (fun hb10402 => ?_) (fun hb10402 => ?_)
                      · refine y_aload 133 c139_132 rfl rfl rfl ?_
                        have es10404 : (yup mi 376 9 ((mi 376 9) + 1)) 376 1 = m 376 1 := ((yup_nk (by decide)).trans (hFi 376 1 rfl))
                        have tb10405 := hT.atp 376 1 0 320 rfl
                        have es10406 : (yup mi 376 9 ((mi 376 9) + 1)) 376 3 = mi 376 3 := rfl
                        have es10407 : (yup mi 376 9 ((mi 376 9) + 1)) 376 6 = mi 376 6 := rfl
                        have tb10408 := hTi.atp 376 6 0 320 rfl
                        have es10409 : (yup mi 376 9 ((mi 376 9) + 1)) 376 8 = mi 376 8 := rfl
                        have es10410 : (yup mi 376 9 ((mi 376 9) + 1)) 376 18 = m 376 18 := ((yup_nk (by decide)).trans (hFi 376 18 rfl))
                        have tb10411 := hT.atp 376 18 0 1 rfl
                        have es10412 : (yup mi 376 9 ((mi 376 9) + 1)) 376 10 = mi 376 10 := rfl
                        have es10413 : (yup mi 376 9 ((mi 376 9) + 1)) 376 9 = (mi 376 9) + 1 := rfl
                        have es10414 : (yup mi 376 9 ((mi 376 9) + 1)) 390 1 = mi 390 1 := rfl
                        have es10415 : (yup mi 376 9 ((mi 376 9) + 1)) 384 1 = m 384 1 := ((yup_na (by decide)).trans (hFi 384 1 rfl))
                        have tb10416 := hT.atp 384 1 0 10 rfl
                        have em10417 : mu (yup mi 376 9 ((mi 376 9) + 1)) = mu mi := mu_fr (yup_nk (by decide)) (yup_nk (by decide)) (yup_nk (by decide))
                        have hXc : XS 1 (yup mi 376 9 ((mi 376 9) + 1)) := hXi.fr (fun a q ha => yup_ne (by rintro ⟨rfl, rfl⟩; simp [vXs] at ha))
                        have hPc : PD (yup mi 376 9 ((mi 376 9) + 1)) = PD mi := PD.fr rfl (fun q => yup_na (by decide))
                        refine y_callUB 136 [.ref 376] [] c139_133 rfl rfl rfl rfl rfl (ycanO km138 ko376) (t138_1 hT10379 (by omega) (by omega) (by omega) hXc (by omega) (by omega) (by omega)) (fun mq10403 nq10403 hq10403 => ?_)
                        obtain ⟨rfl, hTq10403, hFq10403, hlq10403, hq10403⟩ := hq10403
                        have hF10418 := hF10380.tr hFq10403 wSt1_wBd1
                        refine y_goto 5 c139_136 rfl ?_
                        have c84 : mq10403 384 1 = mi 384 1 := hFq10403 384 1 rfl
                        have c9 : mq10403 376 9 = (yup mi 376 9 ((mi 376 9) + 1)) 376 9 := hFq10403 376 9 rfl
                        have c10 : (yup mi 376 9 ((mi 376 9) + 1)) 376 9 = mi 376 9 + 1 := yup_eq _ _ _ _
                        have cp : PD mq10403 = PD (yup mi 376 9 ((mi 376 9) + 1)) := PD.fr (hFq10403 376 10 rfl) (fun q => hFq10403 378 q rfl)
                        rcases hq10403 with q | q
                        · exact t139e_1 hTq10403 hF10418 hlq10403 q
                        · obtain ⟨q1, q2, q3, q4⟩ := q
                          have hlo := mu_lo hlq10403
                          exact ih (mu mq10403).toNat (by omega) _ _ (by omega) hTq10403 hF10418 hlq10403 q1 (by omega) q4 (by omega)
                      · refine y_aload 126 c139_125 rfl rfl rfl ?_
                        have es10420 : (yup mi 376 9 ((mi 376 9) + 1)) 376 1 = m 376 1 := ((yup_nk (by decide)).trans (hFi 376 1 rfl))
                        have tb10421 := hT.atp 376 1 0 320 rfl
                        have es10422 : (yup mi 376 9 ((mi 376 9) + 1)) 376 3 = mi 376 3 := rfl
                        have es10423 : (yup mi 376 9 ((mi 376 9) + 1)) 376 6 = mi 376 6 := rfl
                        have tb10424 := hTi.atp 376 6 0 320 rfl
                        have es10425 : (yup mi 376 9 ((mi 376 9) + 1)) 376 8 = mi 376 8 := rfl
                        have es10426 : (yup mi 376 9 ((mi 376 9) + 1)) 376 18 = m 376 18 := ((yup_nk (by decide)).trans (hFi 376 18 rfl))
                        have tb10427 := hT.atp 376 18 0 1 rfl
                        have es10428 : (yup mi 376 9 ((mi 376 9) + 1)) 376 10 = mi 376 10 := rfl
                        have es10429 : (yup mi 376 9 ((mi 376 9) + 1)) 376 9 = (mi 376 9) + 1 := rfl
                        have es10430 : (yup mi 376 9 ((mi 376 9) + 1)) 390 1 = mi 390 1 := rfl
                        have es10431 : (yup mi 376 9 ((mi 376 9) + 1)) 384 1 = m 384 1 := ((yup_na (by decide)).trans (hFi 384 1 rfl))
                        have tb10432 := hT.atp 384 1 0 10 rfl
                        have em10433 : mu (yup mi 376 9 ((mi 376 9) + 1)) = mu mi := mu_fr (yup_nk (by decide)) (yup_nk (by decide)) (yup_nk (by decide))
                        have hXc : XS 1 (yup mi 376 9 ((mi 376 9) + 1)) := hXi.fr (fun a q ha => yup_ne (by rintro ⟨rfl, rfl⟩; simp [vXs] at ha))
                        have hPc : PD (yup mi 376 9 ((mi 376 9) + 1)) = PD mi := PD.fr rfl (fun q => yup_na (by decide))
                        refine y_callUB 129 [.ref 376] [] c139_126 rfl rfl rfl rfl rfl (ycanO km131 ko376) (t131_1 hT10379 (by omega) (by omega) (by omega) hXc (by omega) (by omega) (by omega)) (fun mq10419 nq10419 hq10419 => ?_)
                        obtain ⟨rfl, hTq10419, hFq10419, hlq10419, hq10419⟩ := hq10419
                        have hF10434 := hF10380.tr hFq10419 (fun _ _ e => e)
                        refine y_goto 5 c139_129 rfl ?_
                        have c84 : mq10419 384 1 = mi 384 1 := hFq10419 384 1 rfl
                        have c9 : mq10419 376 9 = (yup mi 376 9 ((mi 376 9) + 1)) 376 9 := hq10419.1
                        have c10 : (yup mi 376 9 ((mi 376 9) + 1)) 376 9 = mi 376 9 + 1 := yup_eq _ _ _ _
                        rcases hq10419.2 with q | q
                        · exact t139e_1 hTq10419 hF10434 hlq10419 q
                        · obtain ⟨q1, q2, ⟨q3, q5⟩, q4⟩ := q
                          have hlo := mu_lo hlq10419
                          exact ih (mu mq10419).toNat (by omega) _ _ (by omega) hTq10419 hF10434 hlq10419 q1 (by omega) q4 (by omega)
                  · refine y_aload 95 c139_94 rfl rfl rfl ?_
                    have es10436 : mi 376 1 = m 376 1 := (hFi 376 1 rfl)
                    have tb10437 := hT.atp 376 1 0 320 rfl
                    have tb10438 := hTi.atp 376 6 0 320 rfl
                    refine y_callUB 98 [.ref 376] [] c139_95 rfl rfl rfl rfl rfl (ycanO km104 ko376) (t104 hTi) (fun mq10435 nq10435 hq10435 => ?_)
                    obtain ⟨rfl, hTq10435, hFq10435, hq10435⟩ := hq10435
                    have x1q10435 : mq10435 376 1 = m 376 1 := ((hFq10435 376 1 rfl).trans (hFi 376 1 rfl))
                    have hF10439 := hFi.tr hFq10435 wWr_wBd1
                    refine y_goto 5 c139_98 rfl ?_
                    have es10440 : mq10435 376 1 = m 376 1 := ((hFq10435 376 1 rfl).trans (hFi 376 1 rfl))
                    have es10441 : mq10435 376 3 = mi 376 3 := (hFq10435 376 3 rfl)
                    have es10442 : mq10435 376 6 = mi 376 6 := (hFq10435 376 6 rfl)
                    have tb10443 := hTq10435.atp 376 8 ((-1)) 320 rfl
                    exact t139e_1 hTq10435 hF10439 (by omega) (by omega)
      · refine y_aload 22 c139_21 rfl rfl rfl ?_
        refine y_getX 25 (mi 376 10) c139_22 rfl kf376_10 rfl ?_
        refine y_if 43 28 c139_25 rfl rfl (yz_ne (by omega)) (fun hb10444 => ?_) (fun hb10444 => ?_)
        · refine y_aload 44 c139_43 rfl rfl rfl ?_
          have es10446 : mi 376 1 = m 376 1 := (hFi 376 1 rfl)
          have tb10447 := hT.atp 376 1 0 320 rfl
          have tb10448 := hTi.atp 376 6 0 320 rfl
          have es10449 : mi 376 18 = m 376 18 := (hFi 376 18 rfl)
          have tb10450 := hT.atp 376 18 0 1 rfl
          have es10451 : mi 384 1 = m 384 1 := (hFi 384 1 rfl)
          have tb10452 := hT.atp 384 1 0 10 rfl
          have hXc := hXi
          refine y_callUB 47 [.ref 376] [] c139_44 rfl rfl rfl rfl rfl (ycanO km129 ko376) (t129_1 hTi (by omega) (by omega) (by omega) hXc (by omega) (by omega) (by omega) (by omega)) (fun mq10445 nq10445 hq10445 => ?_)
          obtain ⟨rfl, hTq10445, hFq10445, hlq10445, hq10445⟩ := hq10445
          have hF10453 := hFi.tr hFq10445 (fun _ _ e => e)
          refine y_goto 5 c139_47 rfl ?_
          have c84 : mq10445 384 1 = mi 384 1 := hFq10445 384 1 rfl
          have c9 : mq10445 376 9 = mi 376 9 := hq10445.1
          rcases hq10445.2 with q | q
          · exact t139e_1 hTq10445 hF10453 hlq10445 q
          · obtain ⟨q1, q2, ⟨q3, q5⟩, q4⟩ := q
            have hlo := mu_lo hlq10445
            exact ih (mu mq10445).toNat (by omega) _ _ (by omega) hTq10445 hF10453 hlq10445 q1 (by omega) q4 (by omega)
        · have es10454 : mi 376 1 = m 376 1 := (hFi 376 1 rfl)
          have tb10455 := hT.atp 376 1 0 320 rfl
          have tb10456 := hTi.atp 376 6 0 320 rfl
          have es10457 : mi 376 18 = m 376 18 := (hFi 376 18 rfl)
          have tb10458 := hT.atp 376 18 0 1 rfl
          have es10459 : mi 384 1 = m 384 1 := (hFi 384 1 rfl)
          have tb10460 := hT.atp 384 1 0 10 rfl
          refine YW.mono (t139z_1 hTi hli (by omega) h8i hXi (by omega) (by omega) (by omega) (by omega)) (fun r m2 n2 hq => ?_)
          obtain ⟨rfl, rfl, z1, z2, z3, z4, z5, z6, z7, z8⟩ := hq
          have z9 : m2 384 1 = mi 384 1 := z2 384 1 rfl
          exact ⟨rfl, rfl, z1, hFi.tr z2 (fun _ _ e => e), z3, Or.inr ⟨z5, by omega, z8, by omega, by omega⟩⟩
set_option maxRecDepth 100000 in
theorem t139_1 {L : Nat} {xs : Nat → Int32} {d nn : Nat} {m : yM} (hT : Ty gT m) (hl : m 376 6 ≤ m 376 1) (hn : m 376 18 = 0) (h84 : 1 ≤ m 384 1) (h8 : m 376 8 < 0) (hC : XD 1 m) (hB : m 390 1 + 1 ≤ 2 * m 376 9 + m 384 1) : YC (gZ L xs) (d + 8) 139 [.ref 376] m nn (qU (fun m' n' => n' = nn ∧ Ty gT m' ∧ Fr wBd1 m m' ∧ m' 376 6 ≤ m' 376 1 ∧ (0 ≤ m' 376 8 ∨ (m' 376 8 < 0 ∧ mu m' < mu m ∧ XD 1 m' ∧ m' 390 1 ≤ 2 * m' 376 9 + m' 384 1 ∧ m 390 1 < m' 390 1)))) := by
  refine YC.mkB [some (.ref 376), none] kn139 rfl rfl ?_
  have hF : Fr wBd1 m m := Fr.rf
  refine y_aload 1 c139_0 rfl rfl rfl ?_
  refine y_iconst 2 c139_1 rfl ?_
  refine y_putI 5 c139_2 rfl kf376_10 (y_fit0 _) ?_
  have hT10461 := hT.up 376 10 0 0 3 rfl (by omega)
  have hF10462 := hF.up 376 10 0 rfl
  have es10463 : (yup m 376 10 0) 376 1 = m 376 1 := rfl
  have tb10464 := hT.atp 376 1 0 320 rfl
  have es10465 : (yup m 376 10 0) 376 3 = m 376 3 := rfl
  have tb10466 := hT.atp 376 3 0 3 rfl
  have es10467 : (yup m 376 10 0) 376 6 = m 376 6 := rfl
  have tb10468 := hT.atp 376 6 0 320 rfl
  have es10469 : (yup m 376 10 0) 376 8 = m 376 8 := rfl
  have tb10470 := hT.atp 376 8 ((-1)) 320 rfl
  have es10471 : (yup m 376 10 0) 376 9 = m 376 9 := rfl
  have tb10472 := hT.atp 376 9 0 40 rfl
  have es10473 : (yup m 376 10 0) 390 1 = m 390 1 := rfl
  have tb10474 := hT.atp 390 1 0 125 rfl
  have es10475 : (yup m 376 10 0) 384 1 = m 384 1 := rfl
  have tb10476 := hT.atp 384 1 0 10 rfl
  have em10477 : mu (yup m 376 10 0) = mu m := mu_fr (yup_nk (by decide)) (yup_nk (by decide)) (yup_nk (by decide))
  have hx0 : XS 1 (yup m 376 10 0) := hC.begin (fun a q ha => yup_ne (by rintro ⟨rfl, rfl⟩; simp [vXc] at ha)) (yup_eq _ _ _ _)
  have hp0 : PD (yup m 376 10 0) = 0 := PD.zero (yup_eq _ _ _ _)
  have hlo := mu_lo (m := yup m 376 10 0) (by omega)
  exact t139a_1 hT hl hn h84 (mu (yup m 376 10 0)).toNat _ _ (by omega) hT10461 hF10462 (by omega) (by omega) (by omega) hx0 (by omega)
end
section
/-! THE MODEL: heads of classes and methods -/
section HDL
variable {p : Nat} {m m' : yM}
theorem XD.head (h : XD p m) (h0 : 0 ≤ m 383 p) (F : ∀ a q, vXc p a q = true → a ≠ 392 → a ≠ 383 → m' a q = m a q) (hn : m' 383 p = m 383 p + 1) (hu : ∀ k : Nat, (k : Int) < m 383 p → m' 392 (6 * p + k) = m 392 (6 * p + k)) (hv : m' 392 (6 * p + (m 383 p).toNat) < m 383 p) : XD p m' := by
  obtain ⟨x1, x2, x3, x4, x5, x6, x7⟩ := h
  have e3 : ∀ q, m' 403 q = m 403 q := fun q => F _ _ (by simp [vXc]) (by decide) (by decide)
  have s2 := F 384 p (by simp [vXc]) (by decide) (by decide)
  have s3 := F 386 p (by simp [vXc]) (by decide) (by decide)
  have s4 := F 387 p (by simp [vXc]) (by decide) (by decide)
  have s5 := F 388 p (by simp [vXc]) (by decide) (by decide)
  have s6 := F 390 p (by simp [vXc]) (by decide) (by decide)
  have s7 := F 376 17 (by simp [vXc]) (by decide) (by decide)
  unfold XD
  rw [s2, s3, s4, s5, s6, s7, hn]
  refine ⟨?_, ?_, x3.fr (fun q => F _ _ (by simp [vXc]) (by decide) (by decide)) (fun q => F _ _ (by simp [vXc]) (by decide) (by decide)) (fun q => F _ _ (by simp [vXc]) (by decide) (by decide)) (Int.le_refl _), ?_, ?_, x6, x7.1, x7.2.1.fr (fun q => F _ _ (by simp [vXc]) (by decide) (by decide)), x7.2.2.fr e3⟩
  · unfold OX OW at x1 ⊢
    simp only [e3]
    exact x1
  · unfold JA JK at x2 ⊢
    simp only [e3]
    exact x2
  · intro k hk
    by_cases q : (k : Int) < m 383 p
    · rw [hu k q]
      exact x4 k q
    · have : k = (m 383 p).toNat := by omega
      subst this
      omega
  · unfold LE at x5 ⊢
    simp only [e3]
    exact x5
theorem XD.meth (h : XD p m) (h0 : 0 ≤ m 384 p) (F : ∀ a q, vXc p a q = true → a ≠ 384 → a ≠ 397 → a ≠ 398 → a ≠ 399 → m' a q = m a q) (hn : m' 384 p = m 384 p + 1) (h7 : ∀ k : Nat, (k : Int) < m 384 p → m' 397 (10 * p + k) = m 397 (10 * p + k) ∧ m' 398 (10 * p + k) = m 398 (10 * p + k) ∧ m' 399 (10 * p + k) = m 399 (10 * p + k)) (hv : m' 398 (10 * p + (m 384 p).toNat) + 2 + m' 397 (10 * p + (m 384 p).toNat) ≤ 48 ∧ m' 399 (10 * p + (m 384 p).toNat) ≤ m 390 p) : XD p m' := by
  obtain ⟨x1, x2, x3, x4, x5, x6, x7⟩ := h
  have e3 : ∀ q, m' 403 q = m 403 q := fun q => F _ _ (by simp [vXc]) (by decide) (by decide) (by decide) (by decide)
  have s1 := F 383 p (by simp [vXc]) (by decide) (by decide) (by decide) (by decide)
  have s3 := F 386 p (by simp [vXc]) (by decide) (by decide) (by decide) (by decide)
  have s4 := F 387 p (by simp [vXc]) (by decide) (by decide) (by decide) (by decide)
  have s5 := F 388 p (by simp [vXc]) (by decide) (by decide) (by decide) (by decide)
  have s6 := F 390 p (by simp [vXc]) (by decide) (by decide) (by decide) (by decide)
  have s7 := F 376 17 (by simp [vXc]) (by decide) (by decide) (by decide) (by decide)
  unfold XD
  rw [s1, s3, s4, s5, s6, s7, hn]
  refine ⟨?_, ?_, ?_, x4.fr (fun q => F _ _ (by simp [vXc]) (by decide) (by decide) (by decide) (by decide)), ?_, x6, x7.1, x7.2.1.fr (fun q => F _ _ (by simp [vXc]) (by decide) (by decide) (by decide) (by decide)), x7.2.2.fr e3⟩
  · unfold OX OW at x1 ⊢
    simp only [e3]
    exact x1
  · unfold JA JK at x2 ⊢
    simp only [e3]
    exact x2
  · intro k hk
    by_cases q : (k : Int) < m 384 p
    · obtain ⟨a1, a2, a3⟩ := h7 k q
      rw [a1, a2, a3]
      exact x3 k q
    · have : k = (m 384 p).toNat := by omega
      subst this
      exact hv
  · unfold LE at x5 ⊢
    simp only [e3]
    exact x5
end HDL
end
