/-! CONTRACTS: the machine. Printed by wip/whole/gen93.py -/
theorem kg186 : gH 186 = [] := by decide +kernel
theorem kg187 : gH 187 = [] := by decide +kernel
theorem kg188 : gH 188 = [] := by decide +kernel
theorem kg189 : gH 189 = [] := by decide +kernel
theorem kg190 : gH 190 = [] := by decide +kernel
theorem kg191 : gH 191 = [] := by decide +kernel
theorem kg192 : gH 192 = [] := by decide +kernel
theorem kg193 : gH 193 = [] := by decide +kernel
theorem kg194 : gH 194 = [] := by decide +kernel
theorem kg195 : gH 195 = [] := by decide +kernel
theorem kg196 : gH 196 = [] := by decide +kernel
theorem kg197 : gH 197 = [] := by decide +kernel
theorem kg198 : gH 198 = [] := by decide +kernel
theorem kg199 : gH 199 = [] := by decide +kernel
set_option maxRecDepth 100000 in
theorem t92a {L : Nat} {xs : Nat → Int32} {d nn : Nat} {m : yM} (hT : Ty gT m) : ∀ (km : Nat) (i : Int) (mi : yM), 48 - i = km → 0 ≤ i ∧ i ≤ 48 → Ty gT mi → Fr wMx m mi → YW (gZ L xs) 92 (d + 1) 2 [some (.ref 169), some (yI i)] [] mi nn (qU (fun m' n' => n' = nn ∧ Ty gT m' ∧ Fr wMx m m')) := by
  intro km
  induction km using Nat.strongRecOn with
  | ind km ih =>
    intro i mi hk hi hTi hFi
    refine y_iload 3 c92_2 rfl rfl ?_
    refine y_iconst 5 c92_3 rfl ?_
    refine y_icmp 24 8 c92_5 rfl rfl (yc_ge (by omega) (by omega)) (fun hb4784 => ?_) (fun hb4784 => ?_)
    · exact y_retU c92_24 ⟨rfl, hTi, hFi⟩
    · refine y_aload 9 c92_8 rfl rfl rfl ?_
      refine y_getR 12 c92_9 rfl kf169_0 ?_
      refine y_iload 13 c92_12 rfl rfl ?_
      refine y_aaload 14 c92_13 rfl kr170 (by omega) ?_
      refine y_iconst 15 c92_14 rfl ?_
      refine y_callUB 18 [.ref (171 + i.toNat), yI 0] [] c92_15 rfl rfl rfl rfl rfl (ycanS km75) (t75 hTi (fa171 (by omega)) (fun _ => fz171 (by omega)) (by decide) (by omega)) (fun mq4785 nq4785 hq4785 => ?_)
      obtain ⟨rfl, hTq4785, hFq4785, hq4785⟩ := hq4785
      have hF4786 := hFi.tr hFq4785 (wRo_wMx (by omega))
      refine y_iinc 21 c92_18 rfl rfl rfl ?_
      refine y_goto 2 c92_21 rfl ?_
      exact ih (48 - (i + 1) : Int).toNat (by omega) (i + 1)  _ (by omega) (by omega) hTq4785 hF4786
set_option maxRecDepth 100000 in
theorem t92 {L : Nat} {xs : Nat → Int32} {d nn : Nat} {m : yM} (hT : Ty gT m) : YC (gZ L xs) (d + 1) 92 [.ref 169] m nn (qU (fun m' n' => n' = nn ∧ Ty gT m' ∧ Fr wMx m m')) := by
  refine YC.mkB [some (.ref 169), none] kn92 rfl rfl ?_
  refine y_iconst 1 c92_0 rfl ?_
  refine y_istore 2 c92_1 rfl rfl ?_
  exact t92a hT 48 0 m (by omega) (by omega) hT Fr.rf
set_option maxRecDepth 100000 in
theorem t186 {L : Nat} {xs : Nat → Int32} {d nn : Nat} {m : yM} {s : Int} (hT : Ty gT m) (hs : 0 ≤ s ∧ s ≤ 11) : YC (gZ L xs) (d + 1) 186 [.ref 169, yI s] m nn (qTI nn m (fun r m' => 0 ≤ r ∧ r ≤ 29 ∧ m' 169 6 = m 169 6)) := by
  refine YC.mkB [some (.ref 169), some (yI s), none] kn186 rfl rfl ?_
  have hF : Fr wMx m m := Fr.rf
  refine y_aload 1 c186_0 rfl rfl rfl ?_
  refine y_getX 4 (m 169 5) c186_1 rfl kf169_5 rfl ?_
  have tb4787 := hT.atp 169 5 0 30 rfl
  refine y_iconst 6 c186_4 rfl ?_
  refine y_icmp 17 9 c186_6 rfl rfl (yc_ne (by omega) (by omega)) (fun hb4788 => ?_) (fun hb4788 => ?_)
  · refine y_aload 18 c186_17 rfl rfl rfl ?_
    refine y_getX 21 (m 169 5) c186_18 rfl kf169_5 rfl ?_
    refine y_istore 22 c186_21 rfl rfl ?_
    refine y_aload 23 c186_22 rfl rfl rfl ?_
    refine y_dup 24 c186_23 rfl rfl ?_
    refine y_getX 27 (m 169 5) c186_24 rfl kf169_5 rfl ?_
    refine y_iconst 28 c186_27 rfl ?_
    refine y_iadd 29 c186_28 rfl ?_
    refine y_putI 32 c186_29 rfl kf169_5 (y_fit0 _) ?_
    have hT4789 := hT.up 169 5 ((m 169 5) + 1) 0 30 rfl (by omega)
    have hF4790 := hF.up 169 5 ((m 169 5) + 1) rfl
    refine y_aload 33 c186_32 rfl rfl rfl ?_
    refine y_getR 36 c186_33 rfl kf169_1 ?_
    refine y_iload 37 c186_36 rfl rfl ?_
    refine y_iload 38 c186_37 rfl rfl ?_
    refine y_iastore 39 c186_38 rfl ka219 (by omega) (y_nar0 _) ?_
    have hT4791 := hT4789.up 219 ((m 169 5).toNat) s 0 11 rfl (by omega)
    have hF4792 := hF4790.up 219 ((m 169 5).toNat) s rfl
    refine y_aload 40 c186_39 rfl rfl rfl ?_
    refine y_getR 43 c186_40 rfl kf169_2 ?_
    refine y_iload 44 c186_43 rfl rfl ?_
    refine y_aaload 45 c186_44 rfl kr220 (by omega) ?_
    refine y_iconst 46 c186_45 rfl ?_
    refine y_callUB 49 [.ref (221 + (m 169 5).toNat), yI ((-1))] [] c186_46 rfl rfl rfl rfl rfl (ycanS km75) (t75 hT4791 (fa221 (by omega)) (fun _ => fz221 (by omega)) (by decide) (by omega)) (fun mq4793 nq4793 hq4793 => ?_)
    obtain ⟨rfl, hTq4793, hFq4793, hq4793⟩ := hq4793
    have hF4794 := hF4792.tr hFq4793 (wRo_wMx (by omega))
    refine y_iload 50 c186_49 rfl rfl ?_
    have es4795 : mq4793 169 6 = m 169 6 := ((hFq4793 169 6 (wRo_n (by omega))).trans ((yup_na (by decide)).trans (yup_nk (by decide))))
    have tb4796 := hT.atp 169 6 0 200 rfl
    exact y_mRI c186_50 (y_fit0 _) hTq4793 hF4794 (by omega)
  · exact y_mThr c186_9 rfl hT hF (by decide) qOut.I
set_option maxRecDepth 100000 in
theorem t187 {L : Nat} {xs : Nat → Int32} {d nn : Nat} {m : yM} {x : Int} (hT : Ty gT m) (hx : 0 ≤ x ∧ x ≤ 4) : YC (gZ L xs) (d + 1) 187 [.ref 169, yI x] m nn (qTA nn m (fun R m' => R = 252 + x.toNat ∧ x ≤ 3 ∧ m' 169 6 = m 169 6)) := by
  refine YC.mkB [some (.ref 169), some (yI x)] kn187 rfl rfl ?_
  have hF : Fr wMx m m := Fr.rf
  refine y_iload 1 c187_0 rfl rfl ?_
  refine y_iconst 2 c187_1 rfl ?_
  refine y_icmp 13 5 c187_2 rfl rfl (yc_lt (by omega) (by omega)) (fun hb4797 => ?_) (fun hb4797 => ?_)
  · refine y_aload 14 c187_13 rfl rfl rfl ?_
    refine y_getR 17 c187_14 rfl kf169_3 ?_
    refine y_iload 18 c187_17 rfl rfl ?_
    refine y_aaload 19 c187_18 rfl kr251 (by omega) ?_
    refine y_iconst 20 c187_19 rfl ?_
    refine y_callUB 23 [.ref (252 + x.toNat), yI ((-1))] [] c187_20 rfl rfl rfl rfl rfl (ycanS km75) (t75 hT (fa252 (by omega)) (fun _ => fz252 (by omega)) (by decide) (by omega)) (fun mq4798 nq4798 hq4798 => ?_)
    obtain ⟨rfl, hTq4798, hFq4798, hq4798⟩ := hq4798
    have hF4799 := hF.tr hFq4798 (wRo_wMx (by omega))
    refine y_aload 24 c187_23 rfl rfl rfl ?_
    refine y_getR 27 c187_24 rfl kf169_3 ?_
    refine y_iload 28 c187_27 rfl rfl ?_
    refine y_aaload 29 c187_28 rfl kr251 (by omega) ?_
    have es4800 : mq4798 169 6 = m 169 6 := (hFq4798 169 6 (wRo_n (by omega)))
    have tb4801 := hT.atp 169 6 0 200 rfl
    exact y_mRA c187_29 hTq4798 hF4799 (⟨rfl, by omega, by omega⟩)
  · exact y_mThr c187_5 rfl hT hF (by decide) qOut.A
set_option maxRecDepth 100000 in
theorem t188 {L : Nat} {xs : Nat → Int32} {d nn : Nat} {m : yM} {x v q : Int} (hT : Ty gT m) (hx : 0 ≤ x ∧ x ≤ 3) (hv : 0 ≤ v ∧ v ≤ 47) (hq : -1 ≤ q ∧ q ≤ 29) : YC (gZ L xs) d 188 [.ref 169, .ref (252 + x.toNat), yI v, yI q] m nn (qU (fun m' n' => n' = nn ∧ Ty gT m' ∧ Fr wMx m m' ∧ m' 169 6 = m 169 6)) := by
  refine YC.mkB [some (.ref 169), some (.ref (252 + x.toNat)), some (yI v), some (yI q)] kn188 rfl rfl ?_
  have hF : Fr wMx m m := Fr.rf
  refine y_aload 1 c188_0 rfl rfl rfl ?_
  refine y_iload 2 c188_1 rfl rfl ?_
  refine y_iload 3 c188_2 rfl rfl ?_
  refine y_iastore 4 c188_3 rfl (fa252 (by omega)) (by omega) (y_nar0 _) ?_
  have hT4802 := hT.up (252 + x.toNat) v.toNat q ((-1)) 29 (fz252 (by omega)) (by omega)
  have hF4803 := hF.up (252 + x.toNat) v.toNat q (wMx_r (by omega))
  refine y_iload 5 c188_4 rfl rfl ?_
  refine y_iconst 6 c188_5 rfl ?_
  refine y_icmp 23 9 c188_6 rfl rfl (yc_eq (by omega) (by omega)) (fun hb4804 => ?_) (fun hb4804 => ?_)
  · have es4805 : (yup m (252 + x.toNat) v.toNat q) 169 6 = m 169 6 := (yup_na (by omega))
    have tb4806 := hT.atp 169 6 0 200 rfl
    exact y_retU c188_23 ⟨rfl, hT4802, hF4803, by omega⟩
  · refine y_aload 10 c188_9 rfl rfl rfl ?_
    refine y_getR 13 c188_10 rfl kf169_0 ?_
    refine y_iload 14 c188_13 rfl rfl ?_
    refine y_aaload 15 c188_14 rfl kr170 (by omega) ?_
    refine y_aload 16 c188_15 rfl rfl rfl ?_
    refine y_getR 19 c188_16 rfl kf169_1 ?_
    refine y_iload 20 c188_19 rfl rfl ?_
    refine y_iaT 21 0 11 c188_20 rfl ka219 (by omega) hT4802 rfl (fun v4807 hv4807 gv4807 => ?_)
    refine y_iconst 22 c188_21 rfl ?_
    refine y_iastore 23 c188_22 rfl (fa171 (by omega)) (by omega) (y_nar0 _) ?_
    have hT4808 := hT4802.up (171 + v.toNat) v4807.toNat 1 ((-2147483648)) 2147483647 (fz171 (by omega)) (by omega)
    have hF4809 := hF4803.up (171 + v.toNat) v4807.toNat 1 (wMx_r (by omega))
    have es4810 : (yup (yup m (252 + x.toNat) v.toNat q) (171 + v.toNat) v4807.toNat 1) 169 6 = m 169 6 := ((yup_na (by omega)).trans (yup_na (by omega)))
    have tb4811 := hT.atp 169 6 0 200 rfl
    exact y_retU c188_23 ⟨rfl, hT4808, hF4809, by omega⟩
set_option maxRecDepth 100000 in
theorem t189 {L : Nat} {xs : Nat → Int32} {d nn : Nat} {m : yM} (hT : Ty gT m) : YC (gZ L xs) d 189 [.ref 169] m nn (qTU nn m (fun m' => m' 169 6 = m 169 6 + 1)) := by
  refine YC.mkB [some (.ref 169)] kn189 rfl rfl ?_
  have hF : Fr wMx m m := Fr.rf
  refine y_aload 1 c189_0 rfl rfl rfl ?_
  refine y_getX 4 (m 169 6) c189_1 rfl kf169_6 rfl ?_
  have tb4812 := hT.atp 169 6 0 200 rfl
  refine y_iconst 7 c189_4 rfl ?_
  refine y_icmp 18 10 c189_7 rfl rfl (yc_ne (by omega) (by omega)) (fun hb4813 => ?_) (fun hb4813 => ?_)
  · refine y_aload 19 c189_18 rfl rfl rfl ?_
    refine y_dup 20 c189_19 rfl rfl ?_
    refine y_getX 23 (m 169 6) c189_20 rfl kf169_6 rfl ?_
    refine y_iconst 24 c189_23 rfl ?_
    refine y_iadd 25 c189_24 rfl ?_
    refine y_putI 28 c189_25 rfl kf169_6 (y_fit0 _) ?_
    have hT4814 := hT.up 169 6 ((m 169 6) + 1) 0 200 rfl (by omega)
    have hF4815 := hF.up 169 6 ((m 169 6) + 1) rfl
    have es4816 : (yup m 169 6 ((m 169 6) + 1)) 169 6 = (m 169 6) + 1 := rfl
    exact y_mRU c189_28 hT4814 hF4815 (by omega)
  · exact y_mThr c189_10 rfl hT hF (by decide) qOut.U
