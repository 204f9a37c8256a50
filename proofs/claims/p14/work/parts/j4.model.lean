section
/-! CONTRACTS: the model, classes. Printed by wip/whole/gen9b.py -/
def wCs0 (a q : Nat) : Bool := wBd0 a q || wHm0 a q || wFm0 a q || wMh0 a q
theorem wBd0_wCs0 : ∀ a q, wBd0 a q = true → wCs0 a q = true := by
  intro a q h
  simp [wCs0, h]
theorem wHm0_wCs0 : ∀ a q, wHm0 a q = true → wCs0 a q = true := by
  intro a q h
  simp [wCs0, h]
theorem wFm0_wCs0 : ∀ a q, wFm0 a q = true → wCs0 a q = true := by
  intro a q h
  simp [wCs0, h]
theorem wMh0_wCs0 : ∀ a q, wMh0 a q = true → wCs0 a q = true := by
  intro a q h
  simp [wCs0, h]
theorem wNx_wCs0 : ∀ a q, wNx a q = true → wCs0 a q = true := fun a q h => wBd0_wCs0 a q (wNx_wBd0 a q h)
theorem wWr_wCs0 : ∀ a q, wWr a q = true → wCs0 a q = true := fun a q h => wBd0_wCs0 a q (wWr_wBd0 a q h)
theorem wNw_wCs0 : ∀ a q, wNw a q = true → wCs0 a q = true := fun a q h => wBd0_wCs0 a q (wNw_wBd0 a q h)
set_option maxRecDepth 100000 in
theorem t140e_0 {L : Nat} {xs : Nat → Int32} {d nn : Nat} {m : yM} {mi : yM} (hTi : Ty gT mi) (hFi : Fr wCs0 m mi) (hli : mi 376 6 ≤ mi 376 1) (hw : 0 ≤ mi 376 8) : YW (gZ L xs) 140 (d + 10) 4 [some (.ref 376)] [] mi nn (qU (fun m' n' => n' = nn ∧ Ty gT m' ∧ Fr wCs0 m m' ∧ m' 376 6 ≤ m' 376 1 ∧ (0 ≤ m' 376 8 ∨ (m' 376 8 < 0 ∧ mu m' < mu m ∧ XD 0 m' ∧ m' 390 0 ≤ 2 * m' 376 9 + m' 384 0 ∧ 1 ≤ m' 383 0 ∧ MX 0 m' (m' 384 0) (m' 390 0 - 1))))) := by
  have tb := hTi.atp 376 8 (-1) 320 rfl
  refine y_aload 5 c140_4 rfl rfl rfl ?_
  refine y_getX 8 (mi 376 8) c140_5 rfl kf376_8 rfl ?_
  refine y_if 66 11 c140_8 rfl rfl (yz_ge (by omega)) (fun hb => ?_) (fun hb => ?_)
  · refine y_aload 67 c140_66 rfl rfl rfl ?_
    refine y_getX 70 (mi 376 8) c140_67 rfl kf376_8 rfl ?_
    refine y_if 77 73 c140_70 rfl rfl (yz_ge (by omega)) (fun hb => ?_) (fun hb => ?_)
    · exact y_retU c140_77 ⟨rfl, hTi, hFi, hli, Or.inl hw⟩
    · exfalso; omega
  · exfalso; omega
set_option maxRecDepth 100000 in
set_option maxHeartbeats 1000000 in
theorem t140a_0 {L : Nat} {xs : Nat → Int32} {d nn : Nat} {m : yM} (hT : Ty gT m) (hl : m 376 6 ≤ m 376 1) (hn : m 376 18 = 1) : ∀ (k : Nat) (mi : yM), mu mi = k → Ty gT mi → Fr wCs0 m mi → mi 376 6 ≤ mi 376 1 → mi 376 8 < 0 → mu mi < mu m → 1 ≤ mi 383 0 → XD 0 mi → mi 390 0 ≤ 2 * mi 376 9 + mi 384 0 → MX 0 mi (mi 384 0) (mi 390 0 - 1) → YW (gZ L xs) 140 (d + 10) 4 [some (.ref 376)] [] mi nn (qU (fun m' n' => n' = nn ∧ Ty gT m' ∧ Fr wCs0 m m' ∧ m' 376 6 ≤ m' 376 1 ∧ (0 ≤ m' 376 8 ∨ (m' 376 8 < 0 ∧ mu m' < mu m ∧ XD 0 m' ∧ m' 390 0 ≤ 2 * m' 376 9 + m' 384 0 ∧ 1 ≤ m' 383 0 ∧ MX 0 m' (m' 384 0) (m' 390 0 - 1))))) := by
  intro k
  induction k using Nat.strongRecOn with
  | ind k ih =>
    intro mi hk hTi hFi hli h8i hmu hc1 hCi hBi hMi
    have ti376_8 := hTi.atp 376 8 (-1) 320 rfl
    have ti376_9 := hTi.atp 376 9 0 40 rfl
    have ti383_0 := hTi.atp 383 0 0 6 rfl
    have ti384_0 := hTi.atp 384 0 0 10 rfl
    have ti390_0 := hTi.atp 390 0 0 125 rfl
    have em18 : mi 376 18 = m 376 18 := hFi 376 18 rfl
    have em1 : mi 376 1 = m 376 1 := hFi 376 1 rfl
    refine y_aload 5 c140_4 rfl rfl rfl ?_
    refine y_getX 8 (mi 376 8) c140_5 rfl kf376_8 rfl ?_
    refine y_top ((-1)) (by omega) ?_
    refine y_if 66 11 c140_8 rfl rfl (yz_ge (by omega)) (fun hb11869 => ?_) (fun hb11869 => ?_)
    · exfalso; omega
    · refine y_aload 12 c140_11 rfl rfl rfl ?_
      refine y_iconst 14 c140_12 rfl ?_
      have tb11870 := hTi.atp 376 3 0 3 rfl
      refine y_callP 17 [.ref 376, yI 125] [] c140_14 rfl rfl rfl rfl rfl (ycanO km117 ko376) (t117 hTi (by omega)) (fun r11871 hr11871 => ?_)
      refine y_if 66 20 c140_17 rfl rfl (yz_ne (by omega)) (fun hb11872 => ?_) (fun hb11872 => ?_)
      · refine y_aload 67 c140_66 rfl rfl rfl ?_
        refine y_getX 70 (mi 376 8) c140_67 rfl kf376_8 rfl ?_
        refine y_top ((-1)) (by omega) ?_
        refine y_if 77 73 c140_70 rfl rfl (yz_ge (by omega)) (fun hb11873 => ?_) (fun hb11873 => ?_)
        · exfalso; omega
        · refine y_aload 74 c140_73 rfl rfl rfl ?_
          have es11875 : mi 376 1 = m 376 1 := (hFi 376 1 rfl)
          have tb11876 := hT.atp 376 1 0 320 rfl
          have tb11877 := hTi.atp 376 6 0 320 rfl
          refine y_callUB 77 [.ref 376] [] c140_74 rfl rfl rfl rfl rfl (ycanO km99 ko376) (t99u hTi (by omega)) (fun mq11874 nq11874 hq11874 => ?_)
          obtain ⟨rfl, hTq11874, hFq11874, hq11874⟩ := hq11874
          have x1q11874 : mq11874 376 1 = m 376 1 := ((hFq11874 376 1 rfl).trans (hFi 376 1 rfl))
          have hF11878 := hFi.tr hFq11874 wNx_wCs0
          have es11879 : mq11874 376 1 = m 376 1 := ((hFq11874 376 1 rfl).trans (hFi 376 1 rfl))
          have tb11880 := hTq11874.atp 376 3 0 3 rfl
          have tb11881 := hTq11874.atp 376 6 0 320 rfl
          have es11882 : mq11874 376 8 = mi 376 8 := (hFq11874 376 8 rfl)
          have es11883 : mq11874 376 18 = m 376 18 := ((hFq11874 376 18 rfl).trans (hFi 376 18 rfl))
          have tb11884 := hT.atp 376 18 0 1 rfl
          have es11885 : mq11874 376 9 = mi 376 9 := (hFq11874 376 9 rfl)
          have es11886 : mq11874 390 0 = mi 390 0 := (hFq11874 390 0 rfl)
          have es11887 : mq11874 384 0 = mi 384 0 := (hFq11874 384 0 rfl)
          have es11888 : mq11874 383 0 = mi 383 0 := (hFq11874 383 0 rfl)
          exact y_retU c140_77 ⟨rfl, hTq11874, hF11878, by omega, Or.inr ⟨by omega, by omega, hCi.fw hFq11874 wNx_C, by omega, by omega, by rw [show mq11874 384 0 = mi 384 0 from hFq11874 384 0 rfl, show mq11874 390 0 = mi 390 0 from hFq11874 390 0 rfl]; exact hMi.fr (fun q => hFq11874 397 q rfl) (fun q => hFq11874 398 q rfl) (fun q => hFq11874 399 q rfl) (Int.le_refl _)⟩⟩
      · refine y_aload 21 c140_20 rfl rfl rfl ?_
        refine y_callP 24 [.ref 376] [] c140_21 rfl rfl rfl rfl rfl (ycanO km106 ko376) (t106 hTi) (fun r11889 hr11889 => ?_)
        refine y_if 34 27 c140_24 rfl rfl (yz_eq (by omega)) (fun hb11890 => ?_) (fun hb11890 => ?_)
        · refine y_aload 35 c140_34 rfl rfl rfl ?_
          refine y_callP 38 [.ref 376] [] c140_35 rfl rfl rfl rfl rfl (ycanO km107 ko376) (t107 hTi) (fun r11891 hr11891 => ?_)
          refine y_if 59 41 c140_38 rfl rfl (yz_eq (by omega)) (fun hb11892 => ?_) (fun hb11892 => ?_)
          · refine y_aload 60 c140_59 rfl rfl rfl ?_
            have es11894 : mi 376 1 = m 376 1 := (hFi 376 1 rfl)
            have tb11895 := hT.atp 376 1 0 320 rfl
            have tb11896 := hTi.atp 376 6 0 320 rfl
            refine y_callUB 63 [.ref 376] [] c140_60 rfl rfl rfl rfl rfl (ycanO km104 ko376) (t104 hTi) (fun mq11893 nq11893 hq11893 => ?_)
            obtain ⟨rfl, hTq11893, hFq11893, hq11893⟩ := hq11893
            have x1q11893 : mq11893 376 1 = m 376 1 := ((hFq11893 376 1 rfl).trans (hFi 376 1 rfl))
            have hF11897 := hFi.tr hFq11893 wWr_wCs0
            refine y_goto 4 c140_63 rfl ?_
            have es11898 : mq11893 376 1 = m 376 1 := ((hFq11893 376 1 rfl).trans (hFi 376 1 rfl))
            have es11899 : mq11893 376 3 = mi 376 3 := (hFq11893 376 3 rfl)
            have es11900 : mq11893 376 6 = mi 376 6 := (hFq11893 376 6 rfl)
            have tb11901 := hTq11893.atp 376 8 ((-1)) 320 rfl
            exact t140e_0 hTq11893 hF11897 (by omega) (by omega)
          · refine y_aload 42 c140_41 rfl rfl rfl ?_
            have es11903 : mi 376 1 = m 376 1 := (hFi 376 1 rfl)
            have tb11904 := hT.atp 376 1 0 320 rfl
            have tb11905 := hTi.atp 376 6 0 320 rfl
            have es11906 : mi 376 18 = m 376 18 := (hFi 376 18 rfl)
            have tb11907 := hT.atp 376 18 0 1 rfl
            refine y_callUB 45 [.ref 376] [] c140_42 rfl rfl rfl rfl rfl (ycanO km126 ko376) (t126_0 hTi (by omega) (by omega) (by omega) hCi (by omega) (by omega)) (fun mq11902 nq11902 hq11902 => ?_)
            obtain ⟨rfl, hTq11902, hFq11902, hlq11902, hq11902⟩ := hq11902
            have x1q11902 : mq11902 376 1 = m 376 1 := ((hFq11902 376 1 rfl).trans (hFi 376 1 rfl))
            have hF11908 := hFi.tr hFq11902 wMh0_wCs0
            refine y_aload 46 c140_45 rfl rfl rfl ?_
            refine y_getX 49 (mq11902 376 8) c140_46 rfl kf376_8 rfl ?_
            have tb11909 := hTq11902.atp 376 8 ((-1)) 320 rfl
            refine y_if 4 52 c140_49 rfl rfl (yz_ge (by omega)) (fun hb11910 => ?_) (fun hb11910 => ?_)
            · have es11911 : mq11902 376 1 = m 376 1 := ((hFq11902 376 1 rfl).trans (hFi 376 1 rfl))
              have tb11912 := hTq11902.atp 376 3 0 3 rfl
              have tb11913 := hTq11902.atp 376 6 0 320 rfl
              have es11914 : mq11902 376 18 = m 376 18 := ((hFq11902 376 18 rfl).trans (hFi 376 18 rfl))
              have es11915 : mq11902 376 9 = mi 376 9 := (hFq11902 376 9 rfl)
              have es11916 : mq11902 390 0 = mi 390 0 := (hFq11902 390 0 rfl)
              have tb11917 := hTq11902.atp 384 0 0 10 rfl
              have es11918 : mq11902 383 0 = mi 383 0 := (hFq11902 383 0 rfl)
              exact t140e_0 hTq11902 hF11908 hlq11902 (by omega)
            · refine y_aload 53 c140_52 rfl rfl rfl ?_
              have es11920 : mq11902 376 1 = m 376 1 := ((hFq11902 376 1 rfl).trans (hFi 376 1 rfl))
              have tb11921 := hTq11902.atp 376 3 0 3 rfl
              have tb11922 := hTq11902.atp 376 6 0 320 rfl
              have es11923 : mq11902 376 18 = m 376 18 := ((hFq11902 376 18 rfl).trans (hFi 376 18 rfl))
              have es11924 : mq11902 376 9 = mi 376 9 := (hFq11902 376 9 rfl)
              have es11925 : mq11902 390 0 = mi 390 0 := (hFq11902 390 0 rfl)
              have tb11926 := hTq11902.atp 384 0 0 10 rfl
              have es11927 : mq11902 383 0 = mi 383 0 := (hFq11902 383 0 rfl)
              refine y_callUB 56 [.ref 376] [] c140_53 rfl rfl rfl rfl rfl (ycanO km139 ko376) (t139_0 hTq11902 (by omega) (by omega) (by omega) (by omega) (hq11902.resolve_left (by omega)).2.2.2 (by omega)) (fun mq11919 nq11919 hq11919 => ?_)
              obtain ⟨rfl, hTq11919, hFq11919, hlq11919, hq11919⟩ := hq11919
              have x1q11919 : mq11919 376 1 = m 376 1 := ((hFq11919 376 1 rfl).trans ((hFq11902 376 1 rfl).trans (hFi 376 1 rfl)))
              have hF11928 := hF11908.tr hFq11919 wBd0_wCs0
              refine y_goto 4 c140_56 rfl ?_
              have es11929 : mq11919 376 1 = m 376 1 := ((hFq11919 376 1 rfl).trans ((hFq11902 376 1 rfl).trans (hFi 376 1 rfl)))
              have tb11930 := hTq11919.atp 376 3 0 3 rfl
              have tb11931 := hTq11919.atp 376 6 0 320 rfl
              have tb11932 := hTq11919.atp 376 8 ((-1)) 320 rfl
              have es11933 : mq11919 376 18 = m 376 18 := ((hFq11919 376 18 rfl).trans ((hFq11902 376 18 rfl).trans (hFi 376 18 rfl)))
              have tb11934 := hTq11919.atp 376 9 0 40 rfl
              have tb11935 := hTq11919.atp 390 0 0 125 rfl
              have es11936 : mq11919 384 0 = mq11902 384 0 := (hFq11919 384 0 rfl)
              have es11937 : mq11919 383 0 = mi 383 0 := ((hFq11919 383 0 rfl).trans (hFq11902 383 0 rfl))
              rcases hq11919 with q | q
              · exact t140e_0 hTq11919 hF11928 hlq11919 q
              · have hlo := mu_lo hlq11919
                have h6 := hq11902.resolve_left (by omega)
                have c83 : mq11919 383 0 = mi 383 0 := (hFq11919 383 0 rfl).trans (hFq11902 383 0 rfl)
                exact ih (mu mq11919).toNat (by omega) _ (by omega) hTq11919 hF11928 hlq11919 q.1 (by omega) (by omega) q.2.2.1 q.2.2.2.1 (by rw [show mq11919 384 0 = mq11902 384 0 from hFq11919 384 0 rfl]; exact h6.2.2.2.2.2.1.fr (fun q => hFq11919 397 q rfl) (fun q => hFq11919 398 q rfl) (fun q => hFq11919 399 q rfl) (by omega))
        · refine y_aload 28 c140_27 rfl rfl rfl ?_
          have es11939 : mi 376 1 = m 376 1 := (hFi 376 1 rfl)
          have tb11940 := hT.atp 376 1 0 320 rfl
          have tb11941 := hTi.atp 376 6 0 320 rfl
          have es11942 : mi 376 18 = m 376 18 := (hFi 376 18 rfl)
          have tb11943 := hT.atp 376 18 0 1 rfl
          refine y_callUB 31 [.ref 376] [] c140_28 rfl rfl rfl rfl rfl (ycanO km122 ko376) (t122_0 hTi (by omega) (by omega) (by omega) hCi.2.2.2.1 (by omega) (by omega)) (fun mq11938 nq11938 hq11938 => ?_)
          obtain ⟨rfl, hTq11938, hFq11938, hlq11938, hq11938⟩ := hq11938
          have x1q11938 : mq11938 376 1 = m 376 1 := ((hFq11938 376 1 rfl).trans (hFi 376 1 rfl))
          have hF11944 := hFi.tr hFq11938 wFm0_wCs0
          refine y_goto 4 c140_31 rfl ?_
          have es11945 : mq11938 376 1 = m 376 1 := ((hFq11938 376 1 rfl).trans (hFi 376 1 rfl))
          have tb11946 := hTq11938.atp 376 3 0 3 rfl
          have tb11947 := hTq11938.atp 376 6 0 320 rfl
          have tb11948 := hTq11938.atp 376 8 ((-1)) 320 rfl
          have es11949 : mq11938 376 18 = m 376 18 := ((hFq11938 376 18 rfl).trans (hFi 376 18 rfl))
          have es11950 : mq11938 376 9 = mi 376 9 := (hFq11938 376 9 rfl)
          have es11951 : mq11938 390 0 = mi 390 0 := (hFq11938 390 0 rfl)
          have es11952 : mq11938 384 0 = mi 384 0 := (hFq11938 384 0 rfl)
          have es11953 : mq11938 383 0 = mi 383 0 := (hFq11938 383 0 rfl)
          rcases hq11938 with q | q
          · exact t140e_0 hTq11938 hF11944 hlq11938 q
          · have hlo := mu_lo hlq11938
            exact ih (mu mq11938).toNat (by omega) _ (by omega) hTq11938 hF11944 hlq11938 q.1 (by omega) (by omega) (hCi.fw hFq11938 wFm0_C) (by omega) (by rw [show mq11938 384 0 = mi 384 0 from hFq11938 384 0 rfl, show mq11938 390 0 = mi 390 0 from hFq11938 390 0 rfl]; exact hMi.fr (fun q => hFq11938 397 q rfl) (fun q => hFq11938 398 q rfl) (fun q => hFq11938 399 q rfl) (Int.le_refl _))
set_option maxRecDepth 100000 in
theorem t140_0 {L : Nat} {xs : Nat → Int32} {d nn : Nat} {m : yM} (hT : Ty gT m) (hl : m 376 6 ≤ m 376 1) (hn : m 376 18 = 1) (h8 : m 376 8 < 0) (hC : XD 0 m) (hB : m 390 0 ≤ 2 * m 376 9 + m 384 0) (hM0 : MX 0 m (m 384 0) (m 390 0 - 1)) : YC (gZ L xs) (d + 10) 140 [.ref 376] m nn (qU (fun m' n' => n' = nn ∧ Ty gT m' ∧ Fr wCs0 m m' ∧ m' 376 6 ≤ m' 376 1 ∧ (0 ≤ m' 376 8 ∨ (m' 376 8 < 0 ∧ mu m' < mu m ∧ XD 0 m' ∧ m' 390 0 ≤ 2 * m' 376 9 + m' 384 0 ∧ 1 ≤ m' 383 0 ∧ MX 0 m' (m' 384 0) (m' 390 0 - 1))))) := by
  refine YC.mkB [some (.ref 376)] kn140 rfl rfl ?_
  have hF : Fr wCs0 m m := Fr.rf
  refine y_aload 1 c140_0 rfl rfl rfl ?_
  refine y_callUB 4 [.ref 376] [] c140_1 rfl rfl rfl rfl rfl (ycanO km119 ko376) (t119_0 hT hl hn h8 hC) (fun mq11954 nq11954 hq11954 => ?_)
  obtain ⟨rfl, hTq11954, hFq11954, hlq11954, hq11954⟩ := hq11954
  have hF11955 := hF.tr hFq11954 wHm0_wCs0
  have es11956 : mq11954 376 1 = m 376 1 := (hFq11954 376 1 rfl)
  have tb11957 := hT.atp 376 1 0 320 rfl
  have tb11958 := hTq11954.atp 376 3 0 3 rfl
  have tb11959 := hTq11954.atp 376 6 0 320 rfl
  have tb11960 := hTq11954.atp 376 8 ((-1)) 320 rfl
  have es11961 : mq11954 376 18 = m 376 18 := (hFq11954 376 18 rfl)
  have tb11962 := hT.atp 376 18 0 1 rfl
  have es11963 : mq11954 376 9 = m 376 9 := (hFq11954 376 9 rfl)
  have tb11964 := hT.atp 376 9 0 40 rfl
  have es11965 : mq11954 390 0 = m 390 0 := (hFq11954 390 0 rfl)
  have tb11966 := hT.atp 390 0 0 125 rfl
  have es11967 : mq11954 384 0 = m 384 0 := (hFq11954 384 0 rfl)
  have tb11968 := hT.atp 384 0 0 10 rfl
  have tb11969 := hTq11954.atp 383 0 0 6 rfl
  rcases hq11954 with q | q
  · exact t140e_0 hTq11954 hF11955 hlq11954 q
  · have hlo := mu_lo hlq11954
    exact t140a_0 hT hl hn (mu mq11954).toNat _ (by omega) hTq11954 hF11955 hlq11954 q.1 (by omega) q.2.2.1 q.2.2.2 (by omega) (by rw [show mq11954 384 0 = m 384 0 from hFq11954 384 0 rfl, show mq11954 390 0 = m 390 0 from hFq11954 390 0 rfl]; exact hM0.fr (fun q => hFq11954 397 q rfl) (fun q => hFq11954 398 q rfl) (fun q => hFq11954 399 q rfl) (Int.le_refl _))
def wCs1 (a q : Nat) : Bool := wBd1 a q || wHm1 a q || wFm1 a q || wMh1 a q
theorem wBd1_wCs1 : ∀ a q, wBd1 a q = true → wCs1 a q = true := by
  intro a q h
  simp [wCs1, h]
theorem wHm1_wCs1 : ∀ a q, wHm1 a q = true → wCs1 a q = true := by
  intro a q h
  simp [wCs1, h]
theorem wFm1_wCs1 : ∀ a q, wFm1 a q = true → wCs1 a q = true := by
  intro a q h
  simp [wCs1, h]
theorem wMh1_wCs1 : ∀ a q, wMh1 a q = true → wCs1 a q = true := by
  intro a q h
  simp [wCs1, h]
theorem wNx_wCs1 : ∀ a q, wNx a q = true → wCs1 a q = true := fun a q h => wBd1_wCs1 a q (wNx_wBd1 a q h)
theorem wWr_wCs1 : ∀ a q, wWr a q = true → wCs1 a q = true := fun a q h => wBd1_wCs1 a q (wWr_wBd1 a q h)
theorem wNw_wCs1 : ∀ a q, wNw a q = true → wCs1 a q = true := fun a q h => wBd1_wCs1 a q (wNw_wBd1 a q h)
set_option maxRecDepth 100000 in
theorem t140e_1 {L : Nat} {xs : Nat → Int32} {d nn : Nat} {m : yM} {mi : yM} (hTi : Ty gT mi) (hFi : Fr wCs1 m mi) (hli : mi 376 6 ≤ mi 376 1) (hw : 0 ≤ mi 376 8) : YW (gZ L xs) 140 (d + 10) 4 [some (.ref 376)] [] mi nn (qU (fun m' n' => n' = nn ∧ Ty gT m' ∧ Fr wCs1 m m' ∧ m' 376 6 ≤ m' 376 1 ∧ (0 ≤ m' 376 8 ∨ (m' 376 8 < 0 ∧ mu m' < mu m ∧ XD 1 m' ∧ m' 390 1 ≤ 2 * m' 376 9 + m' 384 1 ∧ 1 ≤ m' 383 1 ∧ MX 1 m' (m' 384 1) (m' 390 1 - 1))))) := by
  have tb := hTi.atp 376 8 (-1) 320 rfl
  refine y_aload 5 c140_4 rfl rfl rfl ?_
  refine y_getX 8 (mi 376 8) c140_5 rfl kf376_8 rfl ?_
  refine y_if 66 11 c140_8 rfl rfl (yz_ge (by omega)) (fun hb => ?_) (fun hb => ?_)
  · refine y_aload 67 c140_66 rfl rfl rfl ?_
    refine y_getX 70 (mi 376 8) c140_67 rfl kf376_8 rfl ?_
    refine y_if 77 73 c140_70 rfl rfl (yz_ge (by omega)) (fun hb => ?_) (fun hb => ?_)
    · exact y_retU c140_77 ⟨rfl, hTi, hFi, hli, Or.inl hw⟩
    · exfalso; omega
  · exfalso; omega
set_option maxRecDepth 100000 in
set_option maxHeartbeats 1000000 in
theorem t140a_1 {L : Nat} {xs : Nat → Int32} {d nn : Nat} {m : yM} (hT : Ty gT m) (hl : m 376 6 ≤ m 376 1) (hn : m 376 18 = 0) : ∀ (k : Nat) (mi : yM), mu mi = k → Ty gT mi → Fr wCs1 m mi → mi 376 6 ≤ mi 376 1 → mi 376 8 < 0 → mu mi < mu m → 1 ≤ mi 383 1 → XD 1 mi → mi 390 1 ≤ 2 * mi 376 9 + mi 384 1 → MX 1 mi (mi 384 1) (mi 390 1 - 1) → YW (gZ L xs) 140 (d + 10) 4 [some (.ref 376)] [] mi nn (qU (fun m' n' => n' = nn ∧ Ty gT m' ∧ Fr wCs1 m m' ∧ m' 376 6 ≤ m' 376 1 ∧ (0 ≤ m' 376 8 ∨ (m' 376 8 < 0 ∧ mu m' < mu m ∧ XD 1 m' ∧ m' 390 1 ≤ 2 * m' 376 9 + m' 384 1 ∧ 1 ≤ m' 383 1 ∧ MX 1 m' (m' 384 1) (m' 390 1 - 1))))) := by
  intro k
  induction k using Nat.strongRecOn with
  | ind k ih =>
    intro mi hk hTi hFi hli h8i hmu hc1 hCi hBi hMi
    have ti376_8 := hTi.atp 376 8 (-1) 320 rfl
    have ti376_9 := hTi.atp 376 9 0 40 rfl
    have ti383_1 := hTi.atp 383 1 0 6 rfl
    have ti384_1 := hTi.atp 384 1 0 10 rfl
    have ti390_1 := hTi.atp 390 1 0 125 rfl
    have em18 : mi 376 18 = m 376 18 := hFi 376 18 rfl
    have em1 : mi 376 1 = m 376 1 := hFi 376 1 rfl
    refine y_aload 5 c140_4 rfl rfl rfl ?_
    refine y_getX 8 (mi 376 8) c140_5 rfl kf376_8 rfl ?_
    refine y_top ((-1)) (by omega) ?_
    refine y_if 66 11 c140_8 rfl rfl (yz_ge (by omega)) (fun hb12215 => ?_) (fun hb12215 => ?_)
    · exfalso; omega
    · refine y_aload 12 c140_11 rfl rfl rfl ?_
      refine y_iconst 14 c140_12 rfl ?_
      have tb12216 := hTi.atp 376 3 0 3 rfl
      refine y_callP 17 [.ref 376, yI 125] [] c140_14 rfl rfl rfl rfl rfl (ycanO km117 ko376) (t117 hTi (by omega)) (fun r12217 hr12217 => ?_)
      refine y_if 66 20 c140_17 rfl rfl (yz_ne (by omega)) (fun hb12218 => ?_) (fun hb12218 => ?_)
      · refine y_aload 67 c140_66 rfl rfl rfl ?_
        refine y_getX 70 (mi 376 8) c140_67 rfl kf376_8 rfl ?_
        refine y_top ((-1)) (by omega) ?_
        refine y_if 77 73 c140_70 rfl rfl (yz_ge (by omega)) (fun hb12219 => ?_) (fun hb12219 => ?_)
        · exfalso; omega
        · refine y_aload 74 c140_73 rfl rfl rfl ?_
          have es12221 : mi 376 1 = m 376 1 := (hFi 376 1 rfl)
          have tb12222 := hT.atp 376 1 0 320 rfl
          have tb12223 := hTi.atp 376 6 0 320 rfl
          refine y_callUB 77 [.ref 376] [] c140_74 rfl rfl rfl rfl rfl (ycanO km99 ko376) (t99u hTi (by omega)) (fun mq12220 nq12220 hq12220 => ?_)
          obtain ⟨rfl, hTq12220, hFq12220, hq12220⟩ := hq12220
          have x1q12220 : mq12220 376 1 = m 376 1 := ((hFq12220 376 1 rfl).trans (hFi 376 1 rfl))
          have hF12224 := hFi.tr hFq12220 wNx_wCs1
          have es12225 : mq12220 376 1 = m 376 1 := ((hFq12220 376 1 rfl).trans (hFi 376 1 rfl))
          have tb12226 := hTq12220.atp 376 3 0 3 rfl
          have tb12227 := hTq12220.atp 376 6 0 320 rfl
          have es12228 : mq12220 376 8 = mi 376 8 := (hFq12220 376 8 rfl)
          have es12229 : mq12220 376 18 = m 376 18 := ((hFq12220 376 18 rfl).trans (hFi 376 18 rfl))
          have tb12230 := hT.atp 376 18 0 1 rfl
          have es12231 : mq12220 376 9 = mi 376 9 := (hFq12220 376 9 rfl)
          have es12232 : mq12220 390 1 = mi 390 1 := (hFq12220 390 1 rfl)
          have es12233 : mq12220 384 1 = mi 384 1 := (hFq12220 384 1 rfl)
          have es12234 : mq12220 383 1 = mi 383 1 := (hFq12220 383 1 rfl)
          exact y_retU c140_77 ⟨rfl, hTq12220, hF12224, by omega, Or.inr ⟨by omega, by omega, hCi.fw hFq12220 wNx_C, by omega, by omega, by rw [show mq12220 384 1 = mi 384 1 from hFq12220 384 1 rfl, show mq12220 390 1 = mi 390 1 from hFq12220 390 1 rfl]; exact hMi.fr (fun q => hFq12220 397 q rfl) (fun q => hFq12220 398 q rfl) (fun q => hFq12220 399 q rfl) (Int.le_refl _)⟩⟩
      · refine y_aload 21 c140_20 rfl rfl rfl ?_
        refine y_callP 24 [.ref 376] [] c140_21 rfl rfl rfl rfl rfl (ycanO km106 ko376) (t106 hTi) (fun r12235 hr12235 => ?_)
        refine y_if 34 27 c140_24 rfl rfl (yz_eq (by omega)) (fun hb12236 => ?_) (fun hb12236 => ?_)
        · refine y_aload 35 c140_34 rfl rfl rfl ?_
          refine y_callP 38 [.ref 376] [] c140_35 rfl rfl rfl rfl rfl (ycanO km107 ko376) (t107 hTi) (fun r12237 hr12237 => ?_)
          refine y_if 59 41 c140_38 rfl rfl (yz_eq (by omega)) (fun hb12238 => ?_) (fun hb12238 => ?_)
          · refine y_aload 60 c140_59 rfl rfl rfl ?_
            have es12240 : mi 376 1 = m 376 1 := (hFi 376 1 rfl)
            have tb12241 := hT.atp 376 1 0 320 rfl
            have tb12242 := hTi.atp 376 6 0 320 rfl
            refine y_callUB 63 [.ref 376] [] c140_60 rfl rfl rfl rfl rfl (ycanO km104 ko376) (t104 hTi) (fun mq12239 nq12239 hq12239 => ?_)
            obtain ⟨rfl, hTq12239, hFq12239, hq12239⟩ := hq12239
            have x1q12239 : mq12239 376 1 = m 376 1 := ((hFq12239 376 1 rfl).trans (hFi 376 1 rfl))
            have hF12243 := hFi.tr hFq12239 wWr_wCs1
            refine y_goto 4 c140_63 rfl ?_
            have es12244 : mq12239 376 1 = m 376 1 := ((hFq12239 376 1 rfl).trans (hFi 376 1 rfl))
            have es12245 : mq12239 376 3 = mi 376 3 := (hFq12239 376 3 rfl)
            have es12246 : mq12239 376 6 = mi 376 6 := (hFq12239 376 6 rfl)
            have tb12247 := hTq12239.atp 376 8 ((-1)) 320 rfl
            exact t140e_1 hTq12239 hF12243 (by omega) (by omega)
          · refine y_aload 42 c140_41 rfl rfl rfl ?_
            have es12249 : mi 376 1 = m 376 1 := (hFi 376 1 rfl)
            have tb12250 := hT.atp 376 1 0 320 rfl
            have tb12251 := hTi.atp 376 6 0 320 rfl
            have es12252 : mi 376 18 = m 376 18 := (hFi 376 18 rfl)
            have tb12253 := hT.atp 376 18 0 1 rfl
            refine y_callUB 45 [.ref 376] [] c140_42 rfl rfl rfl rfl rfl (ycanO km126 ko376) (t126_1 hTi (by omega) (by omega) (by omega) hCi (by omega) (by omega)) (fun mq12248 nq12248 hq12248 => ?_)
            obtain ⟨rfl, hTq12248, hFq12248, hlq12248, hq12248⟩ := hq12248
            have x1q12248 : mq12248 376 1 = m 376 1 := ((hFq12248 376 1 rfl).trans (hFi 376 1 rfl))
            have hF12254 := hFi.tr hFq12248 wMh1_wCs1
            refine y_aload 46 c140_45 rfl rfl rfl ?_
            refine y_getX 49 (mq12248 376 8) c140_46 rfl kf376_8 rfl ?_
            have tb12255 := hTq12248.atp 376 8 ((-1)) 320 rfl
            refine y_if 4 52 c140_49 rfl rfl (yz_ge (by omega)) (fun hb12256 => ?_) (fun hb12256 => ?_)
            · have es12257 : mq12248 376 1 = m 376 1 := ((hFq12248 376 1 rfl).trans (hFi 376 1 rfl))
              have tb12258 := hTq12248.atp 376 3 0 3 rfl
              have tb12259 := hTq12248.atp 376 6 0 320 rfl
              have es12260 : mq12248 376 18 = m 376 18 := ((hFq12248 376 18 rfl).trans (hFi 376 18 rfl))
              have es12261 : mq12248 376 9 = mi 376 9 := (hFq12248 376 9 rfl)
              have es12262 : mq12248 390 1 = mi 390 1 := (hFq12248 390 1 rfl)
              have tb12263 := hTq12248.atp 384 1 0 10 rfl
              have es12264 : mq12248 383 1 = mi 383 1 := (hFq12248 383 1 rfl)
              exact t140e_1 hTq12248 hF12254 hlq12248 (by omega)
            · refine y_aload 53 c140_52 rfl rfl rfl ?_
              have es12266 : mq12248 376 1 = m 376 1 := ((hFq12248 376 1 rfl).trans (hFi 376 1 rfl))
              have tb12267 := hTq12248.atp 376 3 0 3 rfl
              have tb12268 := hTq12248.atp 376 6 0 320 rfl
              have es12269 : mq12248 376 18 = m 376 18 := ((hFq12248 376 18 rfl).trans (hFi 376 18 rfl))
              have es12270 : mq12248 376 9 = mi 376 9 := (hFq12248 376 9 rfl)
              have es12271 : mq12248 390 1 = mi 390 1 := (hFq12248 390 1 rfl)
              have tb12272 := hTq12248.atp 384 1 0 10 rfl
              have es12273 : mq12248 383 1 = mi 383 1 := (hFq12248 383 1 rfl)
              refine y_callUB 56 [.ref 376] [] c140_53 rfl rfl rfl rfl rfl (ycanO km139 ko376) (t139_1 hTq12248 (by omega) (by omega) (by omega) (by omega) (hq12248.resolve_left (by omega)).2.2.2 (by omega)) (fun mq12265 nq12265 hq12265 => ?_)
              obtain ⟨rfl, hTq12265, hFq12265, hlq12265, hq12265⟩ := hq12265
              have x1q12265 : mq12265 376 1 = m 376 1 := ((hFq12265 376 1 rfl).trans ((hFq12248 376 1 rfl).trans (hFi 376 1 rfl)))
              have hF12274 := hF12254.tr hFq12265 wBd1_wCs1
              refine y_goto 4 c140_56 rfl ?_
              have es12275 : mq12265 376 1 = m 376 1 := ((hFq12265 376 1 rfl).trans ((hFq12248 376 1 rfl).trans (hFi 376 1 rfl)))
              have tb12276 := hTq12265.atp 376 3 0 3 rfl
              have tb12277 := hTq12265.atp 376 6 0 320 rfl
              have tb12278 := hTq12265.atp 376 8 ((-1)) 320 rfl
              have es12279 : mq12265 376 18 = m 376 18 := ((hFq12265 376 18 rfl).trans ((hFq12248 376 18 rfl).trans (hFi 376 18 rfl)))
              have tb12280 := hTq12265.atp 376 9 0 40 rfl
              have tb12281 := hTq12265.atp 390 1 0 125 rfl
              have es12282 : mq12265 384 1 = mq12248 384 1 := (hFq12265 384 1 rfl)
              have es12283 : mq12265 383 1 = mi 383 1 := ((hFq12265 383 1 rfl).trans (hFq12248 383 1 rfl))
              rcases hq12265 with q | q
              · exact t140e_1 hTq12265 hF12274 hlq12265 q
              · have hlo := mu_lo hlq12265
                have h6 := hq12248.resolve_left (by omega)
                have c83 : mq12265 383 1 = mi 383 1 := (hFq12265 383 1 rfl).trans (hFq12248 383 1 rfl)
                exact ih (mu mq12265).toNat (by omega) _ (by omega) hTq12265 hF12274 hlq12265 q.1 (by omega) (by omega) q.2.2.1 q.2.2.2.1 (by rw [show mq12265 384 1 = mq12248 384 1 from hFq12265 384 1 rfl]; exact h6.2.2.2.2.2.1.fr (fun q => hFq12265 397 q rfl) (fun q => hFq12265 398 q rfl) (fun q => hFq12265 399 q rfl) (by omega))
        · refine y_aload 28 c140_27 rfl rfl rfl ?_
          have es12285 : mi 376 1 = m 376 1 := (hFi 376 1 rfl)
          have tb12286 := hT.atp 376 1 0 320 rfl
          have tb12287 := hTi.atp 376 6 0 320 rfl
          have es12288 : mi 376 18 = m 376 18 := (hFi 376 18 rfl)
          have tb12289 := hT.atp 376 18 0 1 rfl
          refine y_callUB 31 [.ref 376] [] c140_28 rfl rfl rfl rfl rfl (ycanO km122 ko376) (t122_1 hTi (by omega) (by omega) (by omega) hCi.2.2.2.1 (by omega) (by omega)) (fun mq12284 nq12284 hq12284 => ?_)
          obtain ⟨rfl, hTq12284, hFq12284, hlq12284, hq12284⟩ := hq12284
          have x1q12284 : mq12284 376 1 = m 376 1 := ((hFq12284 376 1 rfl).trans (hFi 376 1 rfl))
          have hF12290 := hFi.tr hFq12284 wFm1_wCs1
          refine y_goto 4 c140_31 rfl ?_
          have es12291 : mq12284 376 1 = m 376 1 := ((hFq12284 376 1 rfl).trans (hFi 376 1 rfl))
          have tb12292 := hTq12284.atp 376 3 0 3 rfl
          have tb12293 := hTq12284.atp 376 6 0 320 rfl
          have tb12294 := hTq12284.atp 376 8 ((-1)) 320 rfl
          have es12295 : mq12284 376 18 = m 376 18 := ((hFq12284 376 18 rfl).trans (hFi 376 18 rfl))
          have es12296 : mq12284 376 9 = mi 376 9 := (hFq12284 376 9 rfl)
          have es12297 : mq12284 390 1 = mi 390 1 := (hFq12284 390 1 rfl)
          have es12298 : mq12284 384 1 = mi 384 1 := (hFq12284 384 1 rfl)
          have es12299 : mq12284 383 1 = mi 383 1 := (hFq12284 383 1 rfl)
          rcases hq12284 with q | q
          · exact t140e_1 hTq12284 hF12290 hlq12284 q
          · have hlo := mu_lo hlq12284
            exact ih (mu mq12284).toNat (by omega) _ (by omega) hTq12284 hF12290 hlq12284 q.1 (by omega) (by omega) (hCi.fw hFq12284 wFm1_C) (by omega) (by rw [show mq12284 384 1 = mi 384 1 from hFq12284 384 1 rfl, show mq12284 390 1 = mi 390 1 from hFq12284 390 1 rfl]; exact hMi.fr (fun q => hFq12284 397 q rfl) (fun q => hFq12284 398 q rfl) (fun q => hFq12284 399 q rfl) (Int.le_refl _))
set_option maxRecDepth 100000 in
theorem t140_1 {L : Nat} {xs : Nat → Int32} {d nn : Nat} {m : yM} (hT : Ty gT m) (hl : m 376 6 ≤ m 376 1) (hn : m 376 18 = 0) (h8 : m 376 8 < 0) (hC : XD 1 m) (hB : m 390 1 ≤ 2 * m 376 9 + m 384 1) (hM0 : MX 1 m (m 384 1) (m 390 1 - 1)) : YC (gZ L xs) (d + 10) 140 [.ref 376] m nn (qU (fun m' n' => n' = nn ∧ Ty gT m' ∧ Fr wCs1 m m' ∧ m' 376 6 ≤ m' 376 1 ∧ (0 ≤ m' 376 8 ∨ (m' 376 8 < 0 ∧ mu m' < mu m ∧ XD 1 m' ∧ m' 390 1 ≤ 2 * m' 376 9 + m' 384 1 ∧ 1 ≤ m' 383 1 ∧ MX 1 m' (m' 384 1) (m' 390 1 - 1))))) := by
  refine YC.mkB [some (.ref 376)] kn140 rfl rfl ?_
  have hF : Fr wCs1 m m := Fr.rf
  refine y_aload 1 c140_0 rfl rfl rfl ?_
  refine y_callUB 4 [.ref 376] [] c140_1 rfl rfl rfl rfl rfl (ycanO km119 ko376) (t119_1 hT hl hn h8 hC) (fun mq12300 nq12300 hq12300 => ?_)
  obtain ⟨rfl, hTq12300, hFq12300, hlq12300, hq12300⟩ := hq12300
  have hF12301 := hF.tr hFq12300 wHm1_wCs1
  have es12302 : mq12300 376 1 = m 376 1 := (hFq12300 376 1 rfl)
  have tb12303 := hT.atp 376 1 0 320 rfl
  have tb12304 := hTq12300.atp 376 3 0 3 rfl
  have tb12305 := hTq12300.atp 376 6 0 320 rfl
  have tb12306 := hTq12300.atp 376 8 ((-1)) 320 rfl
  have es12307 : mq12300 376 18 = m 376 18 := (hFq12300 376 18 rfl)
  have tb12308 := hT.atp 376 18 0 1 rfl
  have es12309 : mq12300 376 9 = m 376 9 := (hFq12300 376 9 rfl)
  have tb12310 := hT.atp 376 9 0 40 rfl
  have es12311 : mq12300 390 1 = m 390 1 := (hFq12300 390 1 rfl)
  have tb12312 := hT.atp 390 1 0 125 rfl
  have es12313 : mq12300 384 1 = m 384 1 := (hFq12300 384 1 rfl)
  have tb12314 := hT.atp 384 1 0 10 rfl
  have tb12315 := hTq12300.atp 383 1 0 6 rfl
  rcases hq12300 with q | q
  · exact t140e_1 hTq12300 hF12301 hlq12300 q
  · have hlo := mu_lo hlq12300
    exact t140a_1 hT hl hn (mu mq12300).toNat _ (by omega) hTq12300 hF12301 hlq12300 q.1 (by omega) q.2.2.1 q.2.2.2 (by omega) (by rw [show mq12300 384 1 = m 384 1 from hFq12300 384 1 rfl, show mq12300 390 1 = m 390 1 from hFq12300 390 1 rfl]; exact hM0.fr (fun q => hFq12300 397 q rfl) (fun q => hFq12300 398 q rfl) (fun q => hFq12300 399 q rfl) (Int.le_refl _))
end
section
/-! THE MODEL: a program that was read; its facts -/
def SX (p : Nat) (m : yM) (s c : Int) : Prop := ∀ k : Nat, (k : Int) < s → -1 ≤ m 400 (12 * p + k) ∧ m 400 (12 * p + k) < c
def FX (p : Nat) (m : yM) (n : Int) : Prop := ∀ o : Nat, (o : Int) < n → (m 403 (1000 * p + 8 * o) = 4 ∨ m 403 (1000 * p + 8 * o) = 5) → -1 ≤ m 403 (1000 * p + 8 * o + 4) ∧ m 403 (1000 * p + 8 * o + 4) ≤ 7
def GQ (p : Nat) (m : yM) : Prop := OX p m (m 390 p) (m 386 p) ∧ JA p m (m 390 p) ∧ LE p m (m 390 p) ∧ MX p m (m 384 p) (m 390 p - 1) ∧ UX p m (m 383 p) ∧ SX p m (m 388 p) (m 383 p) ∧ FX p m (m 390 p) ∧ CV p m (m 387 p) ∧ 1 ≤ m 388 p ∧ 1 ≤ m 383 p ∧ m 390 p ≤ 100 ∧ NS p m (m 390 p) (m 388 p)
/-- the places that it speaks of -/
def vGq (p a q : Nat) : Bool := ((a == 383 || a == 384 || a == 386 || a == 387 || a == 388 || a == 390) && q == p) || (a == 392 && decide (6 * p ≤ q ∧ q < 6 * p + 6)) || ((a == 397 || a == 398 || a == 399) && decide (10 * p ≤ q ∧ q < 10 * p + 10)) || (a == 400 && decide (12 * p ≤ q ∧ q < 12 * p + 12)) || (a == 401 && decide (8 * p ≤ q ∧ q < 8 * p + 8)) || (a == 403 && decide (1000 * p ≤ q ∧ q < 1000 * p + 1000))
section GQL
variable {p : Nat} {m m' m1 m2 : yM}
theorem GQ.fr (h : GQ p m) (hT : Ty gT m) (hp : p = 0 ∨ p = 1) (e : ∀ a q, vGq p a q = true → m' a q = m a q) : GQ p m' := by
  have s1 := e 383 p (by simp [vGq])
  have s2 := e 384 p (by simp [vGq])
  have s3 := e 386 p (by simp [vGq])
  have s4 := e 387 p (by simp [vGq])
  have s5 := e 388 p (by simp [vGq])
  have s6 := e 390 p (by simp [vGq])
  have t1 : m 383 p ≤ 6 := by rcases hp with rfl | rfl <;> exact (hT.atp 383 _ 0 6 rfl).2
  have t2 : m 384 p ≤ 10 := by rcases hp with rfl | rfl <;> exact (hT.atp 384 _ 0 10 rfl).2
  have t4 : m 387 p ≤ 8 := by rcases hp with rfl | rfl <;> exact (hT.atp 387 _ 0 8 rfl).2
  have t5 : m 388 p ≤ 12 := by rcases hp with rfl | rfl <;> exact (hT.atp 388 _ 0 12 rfl).2
  obtain ⟨x1, x2, x3, x4, x5, x6, x7, x8, x9, x10, x11, x12⟩ := h
  have e3 : ∀ o : Nat, (o : Int) < m 390 p → ∀ j, j < 8 → m' 403 (1000 * p + 8 * o + j) = m 403 (1000 * p + 8 * o + j) := fun o ho j hj => e _ _ (by simp [vGq]; omega)
  have e0 : ∀ o : Nat, (o : Int) < m 390 p → m' 403 (1000 * p + 8 * o) = m 403 (1000 * p + 8 * o) := fun o ho => e3 o ho 0 (by decide)
  unfold GQ
  rw [s1, s2, s3, s4, s5, s6]
  refine ⟨⟨fun o ho => (x1.1 o ho).eq (fun q h1 h2 => e _ _ (by simp [vGq]; omega)), fun o ho => ?_, fun o ho => ?_, fun i j hij hj => ?_⟩, fun o ho => ?_, ⟨fun o ho => by rw [e0 o (by omega)]; exact x3.1 o ho, fun o ho => by rw [e0 o ho, e3 o ho 3 (by decide)]; exact x3.2 o ho⟩, fun i hi => ?_, fun k hk => ?_, fun k hk => ?_, fun o ho => ?_, fun c hc => ?_, x9, x10, x11, fun o ho => by rw [e0 o ho, e3 o ho 3 (by decide)]; exact x12 o ho⟩
  · rw [e0 o ho, e3 o ho 3 (by decide)]
    exact x1.2.1 o ho
  · rw [e0 o ho, e3 o ho 5 (by decide)]
    exact x1.2.2.1 o ho
  · rw [e0 i (by omega), e3 i (by omega) 5 (by decide), e0 j hj, e3 j hj 5 (by decide)]
    exact x1.2.2.2 i j hij hj
  · rw [e0 o ho]
    intro k
    have hw := x1.1 o ho
    have ht := x1.2.1 o ho (by omega)
    rcases x2 o ho k with q | q
    · left
      rw [e3 o ho 3 (by decide)]
      exact q
    · right
      rw [e3 o ho 3 (by decide)]
      have h0 : 0 ≤ m 403 (1000 * p + 8 * o + 3) := hw.2.2.2.1.1
      rw [e _ _ (by simp [vGq]; omega)]
      exact q
  · rw [e _ _ (by simp [vGq]; omega), e _ _ (by simp [vGq]; omega), e _ _ (by simp [vGq]; omega)]
    exact x4 i hi
  · rw [e _ _ (by simp [vGq]; omega)]
    exact x5 k hk
  · rw [e _ _ (by simp [vGq]; omega)]
    exact x6 k hk
  · rw [e0 o ho, e3 o ho 4 (by decide)]
    exact x7 o ho
  · rw [e _ _ (by simp [vGq]; omega)]
    exact x8 c hc
/-- how many of the first n are below 0 -/
def ngc (f : Nat → Int) : Nat → Nat
  | 0 => 0
  | n + 1 => ngc f n + (if f n < 0 then 1 else 0)
theorem ngc_le {f : Nat → Int} : ∀ n, ngc f n ≤ n := by
  intro n
  induction n with
  | zero => exact Nat.le_refl _
  | succ n ih =>
    simp only [ngc]
    split <;> omega
theorem ngc_mono {f g : Nat → Int} (h : ∀ q, 0 ≤ f q → 0 ≤ g q) : ∀ n, ngc g n ≤ ngc f n := by
  intro n
  induction n with
  | zero => exact Nat.le_refl _
  | succ n ih =>
    simp only [ngc]
    have := h n
    split <;> split <;> omega
theorem ngc_lt {f g : Nat → Int} (h : ∀ q, 0 ≤ f q → 0 ≤ g q) {k : Nat} (h1 : f k < 0) (h2 : 0 ≤ g k) : ∀ n, k < n → ngc g n < ngc f n := by
  intro n
  induction n with
  | zero => intro hk; omega
  | succ n ih =>
    intro hk
    simp only [ngc]
    by_cases q : k = n
    · subst q
      have := ngc_mono h k
      rw [if_pos h1, if_neg (by omega)]
      omega
    · have := ih (by omega)
      have := h n
      split <;> split <;> omega
def NEG (m : yM) : Nat := ngc (m 404) 576 + ngc (m 405) 1152 + ngc (m 406) 120 + ngc (m 407) 10
/-- facts stay; something new is told -/
def AN (m m' : yM) : Prop := (∀ a q, 404 ≤ a ∧ a ≤ 407 → 0 ≤ m a q → 0 ≤ m' a q) ∧ (m' 376 46 = m 376 46 ∨ (m' 376 46 = 1 ∧ ∃ a q, ((a = 404 ∧ q < 576) ∨ (a = 405 ∧ q < 1152) ∨ (a = 406 ∧ q < 120) ∨ (a = 407 ∧ q < 10)) ∧ m a q < 0 ∧ 0 ≤ m' a q))
theorem AN.rf : AN m m := ⟨fun _ _ _ h => h, Or.inl rfl⟩
theorem AN.tr (h : AN m m1) (h' : AN m1 m2) : AN m m2 := by
  obtain ⟨a1, a2⟩ := h
  obtain ⟨b1, b2⟩ := h'
  refine ⟨fun a q ha hq => b1 a q ha (a1 a q ha hq), ?_⟩
  rcases b2 with b2 | ⟨b2, a, q, b3, b4, b5⟩
  · rcases a2 with a2 | ⟨a2, a, q, a3, a4, a5⟩
    · exact Or.inl (b2.trans a2)
    · exact Or.inr ⟨b2.trans a2, a, q, a3, a4, b1 a q (by omega) a5⟩
  · refine Or.inr ⟨b2, a, q, b3, ?_, b5⟩
    by_cases z : 0 ≤ m a q
    · have := a1 a q (by omega) z
      omega
    · omega
theorem AN.w {a q : Nat} {v : Int} (h : (a = 404 ∧ q < 576) ∨ (a = 405 ∧ q < 1152) ∨ (a = 406 ∧ q < 120) ∨ (a = 407 ∧ q < 10)) (h1 : m a q < 0) (h2 : 0 ≤ v) : AN m (yup (yup m a q v) 376 46 1) := by
  refine ⟨fun b j hb hj => ?_, Or.inr ⟨yup_eq _ _ _ _, a, q, h, h1, ?_⟩⟩
  · rw [yup_na (by omega)]
    by_cases z : b = a ∧ j = q
    · obtain ⟨rfl, rfl⟩ := z
      rw [yup_eq]
      exact h2
    · rw [yup_ne z]
      exact hj
  · rw [yup_na (by omega), yup_eq]
    exact h2
theorem AN.neg (h : AN m m') : NEG m' ≤ NEG m ∧ (m' 376 46 ≠ m 376 46 → NEG m' < NEG m) := by
  obtain ⟨a1, a2⟩ := h
  have h4 : ∀ q, 0 ≤ m 404 q → 0 ≤ m' 404 q := fun q => a1 404 q (by omega)
  have h5 : ∀ q, 0 ≤ m 405 q → 0 ≤ m' 405 q := fun q => a1 405 q (by omega)
  have h6 : ∀ q, 0 ≤ m 406 q → 0 ≤ m' 406 q := fun q => a1 406 q (by omega)
  have h7 : ∀ q, 0 ≤ m 407 q → 0 ≤ m' 407 q := fun q => a1 407 q (by omega)
  have k4 := ngc_mono h4 576
  have k5 := ngc_mono h5 1152
  have k6 := ngc_mono h6 120
  have k7 := ngc_mono h7 10
  unfold NEG
  refine ⟨by omega, fun hne => ?_⟩
  rcases a2 with a2 | ⟨-, a, q, b, b1, b2⟩
  · exact absurd a2 hne
  · rcases b with ⟨rfl, hq⟩ | ⟨rfl, hq⟩ | ⟨rfl, hq⟩ | ⟨rfl, hq⟩
    · have := ngc_lt h4 b1 b2 576 hq; omega
    · have := ngc_lt h5 b1 b2 1152 hq; omega
    · have := ngc_lt h6 b1 b2 120 hq; omega
    · have := ngc_lt h7 b1 b2 10 hq; omega
theorem NEG.hi : NEG m ≤ 1858 := by
  have := ngc_le (f := m 404) 576
  have := ngc_le (f := m 405) 1152
  have := ngc_le (f := m 406) 120
  have := ngc_le (f := m 407) 10
  unfold NEG
  omega
/-- a call goes only where its arguments fit -/
def GM (p : Nat) (m : yM) : Prop := ∀ o : Nat, (o : Int) < m 390 p → m 403 (1000 * p + 8 * o) = 7 → ∀ i : Nat, (i : Int) < m 384 p → 0 ≤ m 406 (10 * (m 403 (1000 * p + 8 * o + 5) / 16).toNat + i) → m 397 (10 * p + i) = m 403 (1000 * p + 8 * o + 5) % 16
def wAn (a q : Nat) : Bool := (a == 376 && q == 46) || decide (404 ≤ a ∧ a ≤ 407)
def wAm (a q : Nat) : Bool := (a == 376 && q == 46) || a == 404 || a == 405 || a == 407
theorem wAm_wAn : ∀ a q, wAm a q = true → wAn a q = true := by
  intro a q h
  simp [wAm] at h
  simp [wAn]
  omega
theorem wAn_G : ∀ a q, vGq p a q = true → wAn a q = false := by
  intro a q h
  cases e : wAn a q with
  | false => rfl
  | true => simp [wAn] at e; simp [vGq] at h; omega
theorem GM.fr (h : GM p m) (F : Fr wAm m m') : GM p m' := by
  have e3 : ∀ q, m' 403 q = m 403 q := fun q => F 403 q rfl
  have e6 : ∀ q, m' 406 q = m 406 q := fun q => F 406 q rfl
  have e7 : ∀ q, m' 397 q = m 397 q := fun q => F 397 q rfl
  have s1 : m' 390 p = m 390 p := F 390 p rfl
  have s2 : m' 384 p = m 384 p := F 384 p rfl
  unfold GM at h ⊢
  simp only [e3, e6, e7, s1, s2]
  exact h
theorem GM.up {a q : Nat} {v : Int} (h : GM p m) (ha : a ≠ 403 ∧ a ≠ 406 ∧ a ≠ 397 ∧ a ≠ 390 ∧ a ≠ 384) : GM p (yup m a q v) := by
  intro o ho h7 i hi hne
  rw [yup_na (by omega)] at ho h7 hi
  rw [yup_na (by omega), yup_na (by omega)] at hne
  rw [yup_na (by omega), yup_na (by omega)]
  exact h o ho h7 i hi hne
theorem GM.goes {o i : Nat} {v : Int} (h : GM p m) (hO : OX p m (m 390 p) (m 386 p)) (ho : (o : Int) < m 390 p) (h7 : m 403 (1000 * p + 8 * o) = 7) (hk : m 384 p ≤ 10) (hi : i < 10) (hs : m 397 (10 * p + i) = m 403 (1000 * p + 8 * o + 5) % 16) : GM p (yup m 406 (10 * (m 403 (1000 * p + 8 * o + 5) / 16).toNat + i) v) := by
  intro o2 ho2 h72 i2 hi2 hne
  rw [yup_na (by omega)] at ho2 h72 hi2
  rw [yup_na (by decide), yup_na (by decide)]
  rw [yup_na (b := 403) (by decide)] at hne
  by_cases q : o2 = o ∧ i2 = i
  · obtain ⟨rfl, rfl⟩ := q
    exact hs
  · have w1 := (hO.1 o ho).2.2.2.2.2.2.2.2 h7
    have w2 := (hO.1 o2 ho2).2.2.2.2.2.2.2.2 h72
    rw [yup_nk] at hne
    · exact h o2 ho2 h72 i2 hi2 hne
    · intro e
      have : m 403 (1000 * p + 8 * o2 + 5) / 16 = m 403 (1000 * p + 8 * o + 5) / 16 := by omega
      rcases Nat.lt_trichotomy o2 o with z | z | z
      · have := hO.2.2.2 o2 o z ho h72 h7; omega
      · exact q ⟨z, by subst z; omega⟩
      · have := hO.2.2.2 o o2 z ho2 h7 h72; omega
end GQL
end
