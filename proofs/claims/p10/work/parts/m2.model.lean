/-! CONTRACTS: the model, read. Printed by wip/whole/gen9f.py -/
theorem wSe0_wML : ∀ a q, wSe0 a q = true → wML a q = true := wML_of (fun a q h => by simp [wSe0, wS40, wS20, wS30] at h; omega)
theorem wCs0_wML : ∀ a q, wCs0 a q = true → wML a q = true := wML_of (fun a q h => by simp [wCs0, wBd0, wSt0, wHm0, wFm0, wMh0] at h; omega)
theorem wSe0_G : ∀ a q, vGq 1 a q = true → wSe0 a q = false := by
  intro a q h
  cases e : wSe0 a q with
  | false => rfl
  | true => simp [wSe0, wS40, wS20, wS30] at e; simp [vGq] at h; omega
theorem wCs0_G : ∀ a q, vGq 1 a q = true → wCs0 a q = false := by
  intro a q h
  cases e : wCs0 a q with
  | false => rfl
  | true => simp [wCs0, wBd0, wSt0, wHm0, wFm0, wMh0] at e; simp [vGq] at h; omega
theorem wNx_G {p : Nat} : ∀ a q, vGq p a q = true → wNx a q = false := by
  intro a q h
  cases e : wNx a q with
  | false => rfl
  | true => simp [wNx] at e; simp [vGq] at h; omega
theorem wRo_G8 {p : Nat} : ∀ a q, vGq p a q = true → (wRo 408) a q = false := by
  intro a q h
  cases e : (wRo 408) a q with
  | false => rfl
  | true => simp [wRo] at e; simp [vGq] at h; omega
set_option maxRecDepth 100000 in
theorem t152c_0 {L : Nat} {xs : Nat → Int32} {d nn : Nat} {m : yM} {m0 : yM} (hT : Ty gT m) (hn : m 376 18 = 1) (h40 : m 400 (12 * 0) = 0) (hI : m 376 19 = 0 ∨ GQ 1 m) (hF0 : Fr wML m0 m) (hw : 0 ≤ m 376 8 ∨ (m 376 8 < 0 ∧ XD 0 m ∧ m 390 0 ≤ 2 * m 376 9 + m 384 0 ∧ 1 ≤ m 383 0 ∧ MX 0 m (m 384 0) (m 390 0 - 1))) : YW (gZ L xs) 152 (d + 13) 120 [some (.ref 376), some (yI 0), none, none] [] m nn (qMd nn m0) := by
  have tb8 := hT.atp 376 8 (-1) 320 rfl
  have tb9 := hT.atp 376 9 0 40 rfl
  have tb19 := hT.atp 376 19 0 1 rfl
  have tb4 := hT.atp 384 0 0 10 rfl
  refine y_aload 121 c152_120 rfl rfl rfl ?_
  refine y_getX 124 (m 376 8) c152_121 rfl kf376_8 rfl ?_
  refine y_if 132 127 c152_124 rfl rfl (yz_ge (by omega)) (fun hb12914 => ?_) (fun hb12914 => ?_)
  · refine y_aload 133 c152_132 rfl rfl rfl ?_
    refine y_aload 134 c152_133 rfl rfl rfl ?_
    refine y_getX 137 (m 376 8) c152_134 rfl kf376_8 rfl ?_
    refine y_putI 140 c152_137 rfl kf376_2 (y_fit0 _) ?_
    have hT12915 := hT.up 376 2 (m 376 8) ((-2147483648)) 2147483647 rfl (by omega)
    have hF12916 := hF0.up 376 2 (m 376 8) rfl
    refine y_aload 141 c152_140 rfl rfl rfl ?_
    refine y_aload 142 c152_141 rfl rfl rfl ?_
    refine y_getX 145 (m 376 8) c152_142 rfl kf376_8 rfl ?_
    refine y_if 152 148 c152_145 rfl rfl (yz_ge (by omega)) (fun hb12917 => ?_) (fun hb12917 => ?_)
    · refine y_iconst 153 c152_152 rfl ?_
      refine y_iconst 154 c152_153 rfl ?_
      refine y_inlB 157 [.ref 376, yI 0, yI 1] [] [some (.ref 376), some (yI 0), some (yI 1)] c152_154 rfl rfl rfl rfl rfl (ycanO km23 ko376) kn23 rfl rfl ?_
      refine y_aload 1 c23_0 rfl rfl rfl ?_
      refine y_iload 2 c23_1 rfl rfl ?_
      refine y_if 9 5 c23_2 rfl rfl (yz_eq (by omega)) (fun hb12918 => ?_) (fun hb12918 => ?_)
      · refine y_iload 10 c23_9 rfl rfl ?_
        refine y_putI 13 c23_10 rfl kf376_57 (y_fit0 _) ?_
        have hT12919 := hT12915.up 376 57 1 0 4 rfl (by omega)
        have hF12920 := hF12916.up 376 57 1 rfl
        refine y_iload 14 c23_13 rfl rfl ?_
        refine y_ireturnK c23_14 (y_fit1 (by omega)) ?_
        refine y_if 162 160 c152_157 rfl rfl (yz_ne (by omega)) (fun hb12921 => ?_) (fun hb12921 => ?_)
        · exfalso; omega
        · refine y_iconst 161 c152_160 rfl ?_
          have es12922 : (yup (yup m 376 2 (m 376 8)) 376 57 1) 376 18 = m 376 18 := rfl
          have tb12923 := hT.atp 376 18 0 1 rfl
          have es12924 : (yup (yup m 376 2 (m 376 8)) 376 57 1) 376 19 = m 376 19 := rfl
          refine y_ireturn c152_161 (y_fit0 _) ⟨_, rfl, rfl, hF12920, hT12919, ?_⟩
          rcases hI with q | q
          · exact Or.inl (by omega)
          · exact Or.inr (Or.inr ⟨by omega, q.fr hT (by decide) (fun a q ha => ((yup_ne (by rintro ⟨rfl, rfl⟩; simp [vGq] at ha)).trans (yup_ne (by rintro ⟨rfl, rfl⟩; simp [vGq] at ha))))⟩)
      · exfalso; omega
    · exfalso; omega
  · refine y_aload 128 c152_127 rfl rfl rfl ?_
    refine y_iload 129 c152_128 rfl rfl ?_
    obtain ⟨hw1, hw2, hw3, hw4, hw5⟩ := hw.resolve_left (by omega)
    refine y_callUB 132 [.ref 376, yI 0] [] c152_129 rfl rfl rfl rfl rfl (ycanO km141 ko376) (t141_0 hT hw2 hw4 h40 (by omega) hw5) (fun mq12925 nq12925 hq12925 => ?_)
    obtain ⟨rfl, hTq12925, hFq12925, hq12925⟩ := hq12925
    have t8q12925 := hTq12925.atp 376 8 (-1) 320 rfl
    have hF12926 := hF0.tr hFq12925 wSe0_wML
    refine y_aload 133 c152_132 rfl rfl rfl ?_
    refine y_aload 134 c152_133 rfl rfl rfl ?_
    refine y_getX 137 (mq12925 376 8) c152_134 rfl kf376_8 rfl ?_
    refine y_putI 140 c152_137 rfl kf376_2 (y_fit0 _) ?_
    have hT12927 := hTq12925.up 376 2 (mq12925 376 8) ((-2147483648)) 2147483647 rfl (by omega)
    have hF12928 := hF12926.up 376 2 (mq12925 376 8) rfl
    refine y_aload 141 c152_140 rfl rfl rfl ?_
    refine y_aload 142 c152_141 rfl rfl rfl ?_
    refine y_getX 145 (mq12925 376 8) c152_142 rfl kf376_8 rfl ?_
    refine y_if 152 148 c152_145 rfl rfl (yz_ge (by omega)) (fun hb12929 => ?_) (fun hb12929 => ?_)
    · refine y_iconst 153 c152_152 rfl ?_
      refine y_iconst 154 c152_153 rfl ?_
      refine y_inlB 157 [.ref 376, yI 0, yI 1] [] [some (.ref 376), some (yI 0), some (yI 1)] c152_154 rfl rfl rfl rfl rfl (ycanO km23 ko376) kn23 rfl rfl ?_
      refine y_aload 1 c23_0 rfl rfl rfl ?_
      refine y_iload 2 c23_1 rfl rfl ?_
      refine y_if 9 5 c23_2 rfl rfl (yz_eq (by omega)) (fun hb12930 => ?_) (fun hb12930 => ?_)
      · refine y_iload 10 c23_9 rfl rfl ?_
        refine y_putI 13 c23_10 rfl kf376_57 (y_fit0 _) ?_
        have hT12931 := hT12927.up 376 57 1 0 4 rfl (by omega)
        have hF12932 := hF12928.up 376 57 1 rfl
        refine y_iload 14 c23_13 rfl rfl ?_
        refine y_ireturnK c23_14 (y_fit1 (by omega)) ?_
        refine y_if 162 160 c152_157 rfl rfl (yz_ne (by omega)) (fun hb12933 => ?_) (fun hb12933 => ?_)
        · exfalso; omega
        · refine y_iconst 161 c152_160 rfl ?_
          have es12934 : (yup (yup mq12925 376 2 (mq12925 376 8)) 376 57 1) 376 18 = m 376 18 := ((yup_nk (by decide)).trans ((yup_nk (by decide)).trans (hFq12925 376 18 rfl)))
          have tb12935 := hT.atp 376 18 0 1 rfl
          have es12936 : (yup (yup mq12925 376 2 (mq12925 376 8)) 376 57 1) 376 19 = m 376 19 := ((yup_nk (by decide)).trans ((yup_nk (by decide)).trans (hFq12925 376 19 rfl)))
          refine y_ireturn c152_161 (y_fit0 _) ⟨_, rfl, rfl, hF12932, hT12931, ?_⟩
          rcases hI with q | q
          · exact Or.inl (by omega)
          · exact Or.inr (Or.inr ⟨by omega, q.fr hT (by decide) (fun a q ha => ((yup_ne (by rintro ⟨rfl, rfl⟩; simp [vGq] at ha)).trans ((yup_ne (by rintro ⟨rfl, rfl⟩; simp [vGq] at ha)).trans (hFq12925 a q (wSe0_G a q ha)))))⟩)
      · exfalso; omega
    · refine y_iconst 149 c152_148 rfl ?_
      refine y_goto 153 c152_149 rfl ?_
      refine y_iconst 154 c152_153 rfl ?_
      refine y_inlB 157 [.ref 376, yI 1, yI 1] [] [some (.ref 376), some (yI 1), some (yI 1)] c152_154 rfl rfl rfl rfl rfl (ycanO km23 ko376) kn23 rfl rfl ?_
      refine y_aload 1 c23_0 rfl rfl rfl ?_
      refine y_iload 2 c23_1 rfl rfl ?_
      refine y_if 9 5 c23_2 rfl rfl (yz_eq (by omega)) (fun hb12937 => ?_) (fun hb12937 => ?_)
      · exfalso; omega
      · refine y_iconst 6 c23_5 rfl ?_
        refine y_goto 10 c23_6 rfl ?_
        refine y_putI 13 c23_10 rfl kf376_57 (y_fit0 _) ?_
        have hT12938 := hT12927.up 376 57 0 0 4 rfl (by omega)
        have hF12939 := hF12928.up 376 57 0 rfl
        refine y_iload 14 c23_13 rfl rfl ?_
        refine y_ireturnK c23_14 (y_fit1 (by omega)) ?_
        refine y_if 162 160 c152_157 rfl rfl (yz_ne (by omega)) (fun hb12940 => ?_) (fun hb12940 => ?_)
        · refine y_aload 163 c152_162 rfl rfl rfl ?_
          refine y_iload 164 c152_163 rfl rfl ?_
          refine y_putI 167 c152_164 rfl kf376_18 (y_fit0 _) ?_
          have hT12941 := hT12938.up 376 18 0 0 1 rfl (by omega)
          have hF12942 := hF12939.up 376 18 0 rfl
          refine y_aload 168 c152_167 rfl rfl rfl ?_
          refine y_iconst 169 c152_168 rfl ?_
          refine y_putI 172 c152_169 rfl kf376_19 (y_fit1 (by omega)) ?_
          have hT12943 := hT12941.up 376 19 1 0 1 rfl (by omega)
          have hF12944 := hF12942.up 376 19 1 rfl
          refine y_aload 173 c152_172 rfl rfl rfl ?_
          refine y_iconst 174 c152_173 rfl ?_
          refine y_putI 177 c152_174 rfl kf376_51 (y_fit0 _) ?_
          have hT12945 := hT12943.up 376 51 0 0 30 rfl (by omega)
          have hF12946 := hF12944.up 376 51 0 rfl
          refine y_iconst 178 c152_177 rfl ?_
          refine y_istore 179 c152_178 rfl rfl ?_
          refine t152s hT12945 (fun z2 mz hTmz hFmz => ?_) 576 0 _ (by omega) (by omega) hT12945 Fr.rf
          have hF12947 := hF12946.tr hFmz (wRo_wML (by decide))
          refine y_aload 200 c152_199 rfl rfl rfl ?_
          have es12949 : mz 376 18 = 0 := ((hFmz 376 18 rfl).trans ((yup_nk (by decide)).trans ((yup_nk (by decide)).trans (yup_eq _ _ _ _))))
          have hg : GQ 0 mz := ((hq12925.resolve_left (by omega)).2).fr hTq12925 (by decide) (fun a q ha => ((hFmz a q (wRo_G8 a q ha)).trans ((yup_ne (by rintro ⟨rfl, rfl⟩; simp [vGq] at ha)).trans ((yup_ne (by rintro ⟨rfl, rfl⟩; simp [vGq] at ha)).trans ((yup_ne (by rintro ⟨rfl, rfl⟩; simp [vGq] at ha)).trans ((yup_ne (by rintro ⟨rfl, rfl⟩; simp [vGq] at ha)).trans (yup_ne (by rintro ⟨rfl, rfl⟩; simp [vGq] at ha))))))))
          refine y_callUB 203 [.ref 376] [] c152_200 rfl rfl rfl rfl rfl (ycanO km151 ko376) (t151_0 hTmz (by omega) hg) (fun mq12948 nq12948 hq12948 => ?_)
          obtain ⟨rfl, hTq12948, hFq12948⟩ := hq12948
          have hF12950 := hF12947.tr hFq12948 wAz_wML
          refine y_iconst 204 c152_203 rfl ?_
          refine y_istore 205 c152_204 rfl rfl ?_
          refine y_iconst 206 c152_205 rfl ?_
          refine y_istore 207 c152_206 rfl rfl ?_
          have es12951 : mq12948 376 18 = 0 := ((hFq12948 376 18 rfl).trans ((hFmz 376 18 rfl).trans ((yup_nk (by decide)).trans ((yup_nk (by decide)).trans (yup_eq _ _ _ _)))))
          have es12952 : mq12948 376 19 = 1 := ((hFq12948 376 19 rfl).trans ((hFmz 376 19 rfl).trans ((yup_nk (by decide)).trans (yup_eq _ _ _ _))))
          have hg2 : GQ 0 mq12948 := hg.fr hTmz (by decide) (fun a q ha => hFq12948 a q (wAz_G a q ha))
          exact t152n hTq12948 (fun r hr => ⟨r, rfl, rfl, hF12950, hTq12948, Or.inr (Or.inl ⟨by omega, hg2⟩)⟩) 576 0 0 (by omega) (by omega) (by omega)
        · exfalso; omega
theorem wCs0_400 : wCs0 400 (12 * 0) = false := by decide
set_option maxRecDepth 100000 in
theorem t152x_0 {L : Nat} {xs : Nat → Int32} {d nn : Nat} {m : yM} {m0 : yM} (hT : Ty gT m) (hn : m 376 18 = 1) (h40 : m 400 (12 * 0) = 0) (hI : m 376 19 = 0 ∨ GQ 1 m) (hF0 : Fr wML m0 m) {mi : yM} (hTi : Ty gT mi) (hFi : Fr wCs0 m mi) (hw : 0 ≤ mi 376 8) : YW (gZ L xs) 152 (d + 13) 99 [some (.ref 376), some (yI 0), none, none] [] mi nn (qMd nn m0) := by
  have tb8 := hTi.atp 376 8 (-1) 320 rfl
  have em18 : mi 376 18 = m 376 18 := hFi 376 18 rfl
  refine y_aload 100 c152_99 rfl rfl rfl ?_
  refine y_getX 103 (mi 376 8) c152_100 rfl kf376_8 rfl ?_
  refine y_if 120 106 c152_103 rfl rfl (yz_ge (by omega)) (fun hb => ?_) (fun hb => ?_)
  · exact t152c_0 hTi (by omega) ((hFi 400 _ wCs0_400).trans h40) (by rcases hI with q | q; exact Or.inl ((hFi 376 19 rfl).trans q); exact Or.inr (q.fr hT (by decide) (fun a q ha => hFi a q (wCs0_G a q ha)))) (hF0.tr hFi wCs0_wML) (Or.inl hw)
  · exfalso; omega
set_option maxRecDepth 100000 in
theorem t152a_0 {L : Nat} {xs : Nat → Int32} {d nn : Nat} {m : yM} {m0 : yM} (hT : Ty gT m) (hn : m 376 18 = 1) (h40 : m 400 (12 * 0) = 0) (hI : m 376 19 = 0 ∨ GQ 1 m) (hF0 : Fr wML m0 m) (hl : m 376 6 ≤ m 376 1) : ∀ (k : Nat) (mi : yM), mu mi = k → Ty gT mi → Fr wCs0 m mi → mi 376 6 ≤ mi 376 1 → (0 ≤ mi 376 8 ∨ (mi 376 8 < 0 ∧ XD 0 mi ∧ mi 390 0 ≤ 2 * mi 376 9 + mi 384 0 ∧ 1 ≤ mi 383 0 ∧ MX 0 mi (mi 384 0) (mi 390 0 - 1))) → YW (gZ L xs) 152 (d + 13) 99 [some (.ref 376), some (yI 0), none, none] [] mi nn (qMd nn m0) := by
  intro k
  induction k using Nat.strongRecOn with
  | ind k ih =>
    intro mi hk hTi hFi hli hw
    have tb8 := hTi.atp 376 8 (-1) 320 rfl
    have em18 : mi 376 18 = m 376 18 := hFi 376 18 rfl
    have em1 : mi 376 1 = m 376 1 := hFi 376 1 rfl
    refine y_aload 100 c152_99 rfl rfl rfl ?_
    refine y_getX 103 (mi 376 8) c152_100 rfl kf376_8 rfl ?_
    refine y_if 120 106 c152_103 rfl rfl (yz_ge (by omega)) (fun hb12953 => ?_) (fun hb12953 => ?_)
    · exact t152c_0 hTi (by omega) ((hFi 400 _ wCs0_400).trans h40) (by rcases hI with q | q; exact Or.inl ((hFi 376 19 rfl).trans q); exact Or.inr (q.fr hT (by decide) (fun a q ha => hFi a q (wCs0_G a q ha)))) (hF0.tr hFi wCs0_wML) hw
    · refine y_aload 107 c152_106 rfl rfl rfl ?_
      refine y_getX 110 (mi 376 3) c152_107 rfl kf376_3 rfl ?_
      have tb12954 := hTi.atp 376 3 0 3 rfl
      refine y_if 120 113 c152_110 rfl rfl (yz_eq (by omega)) (fun hb12955 => ?_) (fun hb12955 => ?_)
      · exact t152c_0 hTi (by omega) ((hFi 400 _ wCs0_400).trans h40) (by rcases hI with q | q; exact Or.inl ((hFi 376 19 rfl).trans q); exact Or.inr (q.fr hT (by decide) (fun a q ha => hFi a q (wCs0_G a q ha)))) (hF0.tr hFi wCs0_wML) hw
      · refine y_aload 114 c152_113 rfl rfl rfl ?_
        have es12957 : mi 376 1 = m 376 1 := (hFi 376 1 rfl)
        have tb12958 := hT.atp 376 1 0 320 rfl
        have tb12959 := hTi.atp 376 6 0 320 rfl
        have es12960 : mi 376 18 = m 376 18 := (hFi 376 18 rfl)
        have tb12961 := hT.atp 376 18 0 1 rfl
        refine y_callUB 117 [.ref 376] [] c152_114 rfl rfl rfl rfl rfl (ycanO km140 ko376) (t140_0 hTi (by omega) (by omega) (by omega) (hw.resolve_left (by omega)).2.1 (hw.resolve_left (by omega)).2.2.1 (hw.resolve_left (by omega)).2.2.2.2) (fun mq12956 nq12956 hq12956 => ?_)
        obtain ⟨rfl, hTq12956, hFq12956, hlq12956, hq12956⟩ := hq12956
        have x1q12956 : mq12956 376 1 = m 376 1 := ((hFq12956 376 1 rfl).trans (hFi 376 1 rfl))
        have hF12962 := hFi.tr hFq12956 (fun _ _ e => e)
        refine y_goto 99 c152_117 rfl ?_
        rcases hq12956 with q | q
        · have hlo := mu_lo hlq12956
          exact t152x_0 hT hn h40 hI hF0 hTq12956 hF12962 q
        · have hlo := mu_lo hlq12956
          exact ih (mu mq12956).toNat (by omega) _ (by omega) hTq12956 hF12962 hlq12956 (Or.inr ⟨q.1, q.2.2.1, q.2.2.2.1, q.2.2.2.2.1, q.2.2.2.2.2⟩)
set_option maxRecDepth 100000 in
theorem t152b_0 {L : Nat} {xs : Nat → Int32} {d nn : Nat} {m : yM} {m0 : yM} (hT : Ty gT m) (hn : m 376 18 = 1) (h40 : m 400 (12 * 0) = 0) (hI : m 376 19 = 0 ∨ GQ 1 m) (hF0 : Fr wML m0 m) (h9 : m 376 9 = 0) (h17 : m 376 17 = 0) (h6 : m 376 6 = 0) (h8 : m 376 8 = -1) (h83 : m 383 0 = 0) (h84 : m 384 0 = 0) (h86 : m 386 0 = 0) (h87 : m 387 0 = 0) (h88 : m 388 0 = 1) (h90 : m 390 0 = 0) : YW (gZ L xs) 152 (d + 13) 91 [some (.ref 376), some (yI 0), none, none] [] m nn (qMd nn m0) := by
  have tb1 := hT.atp 376 1 0 320 rfl
  have hl : m 376 6 ≤ m 376 1 := by omega
  have hF : Fr wCs0 m m := Fr.rf
  have hx0 : XD 0 m := ⟨⟨fun o ho => by omega, fun o ho => by omega, fun o ho => by omega, fun i j _ hj => by omega⟩, fun o ho => by omega, fun i hi => by omega, fun k hk => by omega, ⟨fun o ho => by omega, fun o ho => by omega⟩, by omega, by omega, fun c hc => by omega, fun o ho => by omega⟩
  refine y_aload 92 c152_91 rfl rfl rfl ?_
  have tb12964 := hT.atp 376 1 0 320 rfl
  have tb12965 := hT.atp 376 3 0 3 rfl
  have tb12966 := hT.atp 376 6 0 320 rfl
  have tb12967 := hT.atp 376 8 ((-1)) 320 rfl
  refine y_callUB 95 [.ref 376] [] c152_92 rfl rfl rfl rfl rfl (ycanO km99 ko376) (t99u hT (by omega)) (fun mq12963 nq12963 hq12963 => ?_)
  obtain ⟨rfl, hTq12963, hFq12963, hq12963⟩ := hq12963
  have x1q12963 : mq12963 376 1 = m 376 1 := (hFq12963 376 1 rfl)
  have hF12968 := hF.tr hFq12963 wNx_wCs0
  have es12969 : mq12963 376 1 = m 376 1 := (hFq12963 376 1 rfl)
  have tb12970 := hTq12963.atp 376 3 0 3 rfl
  have tb12971 := hTq12963.atp 376 6 0 320 rfl
  have es12972 : mq12963 376 8 = m 376 8 := (hFq12963 376 8 rfl)
  have es12973 : mq12963 390 0 = m 390 0 := (hFq12963 390 0 rfl)
  have tb12974 := hT.atp 390 0 0 125 rfl
  have es12975 : mq12963 384 0 = m 384 0 := (hFq12963 384 0 rfl)
  have tb12976 := hT.atp 384 0 0 10 rfl
  have es12977 : mq12963 376 9 = m 376 9 := (hFq12963 376 9 rfl)
  have tb12978 := hT.atp 376 9 0 40 rfl
  have hxd : XD 0 mq12963 := hx0.fw hFq12963 wNx_C
  have hcb : mq12963 390 0 ≤ 2 * mq12963 376 9 + mq12963 384 0 := by omega
  refine y_aload 96 c152_95 rfl rfl rfl ?_
  have es12980 : mq12963 376 1 = m 376 1 := (hFq12963 376 1 rfl)
  have es12981 : mq12963 376 8 = m 376 8 := (hFq12963 376 8 rfl)
  have es12982 : mq12963 376 18 = m 376 18 := (hFq12963 376 18 rfl)
  have tb12983 := hT.atp 376 18 0 1 rfl
  refine y_callUB 99 [.ref 376] [] c152_96 rfl rfl rfl rfl rfl (ycanO km140 ko376) (t140_0 hTq12963 (by omega) (by omega) (by omega) hxd hcb (fun i hi => by omega)) (fun mq12979 nq12979 hq12979 => ?_)
  obtain ⟨rfl, hTq12979, hFq12979, hlq12979, hq12979⟩ := hq12979
  have x1q12979 : mq12979 376 1 = m 376 1 := ((hFq12979 376 1 rfl).trans (hFq12963 376 1 rfl))
  have hF12984 := hF12968.tr hFq12979 (fun _ _ e => e)
  have hlo := mu_lo hlq12979
  exact t152a_0 hT hn h40 hI hF0 hl (mu mq12979).toNat _ (by omega) hTq12979 hF12984 hlq12979 (by rcases hq12979 with q | q; exact Or.inl q; exact Or.inr ⟨q.1, q.2.2.1, q.2.2.2.1, q.2.2.2.2.1, q.2.2.2.2.2⟩)
set_option maxRecDepth 100000 in
theorem t152_0 {L : Nat} {xs : Nat → Int32} {d nn : Nat} {m : yM} (hT : Ty gT m) (hn : m 376 18 = 1) (hI : m 376 19 = 0 ∨ GQ 1 m) : YC (gZ L xs) (d + 13) 152 [.ref 376] m nn (qMd nn m) := by
  refine YC.mkB [some (.ref 376), none, none, none] kn152 rfl rfl ?_
  have hF : Fr wML m m := Fr.rf
  refine y_aload 1 c152_0 rfl rfl rfl ?_
  have tb12986 := hT.atp 376 18 0 1 rfl
  refine y_callP 4 [.ref 376] [] c152_1 rfl rfl rfl rfl rfl (ycanO km96 ko376) (t96_0 (by omega)) (fun r12985 hr12985 => ?_)
  subst hr12985
  refine y_istore 5 c152_4 rfl rfl ?_
  refine y_aload 6 c152_5 rfl rfl rfl ?_
  refine y_getR 9 c152_6 rfl kf376_20 ?_
  refine y_iload 10 c152_9 rfl rfl ?_
  refine y_iconst 11 c152_10 rfl ?_
  refine y_iastore 12 c152_11 rfl ka383 (by omega) (y_nar0 _) ?_
  have hT12987 := hT.up 383 ((0 : Int).toNat) 0 0 6 rfl (by omega)
  have hF12988 := hF.up 383 ((0 : Int).toNat) 0 rfl
  refine y_aload 13 c152_12 rfl rfl rfl ?_
  refine y_getR 16 c152_13 rfl kf376_21 ?_
  refine y_iload 17 c152_16 rfl rfl ?_
  refine y_iconst 18 c152_17 rfl ?_
  refine y_iastore 19 c152_18 rfl ka384 (by omega) (y_nar0 _) ?_
  have hT12989 := hT12987.up 384 ((0 : Int).toNat) 0 0 10 rfl (by omega)
  have hF12990 := hF12988.up 384 ((0 : Int).toNat) 0 rfl
  refine y_aload 20 c152_19 rfl rfl rfl ?_
  refine y_getR 23 c152_20 rfl kf376_22 ?_
  refine y_iload 24 c152_23 rfl rfl ?_
  refine y_iconst 25 c152_24 rfl ?_
  refine y_iastore 26 c152_25 rfl ka385 (by omega) (y_nar0 _) ?_
  have hT12991 := hT12989.up 385 ((0 : Int).toNat) 0 0 8 rfl (by omega)
  have hF12992 := hF12990.up 385 ((0 : Int).toNat) 0 rfl
  refine y_aload 27 c152_26 rfl rfl rfl ?_
  refine y_getR 30 c152_27 rfl kf376_23 ?_
  refine y_iload 31 c152_30 rfl rfl ?_
  refine y_iconst 32 c152_31 rfl ?_
  refine y_iastore 33 c152_32 rfl ka386 (by omega) (y_nar0 _) ?_
  have hT12993 := hT12991.up 386 ((0 : Int).toNat) 0 0 12 rfl (by omega)
  have hF12994 := hF12992.up 386 ((0 : Int).toNat) 0 rfl
  refine y_aload 34 c152_33 rfl rfl rfl ?_
  refine y_getR 37 c152_34 rfl kf376_24 ?_
  refine y_iload 38 c152_37 rfl rfl ?_
  refine y_iconst 39 c152_38 rfl ?_
  refine y_iastore 40 c152_39 rfl ka387 (by omega) (y_nar0 _) ?_
  have hT12995 := hT12993.up 387 ((0 : Int).toNat) 0 0 8 rfl (by omega)
  have hF12996 := hF12994.up 387 ((0 : Int).toNat) 0 rfl
  refine y_aload 41 c152_40 rfl rfl rfl ?_
  refine y_getR 44 c152_41 rfl kf376_25 ?_
  refine y_iload 45 c152_44 rfl rfl ?_
  refine y_iconst 46 c152_45 rfl ?_
  refine y_iastore 47 c152_46 rfl ka388 (by omega) (y_nar0 _) ?_
  have hT12997 := hT12995.up 388 ((0 : Int).toNat) 1 0 12 rfl (by omega)
  have hF12998 := hF12996.up 388 ((0 : Int).toNat) 1 rfl
  refine y_aload 48 c152_47 rfl rfl rfl ?_
  refine y_getR 51 c152_48 rfl kf376_26 ?_
  refine y_iload 52 c152_51 rfl rfl ?_
  refine y_iconst 53 c152_52 rfl ?_
  refine y_iastore 54 c152_53 rfl ka389 (by omega) (y_nar0 _) ?_
  have hT12999 := hT12997.up 389 ((0 : Int).toNat) 0 0 48 rfl (by omega)
  have hF13000 := hF12998.up 389 ((0 : Int).toNat) 0 rfl
  refine y_aload 55 c152_54 rfl rfl rfl ?_
  refine y_getR 58 c152_55 rfl kf376_27 ?_
  refine y_iload 59 c152_58 rfl rfl ?_
  refine y_iconst 60 c152_59 rfl ?_
  refine y_iastore 61 c152_60 rfl ka390 (by omega) (y_nar0 _) ?_
  have hT13001 := hT12999.up 390 ((0 : Int).toNat) 0 0 125 rfl (by omega)
  have hF13002 := hF13000.up 390 ((0 : Int).toNat) 0 rfl
  refine y_aload 62 c152_61 rfl rfl rfl ?_
  refine y_getR 65 c152_62 rfl kf376_37 ?_
  refine y_iconst 67 c152_65 rfl ?_
  refine y_iload 68 c152_67 rfl rfl ?_
  refine y_imul 69 c152_68 rfl ?_
  refine y_top 0 (by decide) ?_
  refine y_iconst 70 c152_69 rfl ?_
  refine y_iastore 71 c152_70 rfl ka400 (by omega) (y_nar0 _) ?_
  have hT13003 := hT13001.up 400 ((0 : Int).toNat) 0 ((-2147483648)) 2147483647 rfl (by omega)
  have hF13004 := hF13002.up 400 ((0 : Int).toNat) 0 rfl
  refine y_aload 72 c152_71 rfl rfl rfl ?_
  refine y_iconst 73 c152_72 rfl ?_
  refine y_putI 76 c152_73 rfl kf376_9 (y_fit0 _) ?_
  have hT13005 := hT13003.up 376 9 0 0 40 rfl (by omega)
  have hF13006 := hF13004.up 376 9 0 rfl
  refine y_aload 77 c152_76 rfl rfl rfl ?_
  refine y_iconst 78 c152_77 rfl ?_
  refine y_putI 81 c152_78 rfl kf376_17 (y_fit0 _) ?_
  have hT13007 := hT13005.up 376 17 0 0 20 rfl (by omega)
  have hF13008 := hF13006.up 376 17 0 rfl
  refine y_aload 82 c152_81 rfl rfl rfl ?_
  refine y_iconst 83 c152_82 rfl ?_
  refine y_putI 86 c152_83 rfl kf376_6 (y_fit0 _) ?_
  have hT13009 := hT13007.up 376 6 0 0 320 rfl (by omega)
  have hF13010 := hF13008.up 376 6 0 rfl
  refine y_aload 87 c152_86 rfl rfl rfl ?_
  refine y_iconst 88 c152_87 rfl ?_
  refine y_putI 91 c152_88 rfl kf376_8 (y_fit0 _) ?_
  have hT13011 := hT13009.up 376 8 ((-1)) ((-1)) 320 rfl (by omega)
  have hF13012 := hF13010.up 376 8 ((-1)) rfl
  have es13013 : (yup (yup (yup (yup (yup (yup (yup (yup (yup (yup (yup (yup (yup m 383 ((0 : Int).toNat) 0) 384 ((0 : Int).toNat) 0) 385 ((0 : Int).toNat) 0) 386 ((0 : Int).toNat) 0) 387 ((0 : Int).toNat) 0) 388 ((0 : Int).toNat) 1) 389 ((0 : Int).toNat) 0) 390 ((0 : Int).toNat) 0) 400 ((0 : Int).toNat) 0) 376 9 0) 376 17 0) 376 6 0) 376 8 ((-1))) 376 18 = m 376 18 := rfl
  have es13014 : (yup (yup (yup (yup (yup (yup (yup (yup (yup (yup (yup (yup (yup m 383 ((0 : Int).toNat) 0) 384 ((0 : Int).toNat) 0) 385 ((0 : Int).toNat) 0) 386 ((0 : Int).toNat) 0) 387 ((0 : Int).toNat) 0) 388 ((0 : Int).toNat) 1) 389 ((0 : Int).toNat) 0) 390 ((0 : Int).toNat) 0) 400 ((0 : Int).toNat) 0) 376 9 0) 376 17 0) 376 6 0) 376 8 ((-1))) 376 19 = m 376 19 := rfl
  have tb13015 := hT.atp 376 19 0 1 rfl
  have es13016 : (yup (yup (yup (yup (yup (yup (yup (yup (yup (yup (yup (yup (yup m 383 ((0 : Int).toNat) 0) 384 ((0 : Int).toNat) 0) 385 ((0 : Int).toNat) 0) 386 ((0 : Int).toNat) 0) 387 ((0 : Int).toNat) 0) 388 ((0 : Int).toNat) 1) 389 ((0 : Int).toNat) 0) 390 ((0 : Int).toNat) 0) 400 ((0 : Int).toNat) 0) 376 9 0) 376 17 0) 376 6 0) 376 8 ((-1))) 376 9 = 0 := rfl
  have es13017 : (yup (yup (yup (yup (yup (yup (yup (yup (yup (yup (yup (yup (yup m 383 ((0 : Int).toNat) 0) 384 ((0 : Int).toNat) 0) 385 ((0 : Int).toNat) 0) 386 ((0 : Int).toNat) 0) 387 ((0 : Int).toNat) 0) 388 ((0 : Int).toNat) 1) 389 ((0 : Int).toNat) 0) 390 ((0 : Int).toNat) 0) 400 ((0 : Int).toNat) 0) 376 9 0) 376 17 0) 376 6 0) 376 8 ((-1))) 376 17 = 0 := rfl
  have es13018 : (yup (yup (yup (yup (yup (yup (yup (yup (yup (yup (yup (yup (yup m 383 ((0 : Int).toNat) 0) 384 ((0 : Int).toNat) 0) 385 ((0 : Int).toNat) 0) 386 ((0 : Int).toNat) 0) 387 ((0 : Int).toNat) 0) 388 ((0 : Int).toNat) 1) 389 ((0 : Int).toNat) 0) 390 ((0 : Int).toNat) 0) 400 ((0 : Int).toNat) 0) 376 9 0) 376 17 0) 376 6 0) 376 8 ((-1))) 376 6 = 0 := rfl
  have es13019 : (yup (yup (yup (yup (yup (yup (yup (yup (yup (yup (yup (yup (yup m 383 ((0 : Int).toNat) 0) 384 ((0 : Int).toNat) 0) 385 ((0 : Int).toNat) 0) 386 ((0 : Int).toNat) 0) 387 ((0 : Int).toNat) 0) 388 ((0 : Int).toNat) 1) 389 ((0 : Int).toNat) 0) 390 ((0 : Int).toNat) 0) 400 ((0 : Int).toNat) 0) 376 9 0) 376 17 0) 376 6 0) 376 8 ((-1))) 376 8 = (-1) := rfl
  have es13020 : (yup (yup (yup (yup (yup (yup (yup (yup (yup (yup (yup (yup (yup m 383 ((0 : Int).toNat) 0) 384 ((0 : Int).toNat) 0) 385 ((0 : Int).toNat) 0) 386 ((0 : Int).toNat) 0) 387 ((0 : Int).toNat) 0) 388 ((0 : Int).toNat) 1) 389 ((0 : Int).toNat) 0) 390 ((0 : Int).toNat) 0) 400 ((0 : Int).toNat) 0) 376 9 0) 376 17 0) 376 6 0) 376 8 ((-1))) 383 0 = 0 := rfl
  have es13021 : (yup (yup (yup (yup (yup (yup (yup (yup (yup (yup (yup (yup (yup m 383 ((0 : Int).toNat) 0) 384 ((0 : Int).toNat) 0) 385 ((0 : Int).toNat) 0) 386 ((0 : Int).toNat) 0) 387 ((0 : Int).toNat) 0) 388 ((0 : Int).toNat) 1) 389 ((0 : Int).toNat) 0) 390 ((0 : Int).toNat) 0) 400 ((0 : Int).toNat) 0) 376 9 0) 376 17 0) 376 6 0) 376 8 ((-1))) 384 0 = 0 := rfl
  have es13022 : (yup (yup (yup (yup (yup (yup (yup (yup (yup (yup (yup (yup (yup m 383 ((0 : Int).toNat) 0) 384 ((0 : Int).toNat) 0) 385 ((0 : Int).toNat) 0) 386 ((0 : Int).toNat) 0) 387 ((0 : Int).toNat) 0) 388 ((0 : Int).toNat) 1) 389 ((0 : Int).toNat) 0) 390 ((0 : Int).toNat) 0) 400 ((0 : Int).toNat) 0) 376 9 0) 376 17 0) 376 6 0) 376 8 ((-1))) 386 0 = 0 := rfl
  have es13023 : (yup (yup (yup (yup (yup (yup (yup (yup (yup (yup (yup (yup (yup m 383 ((0 : Int).toNat) 0) 384 ((0 : Int).toNat) 0) 385 ((0 : Int).toNat) 0) 386 ((0 : Int).toNat) 0) 387 ((0 : Int).toNat) 0) 388 ((0 : Int).toNat) 1) 389 ((0 : Int).toNat) 0) 390 ((0 : Int).toNat) 0) 400 ((0 : Int).toNat) 0) 376 9 0) 376 17 0) 376 6 0) 376 8 ((-1))) 387 0 = 0 := rfl
  have es13024 : (yup (yup (yup (yup (yup (yup (yup (yup (yup (yup (yup (yup (yup m 383 ((0 : Int).toNat) 0) 384 ((0 : Int).toNat) 0) 385 ((0 : Int).toNat) 0) 386 ((0 : Int).toNat) 0) 387 ((0 : Int).toNat) 0) 388 ((0 : Int).toNat) 1) 389 ((0 : Int).toNat) 0) 390 ((0 : Int).toNat) 0) 400 ((0 : Int).toNat) 0) 376 9 0) 376 17 0) 376 6 0) 376 8 ((-1))) 388 0 = 1 := rfl
  have es13025 : (yup (yup (yup (yup (yup (yup (yup (yup (yup (yup (yup (yup (yup m 383 ((0 : Int).toNat) 0) 384 ((0 : Int).toNat) 0) 385 ((0 : Int).toNat) 0) 386 ((0 : Int).toNat) 0) 387 ((0 : Int).toNat) 0) 388 ((0 : Int).toNat) 1) 389 ((0 : Int).toNat) 0) 390 ((0 : Int).toNat) 0) 400 ((0 : Int).toNat) 0) 376 9 0) 376 17 0) 376 6 0) 376 8 ((-1))) 390 0 = 0 := rfl
  have es13026 : (yup (yup (yup (yup (yup (yup (yup (yup (yup (yup (yup (yup (yup m 383 ((0 : Int).toNat) 0) 384 ((0 : Int).toNat) 0) 385 ((0 : Int).toNat) 0) 386 ((0 : Int).toNat) 0) 387 ((0 : Int).toNat) 0) 388 ((0 : Int).toNat) 1) 389 ((0 : Int).toNat) 0) 390 ((0 : Int).toNat) 0) 400 ((0 : Int).toNat) 0) 376 9 0) 376 17 0) 376 6 0) 376 8 ((-1))) 400 0 = 0 := rfl
  exact t152b_0 hT13011 (by omega) (by omega) (by rcases hI with q | q; exact Or.inl (by omega); exact Or.inr (q.fr hT (by decide) (fun a q ha => ((yup_ne (by rintro ⟨rfl, rfl⟩; simp [vGq] at ha)).trans ((yup_ne (by rintro ⟨rfl, rfl⟩; simp [vGq] at ha)).trans ((yup_ne (by rintro ⟨rfl, rfl⟩; simp [vGq] at ha)).trans ((yup_ne (by rintro ⟨rfl, rfl⟩; simp [vGq] at ha)).trans ((yup_ne (by rintro ⟨rfl, rfl⟩; simp [vGq] at ha)).trans ((yup_ne (by rintro ⟨rfl, rfl⟩; simp [vGq] at ha)).trans ((yup_ne (by rintro ⟨rfl, rfl⟩; simp [vGq] at ha)).trans ((yup_ne (by rintro ⟨rfl, rfl⟩; simp [vGq] at ha)).trans ((yup_ne (by rintro ⟨rfl, rfl⟩; simp [vGq] at ha)).trans ((yup_ne (by rintro ⟨rfl, rfl⟩; simp [vGq] at ha)).trans ((yup_ne (by rintro ⟨rfl, rfl⟩; simp [vGq] at ha)).trans ((yup_ne (by rintro ⟨rfl, rfl⟩; simp [vGq] at ha)).trans (yup_ne (by rintro ⟨rfl, rfl⟩; simp [vGq] at ha))))))))))))))))) hF13012 (by omega) (by omega) (by omega) (by omega) (by omega) (by omega) (by omega) (by omega) (by omega) (by omega)
theorem wSe1_wML : ∀ a q, wSe1 a q = true → wML a q = true := wML_of (fun a q h => by simp [wSe1, wS41, wS21, wS31] at h; omega)
theorem wCs1_wML : ∀ a q, wCs1 a q = true → wML a q = true := wML_of (fun a q h => by simp [wCs1, wBd1, wSt1, wHm1, wFm1, wMh1] at h; omega)
theorem wSe1_G : ∀ a q, vGq 0 a q = true → wSe1 a q = false := by
  intro a q h
  cases e : wSe1 a q with
  | false => rfl
  | true => simp [wSe1, wS41, wS21, wS31] at e; simp [vGq] at h; omega
theorem wCs1_G : ∀ a q, vGq 0 a q = true → wCs1 a q = false := by
  intro a q h
  cases e : wCs1 a q with
  | false => rfl
  | true => simp [wCs1, wBd1, wSt1, wHm1, wFm1, wMh1] at e; simp [vGq] at h; omega
set_option maxRecDepth 100000 in
theorem t152c_1 {L : Nat} {xs : Nat → Int32} {d nn : Nat} {m : yM} {m0 : yM} (hT : Ty gT m) (hn : m 376 18 = 0) (h40 : m 400 (12 * 1) = 0) (hI : m 376 19 = 0 ∨ GQ 0 m) (hF0 : Fr wML m0 m) (hw : 0 ≤ m 376 8 ∨ (m 376 8 < 0 ∧ XD 1 m ∧ m 390 1 ≤ 2 * m 376 9 + m 384 1 ∧ 1 ≤ m 383 1 ∧ MX 1 m (m 384 1) (m 390 1 - 1))) : YW (gZ L xs) 152 (d + 13) 120 [some (.ref 376), some (yI 1), none, none] [] m nn (qMd nn m0) := by
  have tb8 := hT.atp 376 8 (-1) 320 rfl
  have tb9 := hT.atp 376 9 0 40 rfl
  have tb19 := hT.atp 376 19 0 1 rfl
  have tb4 := hT.atp 384 1 0 10 rfl
  refine y_aload 121 c152_120 rfl rfl rfl ?_
  refine y_getX 124 (m 376 8) c152_121 rfl kf376_8 rfl ?_
  refine y_if 132 127 c152_124 rfl rfl (yz_ge (by omega)) (fun hb13027 => ?_) (fun hb13027 => ?_)
  · refine y_aload 133 c152_132 rfl rfl rfl ?_
    refine y_aload 134 c152_133 rfl rfl rfl ?_
    refine y_getX 137 (m 376 8) c152_134 rfl kf376_8 rfl ?_
    refine y_putI 140 c152_137 rfl kf376_2 (y_fit0 _) ?_
    have hT13028 := hT.up 376 2 (m 376 8) ((-2147483648)) 2147483647 rfl (by omega)
    have hF13029 := hF0.up 376 2 (m 376 8) rfl
    refine y_aload 141 c152_140 rfl rfl rfl ?_
    refine y_aload 142 c152_141 rfl rfl rfl ?_
    refine y_getX 145 (m 376 8) c152_142 rfl kf376_8 rfl ?_
    refine y_if 152 148 c152_145 rfl rfl (yz_ge (by omega)) (fun hb13030 => ?_) (fun hb13030 => ?_)
    · refine y_iconst 153 c152_152 rfl ?_
      refine y_iconst 154 c152_153 rfl ?_
      refine y_inlB 157 [.ref 376, yI 0, yI 1] [] [some (.ref 376), some (yI 0), some (yI 1)] c152_154 rfl rfl rfl rfl rfl (ycanO km23 ko376) kn23 rfl rfl ?_
      refine y_aload 1 c23_0 rfl rfl rfl ?_
      refine y_iload 2 c23_1 rfl rfl ?_
      refine y_if 9 5 c23_2 rfl rfl (yz_eq (by omega)) (fun hb13031 => ?_) (fun hb13031 => ?_)
      · refine y_iload 10 c23_9 rfl rfl ?_
        refine y_putI 13 c23_10 rfl kf376_57 (y_fit0 _) ?_
        have hT13032 := hT13028.up 376 57 1 0 4 rfl (by omega)
        have hF13033 := hF13029.up 376 57 1 rfl
        refine y_iload 14 c23_13 rfl rfl ?_
        refine y_ireturnK c23_14 (y_fit1 (by omega)) ?_
        refine y_if 162 160 c152_157 rfl rfl (yz_ne (by omega)) (fun hb13034 => ?_) (fun hb13034 => ?_)
        · exfalso; omega
        · refine y_iconst 161 c152_160 rfl ?_
          have es13035 : (yup (yup m 376 2 (m 376 8)) 376 57 1) 376 18 = m 376 18 := rfl
          have tb13036 := hT.atp 376 18 0 1 rfl
          have es13037 : (yup (yup m 376 2 (m 376 8)) 376 57 1) 376 19 = m 376 19 := rfl
          refine y_ireturn c152_161 (y_fit0 _) ⟨_, rfl, rfl, hF13033, hT13032, ?_⟩
          rcases hI with q | q
          · exact Or.inl (by omega)
          · exact Or.inr (Or.inl ⟨by omega, q.fr hT (by decide) (fun a q ha => ((yup_ne (by rintro ⟨rfl, rfl⟩; simp [vGq] at ha)).trans (yup_ne (by rintro ⟨rfl, rfl⟩; simp [vGq] at ha))))⟩)
      · exfalso; omega
    · exfalso; omega
  · refine y_aload 128 c152_127 rfl rfl rfl ?_
    refine y_iload 129 c152_128 rfl rfl ?_
    obtain ⟨hw1, hw2, hw3, hw4, hw5⟩ := hw.resolve_left (by omega)
    refine y_callUB 132 [.ref 376, yI 1] [] c152_129 rfl rfl rfl rfl rfl (ycanO km141 ko376) (t141_1 hT hw2 hw4 h40 (by omega) hw5) (fun mq13038 nq13038 hq13038 => ?_)
    obtain ⟨rfl, hTq13038, hFq13038, hq13038⟩ := hq13038
    have t8q13038 := hTq13038.atp 376 8 (-1) 320 rfl
    have hF13039 := hF0.tr hFq13038 wSe1_wML
    refine y_aload 133 c152_132 rfl rfl rfl ?_
    refine y_aload 134 c152_133 rfl rfl rfl ?_
    refine y_getX 137 (mq13038 376 8) c152_134 rfl kf376_8 rfl ?_
    refine y_putI 140 c152_137 rfl kf376_2 (y_fit0 _) ?_
    have hT13040 := hTq13038.up 376 2 (mq13038 376 8) ((-2147483648)) 2147483647 rfl (by omega)
    have hF13041 := hF13039.up 376 2 (mq13038 376 8) rfl
    refine y_aload 141 c152_140 rfl rfl rfl ?_
    refine y_aload 142 c152_141 rfl rfl rfl ?_
    refine y_getX 145 (mq13038 376 8) c152_142 rfl kf376_8 rfl ?_
    refine y_if 152 148 c152_145 rfl rfl (yz_ge (by omega)) (fun hb13042 => ?_) (fun hb13042 => ?_)
    · refine y_iconst 153 c152_152 rfl ?_
      refine y_iconst 154 c152_153 rfl ?_
      refine y_inlB 157 [.ref 376, yI 0, yI 1] [] [some (.ref 376), some (yI 0), some (yI 1)] c152_154 rfl rfl rfl rfl rfl (ycanO km23 ko376) kn23 rfl rfl ?_
      refine y_aload 1 c23_0 rfl rfl rfl ?_
      refine y_iload 2 c23_1 rfl rfl ?_
      refine y_if 9 5 c23_2 rfl rfl (yz_eq (by omega)) (fun hb13043 => ?_) (fun hb13043 => ?_)
      · refine y_iload 10 c23_9 rfl rfl ?_
        refine y_putI 13 c23_10 rfl kf376_57 (y_fit0 _) ?_
        have hT13044 := hT13040.up 376 57 1 0 4 rfl (by omega)
        have hF13045 := hF13041.up 376 57 1 rfl
        refine y_iload 14 c23_13 rfl rfl ?_
        refine y_ireturnK c23_14 (y_fit1 (by omega)) ?_
        refine y_if 162 160 c152_157 rfl rfl (yz_ne (by omega)) (fun hb13046 => ?_) (fun hb13046 => ?_)
        · exfalso; omega
        · refine y_iconst 161 c152_160 rfl ?_
          have es13047 : (yup (yup mq13038 376 2 (mq13038 376 8)) 376 57 1) 376 18 = m 376 18 := ((yup_nk (by decide)).trans ((yup_nk (by decide)).trans (hFq13038 376 18 rfl)))
          have tb13048 := hT.atp 376 18 0 1 rfl
          have es13049 : (yup (yup mq13038 376 2 (mq13038 376 8)) 376 57 1) 376 19 = m 376 19 := ((yup_nk (by decide)).trans ((yup_nk (by decide)).trans (hFq13038 376 19 rfl)))
          refine y_ireturn c152_161 (y_fit0 _) ⟨_, rfl, rfl, hF13045, hT13044, ?_⟩
          rcases hI with q | q
          · exact Or.inl (by omega)
          · exact Or.inr (Or.inl ⟨by omega, q.fr hT (by decide) (fun a q ha => ((yup_ne (by rintro ⟨rfl, rfl⟩; simp [vGq] at ha)).trans ((yup_ne (by rintro ⟨rfl, rfl⟩; simp [vGq] at ha)).trans (hFq13038 a q (wSe1_G a q ha)))))⟩)
      · exfalso; omega
    · refine y_iconst 149 c152_148 rfl ?_
      refine y_goto 153 c152_149 rfl ?_
      refine y_iconst 154 c152_153 rfl ?_
      refine y_inlB 157 [.ref 376, yI 1, yI 1] [] [some (.ref 376), some (yI 1), some (yI 1)] c152_154 rfl rfl rfl rfl rfl (ycanO km23 ko376) kn23 rfl rfl ?_
      refine y_aload 1 c23_0 rfl rfl rfl ?_
      refine y_iload 2 c23_1 rfl rfl ?_
      refine y_if 9 5 c23_2 rfl rfl (yz_eq (by omega)) (fun hb13050 => ?_) (fun hb13050 => ?_)
      · exfalso; omega
      · refine y_iconst 6 c23_5 rfl ?_
        refine y_goto 10 c23_6 rfl ?_
        refine y_putI 13 c23_10 rfl kf376_57 (y_fit0 _) ?_
        have hT13051 := hT13040.up 376 57 0 0 4 rfl (by omega)
        have hF13052 := hF13041.up 376 57 0 rfl
        refine y_iload 14 c23_13 rfl rfl ?_
        refine y_ireturnK c23_14 (y_fit1 (by omega)) ?_
        refine y_if 162 160 c152_157 rfl rfl (yz_ne (by omega)) (fun hb13053 => ?_) (fun hb13053 => ?_)
        · refine y_aload 163 c152_162 rfl rfl rfl ?_
          refine y_iload 164 c152_163 rfl rfl ?_
          refine y_putI 167 c152_164 rfl kf376_18 (y_fit0 _) ?_
          have hT13054 := hT13051.up 376 18 1 0 1 rfl (by omega)
          have hF13055 := hF13052.up 376 18 1 rfl
          refine y_aload 168 c152_167 rfl rfl rfl ?_
          refine y_iconst 169 c152_168 rfl ?_
          refine y_putI 172 c152_169 rfl kf376_19 (y_fit1 (by omega)) ?_
          have hT13056 := hT13054.up 376 19 1 0 1 rfl (by omega)
          have hF13057 := hF13055.up 376 19 1 rfl
          refine y_aload 173 c152_172 rfl rfl rfl ?_
          refine y_iconst 174 c152_173 rfl ?_
          refine y_putI 177 c152_174 rfl kf376_51 (y_fit0 _) ?_
          have hT13058 := hT13056.up 376 51 0 0 30 rfl (by omega)
          have hF13059 := hF13057.up 376 51 0 rfl
          refine y_iconst 178 c152_177 rfl ?_
          refine y_istore 179 c152_178 rfl rfl ?_
          refine t152s hT13058 (fun z2 mz hTmz hFmz => ?_) 576 0 _ (by omega) (by omega) hT13058 Fr.rf
          have hF13060 := hF13059.tr hFmz (wRo_wML (by decide))
          refine y_aload 200 c152_199 rfl rfl rfl ?_
          have es13062 : mz 376 18 = 1 := ((hFmz 376 18 rfl).trans ((yup_nk (by decide)).trans ((yup_nk (by decide)).trans (yup_eq _ _ _ _))))
          have hg : GQ 1 mz := ((hq13038.resolve_left (by omega)).2).fr hTq13038 (by decide) (fun a q ha => ((hFmz a q (wRo_G8 a q ha)).trans ((yup_ne (by rintro ⟨rfl, rfl⟩; simp [vGq] at ha)).trans ((yup_ne (by rintro ⟨rfl, rfl⟩; simp [vGq] at ha)).trans ((yup_ne (by rintro ⟨rfl, rfl⟩; simp [vGq] at ha)).trans ((yup_ne (by rintro ⟨rfl, rfl⟩; simp [vGq] at ha)).trans (yup_ne (by rintro ⟨rfl, rfl⟩; simp [vGq] at ha))))))))
          refine y_callUB 203 [.ref 376] [] c152_200 rfl rfl rfl rfl rfl (ycanO km151 ko376) (t151_1 hTmz (by omega) hg) (fun mq13061 nq13061 hq13061 => ?_)
          obtain ⟨rfl, hTq13061, hFq13061⟩ := hq13061
          have hF13063 := hF13060.tr hFq13061 wAz_wML
          refine y_iconst 204 c152_203 rfl ?_
          refine y_istore 205 c152_204 rfl rfl ?_
          refine y_iconst 206 c152_205 rfl ?_
          refine y_istore 207 c152_206 rfl rfl ?_
          have es13064 : mq13061 376 18 = 1 := ((hFq13061 376 18 rfl).trans ((hFmz 376 18 rfl).trans ((yup_nk (by decide)).trans ((yup_nk (by decide)).trans (yup_eq _ _ _ _)))))
          have es13065 : mq13061 376 19 = 1 := ((hFq13061 376 19 rfl).trans ((hFmz 376 19 rfl).trans ((yup_nk (by decide)).trans (yup_eq _ _ _ _))))
          have hg2 : GQ 1 mq13061 := hg.fr hTmz (by decide) (fun a q ha => hFq13061 a q (wAz_G a q ha))
          exact t152n hTq13061 (fun r hr => ⟨r, rfl, rfl, hF13063, hTq13061, Or.inr (Or.inr ⟨by omega, hg2⟩)⟩) 576 0 0 (by omega) (by omega) (by omega)
        · exfalso; omega
theorem wCs1_400 : wCs1 400 (12 * 1) = false := by decide
set_option maxRecDepth 100000 in
theorem t152x_1 {L : Nat} {xs : Nat → Int32} {d nn : Nat} {m : yM} {m0 : yM} (hT : Ty gT m) (hn : m 376 18 = 0) (h40 : m 400 (12 * 1) = 0) (hI : m 376 19 = 0 ∨ GQ 0 m) (hF0 : Fr wML m0 m) {mi : yM} (hTi : Ty gT mi) (hFi : Fr wCs1 m mi) (hw : 0 ≤ mi 376 8) : YW (gZ L xs) 152 (d + 13) 99 [some (.ref 376), some (yI 1), none, none] [] mi nn (qMd nn m0) := by
  have tb8 := hTi.atp 376 8 (-1) 320 rfl
  have em18 : mi 376 18 = m 376 18 := hFi 376 18 rfl
  refine y_aload 100 c152_99 rfl rfl rfl ?_
  refine y_getX 103 (mi 376 8) c152_100 rfl kf376_8 rfl ?_
  refine y_if 120 106 c152_103 rfl rfl (yz_ge (by omega)) (fun hb => ?_) (fun hb => ?_)
  · exact t152c_1 hTi (by omega) ((hFi 400 _ wCs1_400).trans h40) (by rcases hI with q | q; exact Or.inl ((hFi 376 19 rfl).trans q); exact Or.inr (q.fr hT (by decide) (fun a q ha => hFi a q (wCs1_G a q ha)))) (hF0.tr hFi wCs1_wML) (Or.inl hw)
  · exfalso; omega
set_option maxRecDepth 100000 in
theorem t152a_1 {L : Nat} {xs : Nat → Int32} {d nn : Nat} {m : yM} {m0 : yM} (hT : Ty gT m) (hn : m 376 18 = 0) (h40 : m 400 (12 * 1) = 0) (hI : m 376 19 = 0 ∨ GQ 0 m) (hF0 : Fr wML m0 m) (hl : m 376 6 ≤ m 376 1) : ∀ (k : Nat) (mi : yM), mu mi = k → Ty gT mi → Fr wCs1 m mi → mi 376 6 ≤ mi 376 1 → (0 ≤ mi 376 8 ∨ (mi 376 8 < 0 ∧ XD 1 mi ∧ mi 390 1 ≤ 2 * mi 376 9 + mi 384 1 ∧ 1 ≤ mi 383 1 ∧ MX 1 mi (mi 384 1) (mi 390 1 - 1))) → YW (gZ L xs) 152 (d + 13) 99 [some (.ref 376), some (yI 1), none, none] [] mi nn (qMd nn m0) := by
  intro k
  induction k using Nat.strongRecOn with
  | ind k ih =>
    intro mi hk hTi hFi hli hw
    have tb8 := hTi.atp 376 8 (-1) 320 rfl
    have em18 : mi 376 18 = m 376 18 := hFi 376 18 rfl
    have em1 : mi 376 1 = m 376 1 := hFi 376 1 rfl
    refine y_aload 100 c152_99 rfl rfl rfl ?_
    refine y_getX 103 (mi 376 8) c152_100 rfl kf376_8 rfl ?_
    refine y_if 120 106 c152_103 rfl rfl (yz_ge (by omega)) (fun hb13066 => ?_) (fun hb13066 => ?_)
    · exact t152c_1 hTi (by omega) ((hFi 400 _ wCs1_400).trans h40) (by rcases hI with q | q; exact Or.inl ((hFi 376 19 rfl).trans q); exact Or.inr (q.fr hT (by decide) (fun a q ha => hFi a q (wCs1_G a q ha)))) (hF0.tr hFi wCs1_wML) hw
    · refine y_aload 107 c152_106 rfl rfl rfl ?_
      refine y_getX 110 (mi 376 3) c152_107 rfl kf376_3 rfl ?_
      have tb13067 := hTi.atp 376 3 0 3 rfl
      refine y_if 120 113 c152_110 rfl rfl (yz_eq (by omega)) (fun hb13068 => ?_) (fun hb13068 => ?_)
      · exact t152c_1 hTi (by omega) ((hFi 400 _ wCs1_400).trans h40) (by rcases hI with q | q; exact Or.inl ((hFi 376 19 rfl).trans q); exact Or.inr (q.fr hT (by decide) (fun a q ha => hFi a q (wCs1_G a q ha)))) (hF0.tr hFi wCs1_wML) hw
      · refine y_aload 114 c152_113 rfl rfl rfl ?_
        have es13070 : mi 376 1 = m 376 1 := (hFi 376 1 rfl)
        have tb13071 := hT.atp 376 1 0 320 rfl
        have tb13072 := hTi.atp 376 6 0 320 rfl
        have es13073 : mi 376 18 = m 376 18 := (hFi 376 18 rfl)
        have tb13074 := hT.atp 376 18 0 1 rfl
        refine y_callUB 117 [.ref 376] [] c152_114 rfl rfl rfl rfl rfl (ycanO km140 ko376) (t140_1 hTi (by omega) (by omega) (by omega) (hw.resolve_left (by omega)).2.1 (hw.resolve_left (by omega)).2.2.1 (hw.resolve_left (by omega)).2.2.2.2) (fun mq13069 nq13069 hq13069 => ?_)
        obtain ⟨rfl, hTq13069, hFq13069, hlq13069, hq13069⟩ := hq13069
        have x1q13069 : mq13069 376 1 = m 376 1 := ((hFq13069 376 1 rfl).trans (hFi 376 1 rfl))
        have hF13075 := hFi.tr hFq13069 (fun _ _ e => e)
        refine y_goto 99 c152_117 rfl ?_
        rcases hq13069 with q | q
        · have hlo := mu_lo hlq13069
          exact t152x_1 hT hn h40 hI hF0 hTq13069 hF13075 q
        · have hlo := mu_lo hlq13069
          exact ih (mu mq13069).toNat (by omega) _ (by omega) hTq13069 hF13075 hlq13069 (Or.inr ⟨q.1, q.2.2.1, q.2.2.2.1, q.2.2.2.2.1, q.2.2.2.2.2⟩)
set_option maxRecDepth 100000 in
theorem t152b_1 {L : Nat} {xs : Nat → Int32} {d nn : Nat} {m : yM} {m0 : yM} (hT : Ty gT m) (hn : m 376 18 = 0) (h40 : m 400 (12 * 1) = 0) (hI : m 376 19 = 0 ∨ GQ 0 m) (hF0 : Fr wML m0 m) (h9 : m 376 9 = 0) (h17 : m 376 17 = 0) (h6 : m 376 6 = 0) (h8 : m 376 8 = -1) (h83 : m 383 1 = 0) (h84 : m 384 1 = 0) (h86 : m 386 1 = 0) (h87 : m 387 1 = 0) (h88 : m 388 1 = 1) (h90 : m 390 1 = 0) : YW (gZ L xs) 152 (d + 13) 91 [some (.ref 376), some (yI 1), none, none] [] m nn (qMd nn m0) := by
  have tb1 := hT.atp 376 1 0 320 rfl
  have hl : m 376 6 ≤ m 376 1 := by omega
  have hF : Fr wCs1 m m := Fr.rf
  have hx0 : XD 1 m := ⟨⟨fun o ho => by omega, fun o ho => by omega, fun o ho => by omega, fun i j _ hj => by omega⟩, fun o ho => by omega, fun i hi => by omega, fun k hk => by omega, ⟨fun o ho => by omega, fun o ho => by omega⟩, by omega, by omega, fun c hc => by omega, fun o ho => by omega⟩
  refine y_aload 92 c152_91 rfl rfl rfl ?_
  have tb13077 := hT.atp 376 1 0 320 rfl
  have tb13078 := hT.atp 376 3 0 3 rfl
  have tb13079 := hT.atp 376 6 0 320 rfl
  have tb13080 := hT.atp 376 8 ((-1)) 320 rfl
  refine y_callUB 95 [.ref 376] [] c152_92 rfl rfl rfl rfl rfl (ycanO km99 ko376) (t99u hT (by omega)) (fun mq13076 nq13076 hq13076 => ?_)
  obtain ⟨rfl, hTq13076, hFq13076, hq13076⟩ := hq13076
  have x1q13076 : mq13076 376 1 = m 376 1 := (hFq13076 376 1 rfl)
  have hF13081 := hF.tr hFq13076 wNx_wCs1
  have es13082 : mq13076 376 1 = m 376 1 := (hFq13076 376 1 rfl)
  have tb13083 := hTq13076.atp 376 3 0 3 rfl
  have tb13084 := hTq13076.atp 376 6 0 320 rfl
  have es13085 : mq13076 376 8 = m 376 8 := (hFq13076 376 8 rfl)
  have es13086 : mq13076 390 1 = m 390 1 := (hFq13076 390 1 rfl)
  have tb13087 := hT.atp 390 1 0 125 rfl
  have es13088 : mq13076 384 1 = m 384 1 := (hFq13076 384 1 rfl)
  have tb13089 := hT.atp 384 1 0 10 rfl
  have es13090 : mq13076 376 9 = m 376 9 := (hFq13076 376 9 rfl)
  have tb13091 := hT.atp 376 9 0 40 rfl
  have hxd : XD 1 mq13076 := hx0.fw hFq13076 wNx_C
  have hcb : mq13076 390 1 ≤ 2 * mq13076 376 9 + mq13076 384 1 := by omega
  refine y_aload 96 c152_95 rfl rfl rfl ?_
  have es13093 : mq13076 376 1 = m 376 1 := (hFq13076 376 1 rfl)
  have es13094 : mq13076 376 8 = m 376 8 := (hFq13076 376 8 rfl)
  have es13095 : mq13076 376 18 = m 376 18 := (hFq13076 376 18 rfl)
  have tb13096 := hT.atp 376 18 0 1 rfl
  refine y_callUB 99 [.ref 376] [] c152_96 rfl rfl rfl rfl rfl (ycanO km140 ko376) (t140_1 hTq13076 (by omega) (by omega) (by omega) hxd hcb (fun i hi => by omega)) (fun mq13092 nq13092 hq13092 => ?_)
  obtain ⟨rfl, hTq13092, hFq13092, hlq13092, hq13092⟩ := hq13092
  have x1q13092 : mq13092 376 1 = m 376 1 := ((hFq13092 376 1 rfl).trans (hFq13076 376 1 rfl))
  have hF13097 := hF13081.tr hFq13092 (fun _ _ e => e)
  have hlo := mu_lo hlq13092
  exact t152a_1 hT hn h40 hI hF0 hl (mu mq13092).toNat _ (by omega) hTq13092 hF13097 hlq13092 (by rcases hq13092 with q | q; exact Or.inl q; exact Or.inr ⟨q.1, q.2.2.1, q.2.2.2.1, q.2.2.2.2.1, q.2.2.2.2.2⟩)
set_option maxRecDepth 100000 in
theorem t152_1 {L : Nat} {xs : Nat → Int32} {d nn : Nat} {m : yM} (hT : Ty gT m) (hn : m 376 18 = 0) (hI : m 376 19 = 0 ∨ GQ 0 m) : YC (gZ L xs) (d + 13) 152 [.ref 376] m nn (qMd nn m) := by
  refine YC.mkB [some (.ref 376), none, none, none] kn152 rfl rfl ?_
  have hF : Fr wML m m := Fr.rf
  refine y_aload 1 c152_0 rfl rfl rfl ?_
  have tb13099 := hT.atp 376 18 0 1 rfl
  refine y_callP 4 [.ref 376] [] c152_1 rfl rfl rfl rfl rfl (ycanO km96 ko376) (t96_1 (by omega)) (fun r13098 hr13098 => ?_)
  subst hr13098
  refine y_istore 5 c152_4 rfl rfl ?_
  refine y_aload 6 c152_5 rfl rfl rfl ?_
  refine y_getR 9 c152_6 rfl kf376_20 ?_
  refine y_iload 10 c152_9 rfl rfl ?_
  refine y_iconst 11 c152_10 rfl ?_
  refine y_iastore 12 c152_11 rfl ka383 (by omega) (y_nar0 _) ?_
  have hT13100 := hT.up 383 ((1 : Int).toNat) 0 0 6 rfl (by omega)
  have hF13101 := hF.up 383 ((1 : Int).toNat) 0 rfl
  refine y_aload 13 c152_12 rfl rfl rfl ?_
  refine y_getR 16 c152_13 rfl kf376_21 ?_
  refine y_iload 17 c152_16 rfl rfl ?_
  refine y_iconst 18 c152_17 rfl ?_
  refine y_iastore 19 c152_18 rfl ka384 (by omega) (y_nar0 _) ?_
  have hT13102 := hT13100.up 384 ((1 : Int).toNat) 0 0 10 rfl (by omega)
  have hF13103 := hF13101.up 384 ((1 : Int).toNat) 0 rfl
  refine y_aload 20 c152_19 rfl rfl rfl ?_
  refine y_getR 23 c152_20 rfl kf376_22 ?_
  refine y_iload 24 c152_23 rfl rfl ?_
  refine y_iconst 25 c152_24 rfl ?_
  refine y_iastore 26 c152_25 rfl ka385 (by omega) (y_nar0 _) ?_
  have hT13104 := hT13102.up 385 ((1 : Int).toNat) 0 0 8 rfl (by omega)
  have hF13105 := hF13103.up 385 ((1 : Int).toNat) 0 rfl
  refine y_aload 27 c152_26 rfl rfl rfl ?_
  refine y_getR 30 c152_27 rfl kf376_23 ?_
  refine y_iload 31 c152_30 rfl rfl ?_
  refine y_iconst 32 c152_31 rfl ?_
  refine y_iastore 33 c152_32 rfl ka386 (by omega) (y_nar0 _) ?_
  have hT13106 := hT13104.up 386 ((1 : Int).toNat) 0 0 12 rfl (by omega)
  have hF13107 := hF13105.up 386 ((1 : Int).toNat) 0 rfl
  refine y_aload 34 c152_33 rfl rfl rfl ?_
  refine y_getR 37 c152_34 rfl kf376_24 ?_
  refine y_iload 38 c152_37 rfl rfl ?_
  refine y_iconst 39 c152_38 rfl ?_
  refine y_iastore 40 c152_39 rfl ka387 (by omega) (y_nar0 _) ?_
  have hT13108 := hT13106.up 387 ((1 : Int).toNat) 0 0 8 rfl (by omega)
  have hF13109 := hF13107.up 387 ((1 : Int).toNat) 0 rfl
  refine y_aload 41 c152_40 rfl rfl rfl ?_
  refine y_getR 44 c152_41 rfl kf376_25 ?_
  refine y_iload 45 c152_44 rfl rfl ?_
  refine y_iconst 46 c152_45 rfl ?_
  refine y_iastore 47 c152_46 rfl ka388 (by omega) (y_nar0 _) ?_
  have hT13110 := hT13108.up 388 ((1 : Int).toNat) 1 0 12 rfl (by omega)
  have hF13111 := hF13109.up 388 ((1 : Int).toNat) 1 rfl
  refine y_aload 48 c152_47 rfl rfl rfl ?_
  refine y_getR 51 c152_48 rfl kf376_26 ?_
  refine y_iload 52 c152_51 rfl rfl ?_
  refine y_iconst 53 c152_52 rfl ?_
  refine y_iastore 54 c152_53 rfl ka389 (by omega) (y_nar0 _) ?_
  have hT13112 := hT13110.up 389 ((1 : Int).toNat) 0 0 48 rfl (by omega)
  have hF13113 := hF13111.up 389 ((1 : Int).toNat) 0 rfl
  refine y_aload 55 c152_54 rfl rfl rfl ?_
  refine y_getR 58 c152_55 rfl kf376_27 ?_
  refine y_iload 59 c152_58 rfl rfl ?_
  refine y_iconst 60 c152_59 rfl ?_
  refine y_iastore 61 c152_60 rfl ka390 (by omega) (y_nar0 _) ?_
  have hT13114 := hT13112.up 390 ((1 : Int).toNat) 0 0 125 rfl (by omega)
  have hF13115 := hF13113.up 390 ((1 : Int).toNat) 0 rfl
  refine y_aload 62 c152_61 rfl rfl rfl ?_
  refine y_getR 65 c152_62 rfl kf376_37 ?_
  refine y_iconst 67 c152_65 rfl ?_
  refine y_iload 68 c152_67 rfl rfl ?_
  refine y_imul 69 c152_68 rfl ?_
  refine y_top 12 (by decide) ?_
  refine y_iconst 70 c152_69 rfl ?_
  refine y_iastore 71 c152_70 rfl ka400 (by omega) (y_nar0 _) ?_
  have hT13116 := hT13114.up 400 ((12 : Int).toNat) 0 ((-2147483648)) 2147483647 rfl (by omega)
  have hF13117 := hF13115.up 400 ((12 : Int).toNat) 0 rfl
  refine y_aload 72 c152_71 rfl rfl rfl ?_
  refine y_iconst 73 c152_72 rfl ?_
  refine y_putI 76 c152_73 rfl kf376_9 (y_fit0 _) ?_
  have hT13118 := hT13116.up 376 9 0 0 40 rfl (by omega)
  have hF13119 := hF13117.up 376 9 0 rfl
  refine y_aload 77 c152_76 rfl rfl rfl ?_
  refine y_iconst 78 c152_77 rfl ?_
  refine y_putI 81 c152_78 rfl kf376_17 (y_fit0 _) ?_
  have hT13120 := hT13118.up 376 17 0 0 20 rfl (by omega)
  have hF13121 := hF13119.up 376 17 0 rfl
  refine y_aload 82 c152_81 rfl rfl rfl ?_
  refine y_iconst 83 c152_82 rfl ?_
  refine y_putI 86 c152_83 rfl kf376_6 (y_fit0 _) ?_
  have hT13122 := hT13120.up 376 6 0 0 320 rfl (by omega)
  have hF13123 := hF13121.up 376 6 0 rfl
  refine y_aload 87 c152_86 rfl rfl rfl ?_
  refine y_iconst 88 c152_87 rfl ?_
  refine y_putI 91 c152_88 rfl kf376_8 (y_fit0 _) ?_
  have hT13124 := hT13122.up 376 8 ((-1)) ((-1)) 320 rfl (by omega)
  have hF13125 := hF13123.up 376 8 ((-1)) rfl
  have es13126 : (yup (yup (yup (yup (yup (yup (yup (yup (yup (yup (yup (yup (yup m 383 ((1 : Int).toNat) 0) 384 ((1 : Int).toNat) 0) 385 ((1 : Int).toNat) 0) 386 ((1 : Int).toNat) 0) 387 ((1 : Int).toNat) 0) 388 ((1 : Int).toNat) 1) 389 ((1 : Int).toNat) 0) 390 ((1 : Int).toNat) 0) 400 ((12 : Int).toNat) 0) 376 9 0) 376 17 0) 376 6 0) 376 8 ((-1))) 376 18 = m 376 18 := rfl
  have es13127 : (yup (yup (yup (yup (yup (yup (yup (yup (yup (yup (yup (yup (yup m 383 ((1 : Int).toNat) 0) 384 ((1 : Int).toNat) 0) 385 ((1 : Int).toNat) 0) 386 ((1 : Int).toNat) 0) 387 ((1 : Int).toNat) 0) 388 ((1 : Int).toNat) 1) 389 ((1 : Int).toNat) 0) 390 ((1 : Int).toNat) 0) 400 ((12 : Int).toNat) 0) 376 9 0) 376 17 0) 376 6 0) 376 8 ((-1))) 376 19 = m 376 19 := rfl
  have tb13128 := hT.atp 376 19 0 1 rfl
  have es13129 : (yup (yup (yup (yup (yup (yup (yup (yup (yup (yup (yup (yup (yup m 383 ((1 : Int).toNat) 0) 384 ((1 : Int).toNat) 0) 385 ((1 : Int).toNat) 0) 386 ((1 : Int).toNat) 0) 387 ((1 : Int).toNat) 0) 388 ((1 : Int).toNat) 1) 389 ((1 : Int).toNat) 0) 390 ((1 : Int).toNat) 0) 400 ((12 : Int).toNat) 0) 376 9 0) 376 17 0) 376 6 0) 376 8 ((-1))) 376 9 = 0 := rfl
  have es13130 : (yup (yup (yup (yup (yup (yup (yup (yup (yup (yup (yup (yup (yup m 383 ((1 : Int).toNat) 0) 384 ((1 : Int).toNat) 0) 385 ((1 : Int).toNat) 0) 386 ((1 : Int).toNat) 0) 387 ((1 : Int).toNat) 0) 388 ((1 : Int).toNat) 1) 389 ((1 : Int).toNat) 0) 390 ((1 : Int).toNat) 0) 400 ((12 : Int).toNat) 0) 376 9 0) 376 17 0) 376 6 0) 376 8 ((-1))) 376 17 = 0 := rfl
  have es13131 : (yup (yup (yup (yup (yup (yup (yup (yup (yup (yup (yup (yup (yup m 383 ((1 : Int).toNat) 0) 384 ((1 : Int).toNat) 0) 385 ((1 : Int).toNat) 0) 386 ((1 : Int).toNat) 0) 387 ((1 : Int).toNat) 0) 388 ((1 : Int).toNat) 1) 389 ((1 : Int).toNat) 0) 390 ((1 : Int).toNat) 0) 400 ((12 : Int).toNat) 0) 376 9 0) 376 17 0) 376 6 0) 376 8 ((-1))) 376 6 = 0 := rfl
  have es13132 : (yup (yup (yup (yup (yup (yup (yup (yup (yup (yup (yup (yup (yup m 383 ((1 : Int).toNat) 0) 384 ((1 : Int).toNat) 0) 385 ((1 : Int).toNat) 0) 386 ((1 : Int).toNat) 0) 387 ((1 : Int).toNat) 0) 388 ((1 : Int).toNat) 1) 389 ((1 : Int).toNat) 0) 390 ((1 : Int).toNat) 0) 400 ((12 : Int).toNat) 0) 376 9 0) 376 17 0) 376 6 0) 376 8 ((-1))) 376 8 = (-1) := rfl
  have es13133 : (yup (yup (yup (yup (yup (yup (yup (yup (yup (yup (yup (yup (yup m 383 ((1 : Int).toNat) 0) 384 ((1 : Int).toNat) 0) 385 ((1 : Int).toNat) 0) 386 ((1 : Int).toNat) 0) 387 ((1 : Int).toNat) 0) 388 ((1 : Int).toNat) 1) 389 ((1 : Int).toNat) 0) 390 ((1 : Int).toNat) 0) 400 ((12 : Int).toNat) 0) 376 9 0) 376 17 0) 376 6 0) 376 8 ((-1))) 383 1 = 0 := rfl
  have es13134 : (yup (yup (yup (yup (yup (yup (yup (yup (yup (yup (yup (yup (yup m 383 ((1 : Int).toNat) 0) 384 ((1 : Int).toNat) 0) 385 ((1 : Int).toNat) 0) 386 ((1 : Int).toNat) 0) 387 ((1 : Int).toNat) 0) 388 ((1 : Int).toNat) 1) 389 ((1 : Int).toNat) 0) 390 ((1 : Int).toNat) 0) 400 ((12 : Int).toNat) 0) 376 9 0) 376 17 0) 376 6 0) 376 8 ((-1))) 384 1 = 0 := rfl
  have es13135 : (yup (yup (yup (yup (yup (yup (yup (yup (yup (yup (yup (yup (yup m 383 ((1 : Int).toNat) 0) 384 ((1 : Int).toNat) 0) 385 ((1 : Int).toNat) 0) 386 ((1 : Int).toNat) 0) 387 ((1 : Int).toNat) 0) 388 ((1 : Int).toNat) 1) 389 ((1 : Int).toNat) 0) 390 ((1 : Int).toNat) 0) 400 ((12 : Int).toNat) 0) 376 9 0) 376 17 0) 376 6 0) 376 8 ((-1))) 386 1 = 0 := rfl
  have es13136 : (yup (yup (yup (yup (yup (yup (yup (yup (yup (yup (yup (yup (yup m 383 ((1 : Int).toNat) 0) 384 ((1 : Int).toNat) 0) 385 ((1 : Int).toNat) 0) 386 ((1 : Int).toNat) 0) 387 ((1 : Int).toNat) 0) 388 ((1 : Int).toNat) 1) 389 ((1 : Int).toNat) 0) 390 ((1 : Int).toNat) 0) 400 ((12 : Int).toNat) 0) 376 9 0) 376 17 0) 376 6 0) 376 8 ((-1))) 387 1 = 0 := rfl
  have es13137 : (yup (yup (yup (yup (yup (yup (yup (yup (yup (yup (yup (yup (yup m 383 ((1 : Int).toNat) 0) 384 ((1 : Int).toNat) 0) 385 ((1 : Int).toNat) 0) 386 ((1 : Int).toNat) 0) 387 ((1 : Int).toNat) 0) 388 ((1 : Int).toNat) 1) 389 ((1 : Int).toNat) 0) 390 ((1 : Int).toNat) 0) 400 ((12 : Int).toNat) 0) 376 9 0) 376 17 0) 376 6 0) 376 8 ((-1))) 388 1 = 1 := rfl
  have es13138 : (yup (yup (yup (yup (yup (yup (yup (yup (yup (yup (yup (yup (yup m 383 ((1 : Int).toNat) 0) 384 ((1 : Int).toNat) 0) 385 ((1 : Int).toNat) 0) 386 ((1 : Int).toNat) 0) 387 ((1 : Int).toNat) 0) 388 ((1 : Int).toNat) 1) 389 ((1 : Int).toNat) 0) 390 ((1 : Int).toNat) 0) 400 ((12 : Int).toNat) 0) 376 9 0) 376 17 0) 376 6 0) 376 8 ((-1))) 390 1 = 0 := rfl
  have es13139 : (yup (yup (yup (yup (yup (yup (yup (yup (yup (yup (yup (yup (yup m 383 ((1 : Int).toNat) 0) 384 ((1 : Int).toNat) 0) 385 ((1 : Int).toNat) 0) 386 ((1 : Int).toNat) 0) 387 ((1 : Int).toNat) 0) 388 ((1 : Int).toNat) 1) 389 ((1 : Int).toNat) 0) 390 ((1 : Int).toNat) 0) 400 ((12 : Int).toNat) 0) 376 9 0) 376 17 0) 376 6 0) 376 8 ((-1))) 400 12 = 0 := rfl
  exact t152b_1 hT13124 (by omega) (by omega) (by rcases hI with q | q; exact Or.inl (by omega); exact Or.inr (q.fr hT (by decide) (fun a q ha => ((yup_ne (by rintro ⟨rfl, rfl⟩; simp [vGq] at ha)).trans ((yup_ne (by rintro ⟨rfl, rfl⟩; simp [vGq] at ha)).trans ((yup_ne (by rintro ⟨rfl, rfl⟩; simp [vGq] at ha)).trans ((yup_ne (by rintro ⟨rfl, rfl⟩; simp [vGq] at ha)).trans ((yup_ne (by rintro ⟨rfl, rfl⟩; simp [vGq] at ha)).trans ((yup_ne (by rintro ⟨rfl, rfl⟩; simp [vGq] at ha)).trans ((yup_ne (by rintro ⟨rfl, rfl⟩; simp [vGq] at ha)).trans ((yup_ne (by rintro ⟨rfl, rfl⟩; simp [vGq] at ha)).trans ((yup_ne (by rintro ⟨rfl, rfl⟩; simp [vGq] at ha)).trans ((yup_ne (by rintro ⟨rfl, rfl⟩; simp [vGq] at ha)).trans ((yup_ne (by rintro ⟨rfl, rfl⟩; simp [vGq] at ha)).trans ((yup_ne (by rintro ⟨rfl, rfl⟩; simp [vGq] at ha)).trans (yup_ne (by rintro ⟨rfl, rfl⟩; simp [vGq] at ha))))))))))))))))) hF13125 (by omega) (by omega) (by omega) (by omega) (by omega) (by omega) (by omega) (by omega) (by omega) (by omega)
