section
/-! CONTRACTS: the model, read. Printed by wip/whole/gen9f.py -/
theorem wSe0_wML : ∀ a q, wSe0 a q = true → wML a q = true := wML_of (fun a q h => by simp [wSe0, wS40, wS20, wS30] at h; omega)
theorem wCs0_wML : ∀ a q, wCs0 a q = true → wML a q = true := wML_of (fun a q h => by simp [wCs0, wBd0, wSt0, wHm0, wFm0, wMh0] at h; omega)
theorem wSe0_G : ∀ a q, vGq 1 a q = true → wSe0 a q = false := by
  intro a q h
  cases e : wSe0 a q with
  | false => rfl
  | true => simp [wSe0, wS40, wS20, wS30] at e; simp [vGq] at h; omega
theorem wCs0_G : ∀ a q, vGq 1 a q = true → wCs0 a q = false := by
  intro a q h
  cases e : wCs0 a q with
  | false => rfl
  | true => simp [wCs0, wBd0, wSt0, wHm0, wFm0, wMh0] at e; simp [vGq] at h; omega
theorem wNx_G {p : Nat} : ∀ a q, vGq p a q = true → wNx a q = false := by
  intro a q h
  cases e : wNx a q with
  | false => rfl
  | true => simp [wNx] at e; simp [vGq] at h; omega
theorem wRo_G8 {p : Nat} : ∀ a q, vGq p a q = true → (wRo 408) a q = false := by
  intro a q h
  cases e : (wRo 408) a q with
  | false => rfl
  | true => simp [wRo] at e; simp [vGq] at h; omega
set_option maxRecDepth 100000 in
theorem t152c_0 {L : Nat} {xs : Nat → Int32} {d nn : Nat} {m : yM} {m0 : yM} (hT : Ty gT m) (hn : m 376 18 = 1) (h40 : m 400 (12 * 0) = 0) (hI : m 376 19 = 0 ∨ GQ 1 m) (hF0 : Fr wML m0 m) (hw : 0 ≤ m 376 8 ∨ (m 376 8 < 0 ∧ XD 0 m ∧ m 390 0 ≤ 2 * m 376 9 + m 384 0 ∧ 1 ≤ m 383 0 ∧ MX 0 m (m 384 0) (m 390 0 - 1))) : YW (gZ L xs) 152 (d + 13) 120 [some (.ref 376), some (yI 0), none, none] [] m nn (qMd nn m0) := by
  have tb8 := hT.atp 376 8 (-1) 320 rfl
  have tb9 := hT.atp 376 9 0 40 rfl
  have tb19 := hT.atp 376 19 0 1 rfl
  have tb4 := hT.atp 384 0 0 10 rfl
  refine y_aload 121 c152_120 rfl rfl rfl ?_
  refine y_getX 124 (m 376 8) c152_121 rfl kf376_8 rfl ?_
  refine y_if 132 127 c152_124 rfl rfl (yz_ge (by omega)) (fun hb12914 => ?_) (fun hb12914 => ?_)
  · refine y_aload 133 c152_132 rfl rfl rfl ?_
    refine y_aload 134 c152_133 rfl rfl rfl ?_
    refine y_getX 137 (m 376 8) c152_134 rfl kf376_8 rfl ?_
    refine y_putI 140 c152_137 rfl kf376_2 (y_fit0 _) ?_
    have hT12915 := hT.up 376 2 (m 376 8) ((-2147483648)) 2147483647 rfl (by omega)
    have hF12916 := hF0.up 376 2 (m 376 8) rfl
    refine y_aload 141 c152_140 rfl rfl rfl ?_
    refine y_aload 142 c152_141 rfl rfl rfl ?_
    refine y_getX 145 (m 376 8) c152_142 rfl kf376_8 rfl ?_
    refine y_if 152 148 c152_145 rfl rfl (yz_ge (by omega)) (fun hb12917 => ?_) (fun hb12917 => ?_)
    · refine y_iconst 153 c152_152 rfl ?_
      refine y_iconst 154 c152_153 rfl ?_
      refine y_inlB 157 [.ref 376, yI 0, yI 1] [] [some (.ref 376), some (yI 0), some (yI 1)] c152_154 rfl rfl rfl rfl rfl (ycanO km23 ko376) kn23 rfl rfl ?_
      refine y_aload 1 c23_0 rfl rfl rfl ?_
      refine y_iload 2 c23_1 rfl rfl ?_
      refine y_if 9 5 c23_2 rfl rfl (yz_eq (by omega)) (fun hb12918 => ?_) (fun hb12918 => ?_)
      · refine y_iload 10 c23_9 rfl rfl ?_
        refine y_putI 13 c23_10 rfl kf376_57 (y_fit0 _) ?_
        have hT12919 := hT12915.up 376 57 1 0 4 rfl (by omega)
        have hF12920 := hF12916.up 376 57 1 rfl
        refine y_iload 14 c23_13 rfl rfl ?_
        refine y_ireturnK c23_14 (y_fit1 (by omega)) ?_
        refine y_if 162 160 c152_157 rfl rfl (yz_ne (by omega)) (fun hb12921 => ?_) (fun hb12921 => ?_)
        · exfalso; omega
        · refine y_iconst 161 c152_160 rfl ?_
          have es12922 : (yup (yup m 376 2 (m 376 8)) 376 57 1) 376 18 = m 376 18 := rfl
          have tb12923 := hT.atp 376 18 0 1 rfl
          have es12924 : (yup (yup m 376 2 (m 376 8)) 376 57 1) 376 19 = m 376 19 := rfl
          refine y_ireturn c152_161 (y_fit0 _) ⟨_, rfl, rfl, hF12920, hT12919, ?_⟩
          rcases hI with q | q
          · exact Or.inl (by omega)
          · exact Or.inr (Or.inr ⟨by omega, q.fr hT (by decide) (fun a q ha => ((yup_ne (by rintro ⟨rfl, rfl⟩; simp [vGq] at ha)).trans (yup_ne (by rintro ⟨rfl, rfl⟩; simp [vGq] at ha))))⟩)
      · exfalso; omega
    · exfalso; omega
  · refine y_aload 128 c152_127 rfl rfl rfl ?_
    refine y_iload 129 c152_128 rfl rfl ?_
    obtain ⟨hw1, hw2, hw3, hw4, hw5⟩ := hw.resolve_left (by omega)
    refine y_callUB 132 [.ref 376, yI 0] [] c152_129 rfl rfl rfl rfl rfl (ycanO km141 ko376) (t141_0 hT hw2 hw4 h40 (by omega) hw5) (fun mq12925 nq12925 hq12925 => ?_)
    obtain ⟨rfl, hTq12925, hFq12925, hq12925⟩ := hq12925
    have t8q12925 := hTq12925.atp 376 8 (-1) 320 rfl
    have hF12926 := hF0.tr hFq12925 wSe0_wML
    refine y_aload 133 c152_132 rfl rfl rfl ?_
    refine y_aload 134 c152_133 rfl rfl rfl ?_
    refine y_getX 137 (mq12925 376 8) c152_134 rfl kf376_8 rfl ?_
    refine y_putI 140 c152_137 rfl kf376_2 (y_fit0 _) ?_
    have hT12927 := hTq12925.up 376 2 (mq12925 376 8) ((-2147483648)) 2147483647 rfl (by omega)
    have hF12928 := hF12926.up 376 2 (mq12925 376 8) rfl
    refine y_aload 141 c152_140 rfl rfl rfl ?_
    refine y_aload 142 c152_141 rfl rfl rfl ?_
    refine y_getX 145 (mq12925 376 8) c152_142 rfl kf376_8 rfl ?_
    refine y_if 152 148 c152_145 rfl rfl (yz_ge (by omega)) (fun hb12929 => ?_) (fun hb12929 => ?_)
    · refine y_iconst 153 c152_152 rfl ?_
      refine y_iconst 154 c152_153 rfl ?_
      refine y_inlB 157 [.ref 376, yI 0, yI 1] [] [some (.ref 376), some (yI 0), some (yI 1)] c152_154 rfl rfl rfl rfl rfl (ycanO km23 ko376) kn23 rfl rfl ?_
      refine y_aload 1 c23_0 rfl rfl rfl ?_
      refine y_iload 2 c23_1 rfl rfl ?_
      refine y_if 9 5 c23_2 rfl rfl (yz_eq (by omega)) (fun hb12930 => ?_) (fun hb12930 => ?_)
      · refine y_iload 10 c23_9 rfl rfl ?_
        refine y_putI 13 c23_10 rfl kf376_57 (y_fit0 _) ?_
        have hT12931 := hT12927.up 376 57 1 0 4 rfl (by omega)
        have hF12932 := hF12928.up 376 57 1 rfl
        refine y_iload 14 c23_13 rfl rfl ?_
        refine y_ireturnK c23_14 (y_fit1 (by omega)) ?_
        refine y_if 162 160 c152_157 rfl rfl (yz_ne (by omega)) (fun hb12933 => ?_) (fun hb12933 => ?_)
        · exfalso; omega
        · refine y_iconst 161 c152_160 rfl ?_
          have es12934 : (yup (yup mq12925 376 2 (mq12925 376 8)) 376 57 1) 376 18 = m 376 18 := ((yup_nk (by decide)).trans ((yup_nk (by decide)).trans (hFq12925 376 18 rfl)))
          have tb12935 := hT.atp 376 18 0 1 rfl
          have es12936 : (yup (yup mq12925 376 2 (mq12925 376 8)) 376 57 1) 376 19 = m 376 19 := ((yup_nk (by decide)).trans ((yup_nk (by decide)).trans (hFq12925 376 19 rfl)))
          refine y_ireturn c152_161 (y_fit0 _) ⟨_, rfl, rfl, hF12932, hT12931, ?_⟩
          rcases hI with q | q
          · exact Or.inl (by omega)
          · exact Or.inr (Or.inr ⟨by omega, q.fr hT (by decide) (fun a q ha => ((yup_ne (by rintro ⟨rfl, rfl⟩; simp [vGq] at ha)).trans ((yup_ne (by rintro ⟨rfl, rfl⟩; simp [vGq] at ha)).trans (hFq12925 a q (wSe0_G a q ha)))))⟩)
      · exfalso; omega
    · refine y_iconst 149 c152_148 rfl ?_
      refine y_goto 153 c152_149 rfl ?_
      refine y_iconst 154 c152_153 rfl ?_
      refine y_inlB 157 [.ref 376, yI 1, yI 1] [] [some (.ref 376), some (yI 1), some (yI 1)] c152_154 rfl rfl rfl rfl rfl (ycanO km23 ko376) kn23 rfl rfl ?_
      refine y_aload 1 c23_0 rfl rfl rfl ?_
      refine y_iload 2 c23_1 rfl rfl ?_
      refine y_if 9 5 c23_2 rfl rfl (yz_eq (by omega)) (fun hb12937 => ?_) (fun hb12937 => ?_)
      · exfalso; omega
      · refine y_iconst 6 c23_5 rfl ?_
        refine y_goto 10 c23_6 rfl ?_
        refine y_putI 13 c23_10 rfl kf376_57 (y_fit0 _) ?_
        have hT12938 := hT12927.up 376 57 0 0 4 rfl (by omega)
        have hF12939 := hF12928.up 376 57 0 rfl
        refine y_iload 14 c23_13 rfl rfl ?_
        refine y_ireturnK c23_14 (y_fit1 (by omega)) ?_
        refine y_if 162 160 c152_157 rfl rfl (yz_ne (by omega)) (fun hb12940 => ?_) (fun hb12940 => ?_)
        · refine y_aload 163 c152_162 rfl rfl rfl ?_
          refine y_iload 164 c152_163 rfl rfl ?_
          refine y_putI 167 c152_164 rfl kf376_18 (y_fit0 _) ?_
          have hT12941 := hT12938.up 376 18 0 0 1 rfl (by omega)
          have hF12942 := hF12939.up 376 18 0 rfl
          refine y_aload 168 c152_167 rfl rfl rfl ?_
          refine y_iconst 169 c152_168 rfl ?_
          refine y_putI 172 c152_169 rfl kf376_19 (y_fit1 (by omega)) ?_
          have hT12943 := hT12941.up 376 19 1 0 1 rfl (by omega)
          have hF12944 := hF12942.up 376 19 1 rfl
          refine y_aload 173 c152_172 rfl rfl rfl ?_
          refine y_iconst 174 c152_173 rfl ?_
          refine y_putI 177 c152_174 rfl kf376_51 (y_fit0 _) ?_
          have hT12945 := hT12943.up 376 51 0 0 30 rfl (by omega)
          have hF12946 := hF12944.up 376 51 0 rfl
          refine y_iconst 178 c152_177 rfl ?_
          refine y_istore 179 c152_178 rfl rfl ?_
          refine t152s hT12945 (fun z2 mz hTmz hFmz => ?_) 576 0 _ (by omega) (by omega) hT12945 Fr.rf
          have hF12947 := hF12946.tr hFmz (wRo_wML (by decide))
          refine y_aload 200 c152_199 rfl rfl rfl ?_
          have es12949 : mz 376 18 = 0 := ((hFmz 376 18 rfl).trans ((yup_nk (by decide)).trans ((yup_nk (by decide)).trans (yup_eq _ _ _ _))))
          have hg : GQ 0 mz := ((hq12925.resolve_left (by omega)).2).fr hTq12925 (by decide) (fun a q ha => ((hFmz a q (wRo_G8 a q ha)).trans ((yup_ne (by rintro ⟨rfl, rfl⟩; simp [vGq] at ha)).trans ((yup_ne (by rintro ⟨rfl, rfl⟩; simp [vGq] at ha)).trans ((yup_ne (by rintro ⟨rfl, rfl⟩; simp [vGq] at ha)).trans ((yup_ne (by rintro ⟨rfl, rfl⟩; simp [vGq] at ha)).trans (yup_ne (by rintro ⟨rfl, rfl⟩; simp [vGq] at ha))))))))
          refine y_callUB 203 [.ref 376] [] c152_200 rfl rfl rfl rfl rfl (ycanO km151 ko376) (t151_0 hTmz (by omega) hg) (fun mq12948 nq12948 hq12948 => ?_)
          obtain ⟨rfl, hTq12948, hFq12948⟩ := hq12948
          have hF12950 := hF12947.tr hFq12948 wAz_wML
          refine y_iconst 204 c152_203 rfl ?_
          refine y_istore 205 c152_204 rfl rfl ?_
          refine y_iconst 206 c152_205 rfl ?_
          refine y_istore 207 c152_206 rfl rfl ?_
          have es12951 : mq12948 376 18 = 0 := ((hFq12948 376 18 rfl).trans ((hFmz 376 18 rfl).trans ((yup_nk (by decide)).trans ((yup_nk (by decide)).trans (yup_eq _ _ _ _)))))
          have es12952 : mq12948 376 19 = 1 := ((hFq12948 376 19 rfl).trans ((hFmz 376 19 rfl).trans ((yup_nk (by decide)).trans (yup_eq _ _ _ _))))
          have hg2 : GQ 0 mq12948 := hg.fr hTmz (by decide) (fun a q ha => hFq12948 a q (wAz_G a q ha))
          exact t152n hTq12948 (fun r hr => ⟨r, rfl, rfl, hF12950, hTq12948, Or.inr (Or.inl ⟨by omega, hg2⟩)⟩) 576 0 0 (by omega) (by omega) (by omega)
        · exfalso; omega
theorem wCs0_400 : wCs0 400 (12 * 0) = false := by decide
set_option maxRecDepth 100000 in
theorem t152x_0 {L : Nat} {xs : Nat → Int32} {d nn : Nat} {m : yM} {m0 : yM} (hT : Ty gT m) (hn : m 376 18 = 1) (h40 : m 400 (12 * 0) = 0) (hI : m 376 19 = 0 ∨ GQ 1 m) (hF0 : Fr wML m0 m) {mi : yM} (hTi : Ty gT mi) (hFi : Fr wCs0 m mi) (hw : 0 ≤ mi 376 8) : YW (gZ L xs) 152 (d + 13) 99 [some (.ref 376), some (yI 0), none, none] [] mi nn (qMd nn m0) := by
  have tb8 := hTi.atp 376 8 (-1) 320 rfl
  have em18 : mi 376 18 = m 376 18 := hFi 376 18 rfl
  refine y_aload 100 c152_99 rfl rfl rfl ?_
  refine y_getX 103 (mi 376 8) c152_100 rfl kf376_8 rfl ?_
  refine y_if 120 106 c152_103 rfl rfl (yz_ge (by omega)) (fun hb => ?_) (fun hb => ?_)
  · exact t152c_0 hTi (by omega) ((hFi 400 _ wCs0_400).trans h40) (by rcases hI with q | q; exact Or.inl ((hFi 376 19 rfl).trans q); exact Or.inr (q.fr hT (by decide) (fun a q ha => hFi a q (wCs0_G a q ha)))) (hF0.tr hFi wCs0_wML) (Or.inl hw)
  · exfalso; omega
set_option maxRecDepth 100000 in
theorem t152a_0 {L : Nat} {xs : Nat → Int32} {d nn : Nat} {m : yM} {m0 : yM} (hT : Ty gT m) (hn : m 376 18 = 1) (h40 : m 400 (12 * 0) = 0) (hI : m 376 19 = 0 ∨ GQ 1 m) (hF0 : Fr wML m0 m) (hl : m 376 6 ≤ m 376 1) : ∀ (k : Nat) (mi : yM), mu mi = k → Ty gT mi → Fr wCs0 m mi → mi 376 6 ≤ mi 376 1 → (0 ≤ mi 376 8 ∨ (mi 376 8 < 0 ∧ XD 0 mi ∧ mi 390 0 ≤ 2 * mi 376 9 + mi 384 0 ∧ 1 ≤ mi 383 0 ∧ MX 0 mi (mi 384 0) (mi 390 0 - 1))) → YW (gZ L xs) 152 (d + 13) 99 [some (.ref 376), some (yI 0), none, none] [] mi nn (qMd nn m0) := by
  intro k
  induction k using Nat.strongRecOn with
  | ind k ih =>
    intro mi hk hTi hFi hli hw
    have tb8 := hTi.atp 376 8 (-1) 320 rfl
    have em18 : mi 376 18 = m 376 18 := hFi 376 18 rfl
    have em1 : mi 376 1 = m 376 1 := hFi 376 1 rfl
    refine y_aload 100 c152_99 rfl rfl rfl ?_
    refine y_getX 103 (mi 376 8) c152_100 rfl kf376_8 rfl ?_
    refine y_if 120 106 c152_103 rfl rfl (yz_ge (by omega)) (fun hb12953 => ?_) (fun hb12953 => ?_)
    · exact t152c_0 hTi (by omega) ((hFi 400 _ wCs0_400).trans h40) (by rcases hI with q | q; exact Or.inl ((hFi 376 19 rfl).trans q); exact Or.inr (q.fr hT (by decide) (fun a q ha => hFi a q (wCs0_G a q ha)))) (hF0.tr hFi wCs0_wML) hw
    · refine y_aload 107 c152_106 rfl rfl rfl ?_
      refine y_getX 110 (mi 376 3) c152_107 rfl kf376_3 rfl ?_
      have tb12954 := hTi.atp 376 3 0 3 rfl
      refine y_if 120 113 c152_110 rfl rfl (yz_eq (by omega)) (fun hb12955 => ?_) (fun hb12955 => ?_)
      · exact t152c_0 hTi (by omega) ((hFi 400 _ wCs0_400).trans h40) (by rcases hI with q | q; exact Or.inl ((hFi 376 19 rfl).trans q); exact Or.inr (q.fr hT (by decide) (fun a q ha => hFi a q (wCs0_G a q ha)))) (hF0.tr hFi wCs0_wML) hw
      · refine y_aload 114 c152_113 rfl rfl rfl ?_
        have es12957 : mi 376 1 = m 376 1 := (hFi 376 1 rfl)
        have tb12958 := hT.atp 376 1 0 320 rfl
        have tb12959 := hTi.atp 376 6 0 320 rfl
        have es12960 : mi 376 18 = m 376 18 := (hFi 376 18 rfl)
        have tb12961 := hT.atp 376 18 0 1 rfl
        refine y_callUB 117 [.ref 376] [] c152_114 rfl rfl rfl rfl rfl (ycanO km140 ko376) (t140_0 hTi (by omega) (by omega) (by omega) (hw.resolve_left (by omega)).2.1 (hw.resolve_left (by omega)).2.2.1 (hw.resolve_left (by omega)).2.2.2.2) (fun mq12956 nq12956 hq12956 => ?_)
        obtain ⟨rfl, hTq12956, hFq12956, hlq12956, hq12956⟩ := hq12956
        have x1q12956 : mq12956 376 1 = m 376 1 := ((hFq12956 376 1 rfl).trans (hFi 376 1 rfl))
        have hF12962 := hFi.tr hFq12956 (fun _ _ e => e)
        refine y_goto 99 c152_117 rfl ?_
        rcases hq12956 with q | q
        · have hlo := mu_lo hlq12956
          exact t152x_0 hT hn h40 hI hF0 hTq12956 hF12962 q
        · have hlo := mu_lo hlq12956
          exact ih (mu mq12956).toNat (by omega) _ (by omega) hTq12956 hF12962 hlq12956 (Or.inr ⟨q.1, q.2.2.1, q.2.2.2.1, q.2.2.2.2.1, q.2.2.2.2.2⟩)
set_option maxRecDepth 100000 in
theorem t152b_0 {L : Nat} {xs : Nat → Int32} {d nn : Nat} {m : yM} {m0 : yM} (hT : Ty gT m) (hn : m 376 18 = 1) (h40 : m 400 (12 * 0) = 0) (hI : m 376 19 = 0 ∨ GQ 1 m) (hF0 : Fr wML m0 m) (h9 : m 376 9 = 0) (h17 : m 376 17 = 0) (h6 : m 376 6 = 0) (h8 : m 376 8 = -1) (h83 : m 383 0 = 0) (h84 : m 384 0 = 0) (h86 : m 386 0 = 0) (h87 : m 387 0 = 0) (h88 : m 388 0 = 1) (h90 : m 390 0 = 0) : YW (gZ L xs) 152 (d + 13) 91 [some (.ref 376), some (yI 0), none, none] [] m nn (qMd nn m0) := by
  have tb1 := hT.atp 376 1 0 320 rfl
  have hl : m 376 6 ≤ m 376 1 := by omega
  have hF : Fr wCs0 m m := Fr.rf
  have hx0 : XD 0 m := ⟨⟨fun o ho => by omega, fun o ho => by omega, fun o ho => by omega, fun i j _ hj => by omega⟩, fun o ho => by omega, fun i hi => by omega, fun k hk => by omega, ⟨fun o ho => by omega, fun o ho => by omega⟩, by omega, by omega, fun c hc => by omega, fun o ho => by omega⟩
  refine y_aload 92 c152_91 rfl rfl rfl ?_
  have tb12964 := hT.atp 376 1 0 320 rfl
  have tb12965 := hT.atp 376 3 0 3 rfl
  have tb12966 := hT.atp 376 6 0 320 rfl
  have tb12967 := hT.atp 376 8 ((-1)) 320 rfl
  refine y_callUB 95 [.ref 376] [] c152_92 rfl rfl rfl rfl rfl (ycanO km99 ko376) (t99u hT (by omega)) (fun mq12963 nq12963 hq12963 => ?_)
  obtain ⟨rfl, hTq12963, hFq12963, hq12963⟩ := hq12963
  have x1q12963 : mq12963 376 1 = m 376 1 := (hFq12963 376 1 rfl)
  have hF12968 := hF.tr hFq12963 wNx_wCs0
  have es12969 : mq12963 376 1 = m 376 1 := (hFq12963 376 1 rfl)
  have tb12970 := hTq12963.atp 376 3 0 3 rfl
  have tb12971 := hTq12963.atp 376 6 0 320 rfl
  have es12972 : mq12963 376 8 = m 376 8 := (hFq12963 376 8 rfl)
  have es12973 : mq12963 390 0 = m 390 0 := (hFq12963 390 0 rfl)
  have tb12974 := hT.atp 390 0 0 125 rfl
  have es12975 : mq12963 384 0 = m 384 0 := (hFq12963 384 0 rfl)
  have tb12976 := hT.atp 384 0 0 10 rfl
  have es12977 : mq12963 376 9 = m 376 9 := (hFq12963 376 9 rfl)
  have tb12978 := hT.atp 376 9 0 40 rfl
  have hxd : XD 0 mq12963 := hx0.fw hFq12963 wNx_C
  have hcb : mq12963 390 0 ≤ 2 * mq12963 376 9 + mq12963 384 0 := by omega
  refine y_aload 96 c152_95 rfl rfl rfl ?_
  have es12980 : mq12963 376 1 = m 376 1 := (hFq12963 376 1 rfl)
  have es12981 : mq12963 376 8 = m 376 8 := (hFq12963 376 8 rfl)
  have es12982 : mq12963 376 18 = m 376 18 := (hFq12963 376 18 rfl)
  have tb12983 := hT.atp 376 18 0 1 rfl
  refine y_callUB 99 [.ref 376] [] c152_96 rfl rfl rfl rfl rfl (ycanO km140 ko376) (t140_0 hTq12963 (by omega) (by omega) (by omega) hxd hcb (fun i hi => by omega)) (fun mq12979 nq12979 hq12979 => ?_)
  obtain ⟨rfl, hTq12979, hFq12979, hlq12979, hq12979⟩ := hq12979
  have x1q12979 : mq12979 376 1 = m 376 1 := ((hFq12979 376 1 rfl).trans (hFq12963 376 1 rfl))
  have hF12984 := hF12968.tr hFq12979 (fun _ _ e => e)
  have hlo := mu_lo hlq12979
  exact t152a_0 hT hn h40 hI hF0 hl (mu mq12979).toNat _ (by omega) hTq12979 hF12984 hlq12979 (by rcases hq12979 with q | q; exact Or.inl q; exact Or.inr ⟨q.1, q.2.2.1, q.2.2.2.1, q.2.2.2.2.1, q.2.2.2.2.2⟩)
set_option maxRecDepth 100000 in
theorem t152_0 {L : Nat} {xs : Nat → Int32} {d nn : Nat} {m : yM} (hT : Ty gT m) (hn : m 376 18 = 1) (hI : m 376 19 = 0 ∨ GQ 1 m) : YC (gZ L xs) (d + 13) 152 [.ref 376] m nn (qMd nn m) := by
  refine YC.mkB [some (.ref 376), none, none, none] kn152 rfl rfl ?_
  have hF : Fr wML m m := Fr.rf
  refine y_aload 1 c152_0 rfl rfl rfl ?_
  have tb12986 := hT.atp 376 18 0 1 rfl
  refine y_callP 4 [.ref 376] [] c152_1 rfl rfl rfl rfl rfl (ycanO km96 ko376) (t96_0 (by omega)) (fun r12985 hr12985 => ?_)
  subst hr12985
  refine y_istore 5 c152_4 rfl rfl ?_
  refine y_aload 6 c152_5 rfl rfl rfl ?_
  refine y_getR 9 c152_6 rfl kf376_20 ?_
  refine y_iload 10 c152_9 rfl rfl ?_
  refine y_iconst 11 c152_10 rfl ?_
  refine y_iastore 12 c152_11 rfl ka383 (by omega) (y_nar0 _) ?_
  have hT12987 := hT.up 383 ((0 : Int).toNat) 0 0 6 rfl (by omega)
  have hF12988 := hF.up 383 ((0 : Int).toNat) 0 rfl
  refine y_aload 13 c152_12 rfl rfl rfl ?_
  refine y_getR 16 c152_13 rfl kf376_21 ?_
  refine y_iload 17 c152_16 rfl rfl ?_
  refine y_iconst 18 c152_17 rfl ?_
  refine y_iastore 19 c152_18 rfl ka384 (by omega) (y_nar0 _) ?_
  have hT12989 := hT12987.up 384 ((0 : Int).toNat) 0 0 10 rfl (by omega)
  have hF12990 := hF12988.up 384 ((0 : Int).toNat) 0 rfl
  refine y_aload 20 c152_19 rfl rfl rfl ?_
  refine y_getR 23 c152_20 rfl kf376_22 ?_
  refine y_iload 24 c152_23 rfl rfl ?_
  refine y_iconst 25 c152_24 rfl ?_
  refine y_iastore 26 c152_25 rfl ka385 (by omega) (y_nar0 _) ?_
  have hT12991 := hT12989.up 385 ((0 : Int).toNat) 0 0 8 rfl (by omega)
  have hF12992 := hF12990.up 385 ((0 : Int).toNat) 0 rfl
  refine y_aload 27 c152_26 rfl rfl rfl ?_
  refine y_getR 30 c152_27 rfl kf376_23 ?_
  refine y_iload 31 c152_30 rfl rfl ?_
  refine y_iconst 32 c152_31 rfl ?_
  refine y_iastore 33 c152_32 rfl ka386 (by omega) (y_nar0 _) ?_
  have hT12993 := hT12991.up 386 ((0 : Int).toNat) 0 0 12 rfl (by omega)
  have hF12994 := hF12992.up 386 ((0 : Int).toNat) 0 rfl
  refine y_aload 34 c152_33 rfl rfl rfl ?_
  refine y_getR 37 c152_34 rfl kf376_24 ?_
  refine y_iload 38 c152_37 rfl rfl ?_
  refine y_iconst 39 c152_38 rfl ?_
  refine y_iastore 40 c152_39 rfl ka387 (by omega) (y_nar0 _) ?_
  have hT12995 := hT12993.up 387 ((0 : Int).toNat) 0 0 8 rfl (by omega)
  have hF12996 := hF12994.up 387 ((0 : Int).toNat) 0 rfl
  refine y_aload 41 c152_40 rfl rfl rfl ?_
  refine y_getR 44 c152_41 rfl kf376_25 ?_
  refine y_iload 45 c152_44 rfl rfl ?_
  refine y_iconst 46 c152_45 rfl ?_
  refine y_iastore 47 c152_46 rfl ka388 (by omega) (y_nar0 _) ?_
  have hT12997 := hT12995.up 388 ((0 : Int).toNat) 1 0 12 rfl (by omega)
  have hF12998 := hF12996.up 388 ((0 : Int).toNat) 1 rfl
  refine y_aload 48 c152_47 rfl rfl rfl ?_
  refine y_getR 51 c152_48 rfl kf376_26 ?_
  refine y_iload 52 c152_51 rfl rfl ?_
  refine y_iconst 53 c152_52 rfl ?_
  refine y_iastore 54 c152_53 rfl ka389 (by omega) (y_nar0 _) ?_
  have hT12999 := hT12997.up 389 ((0 : Int).toNat) 0 0 48 rfl (by omega)
  have hF13000 := hF12998.up 389 ((0 : Int).toNat) 0 rfl
  refine y_aload 55 c152_54 rfl rfl rfl ?_
  refine y_getR 58 c152_55 rfl kf376_27 ?_
  refine y_iload 59 c152_58 rfl rfl ?_
  refine y_iconst 60 c152_59 rfl ?_
  refine y_iastore 61 c152_60 rfl ka390 (by omega) (y_nar0 _) ?_
  have hT13001 := hT12999.up 390 ((0 : Int).toNat) 0 0 125 rfl (by omega)
  have hF13002 := hF13000.up 390 ((0 : Int).toNat) 0 rfl
  refine y_aload 62 c152_61 rfl rfl rfl ?_
  refine y_getR 65 c152_62 rfl kf376_37 ?_
  refine y_iconst 67 c152_65 rfl ?_
  refine y_iload 68 c152_67 rfl rfl ?_
  refine y_imul 69 c152_68 rfl ?_
  refine y_top 0 (by decide) ?_
  refine y_iconst 70 c152_69 rfl ?_
  refine y_iastore 71 c152_70 rfl ka400 (by omega) (y_nar0 _) ?_
  have hT13003 := hT13001.up 400 ((0 : Int).toNat) 0 ((-2147483648)) 2147483647 rfl (by omega)
  have hF13004 := hF13002.up 400 ((0 : Int).toNat) 0 rfl
  refine y_aload 72 c152_71 rfl rfl rfl ?_
  refine y_iconst 73 c152_72 rfl ?_
  refine y_putI 76 c152_73 rfl kf376_9 (y_fit0 _) ?_
  have hT13005 := hT13003.up 376 9 0 0 40 rfl (by omega)
  have hF13006 := hF13004.up 376 9 0 rfl
  refine y_aload 77 c152_76 rfl rfl rfl ?_
  refine y_iconst 78 c152_77 rfl ?_
  refine y_putI 81 c152_78 rfl kf376_17 (y_fit0 _) ?_
  have hT13007 := hT13005.up 376 17 0 0 20 rfl (by omega)
  have hF13008 := hF13006.up 376 17 0 rfl
  refine y_aload 82 c152_81 rfl rfl rfl ?_
  refine y_iconst 83 c152_82 rfl ?_
  refine y_putI 86 c152_83 rfl kf376_6 (y_fit0 _) ?_
  have hT13009 := hT13007.up 376 6 0 0 320 rfl (by omega)
  have hF13010 := hF13008.up 376 6 0 rfl
  refine y_aload 87 c152_86 rfl rfl rfl ?_
  refine y_iconst 88 c152_87 rfl ?_
  refine y_putI 91 c152_88 rfl kf376_8 (y_fit0 _) ?_
  have hT13011 := hT13009.up 376 8 ((-1)) ((-1)) 320 rfl (by omega)
  have hF13012 := hF13010.up 376 8 ((-1)) rfl
  have es13013 : (yup (yup (yup (yup (yup (yup (yup (yup (yup (yup (yup (yup (yup m 383 ((0 : Int).toNat) 0) 384 ((0 : Int).toNat) 0) 385 ((0 : Int).toNat) 0) 386 ((0 : Int).toNat) 0) 387 ((0 : Int).toNat) 0) 388 ((0 : Int).toNat) 1) 389 ((0 : Int).toNat) 0) 390 ((0 : Int).toNat) 0) 400 ((0 : Int).toNat) 0) 376 9 0) 376 17 0) 376 6 0) 376 8 ((-1))) 376 18 = m 376 18 := rfl
  have es13014 : (yup (yup (yup (yup (yup (yup (yup (yup (yup (yup (yup (yup (yup m 383 ((0 : Int).toNat) 0) 384 ((0 : Int).toNat) 0) 385 ((0 : Int).toNat) 0) 386 ((0 : Int).toNat) 0) 387 ((0 : Int).toNat) 0) 388 ((0 : Int).toNat) 1) 389 ((0 : Int).toNat) 0) 390 ((0 : Int).toNat) 0) 400 ((0 : Int).toNat) 0) 376 9 0) 376 17 0) 376 6 0) 376 8 ((-1))) 376 19 = m 376 19 := rfl
  have tb13015 := hT.atp 376 19 0 1 rfl
  have es13016 : (yup (yup (yup (yup (yup (yup (yup (yup (yup (yup (yup (yup (yup m 383 ((0 : Int).toNat) 0) 384 ((0 : Int).toNat) 0) 385 ((0 : Int).toNat) 0) 386 ((0 : Int).toNat) 0) 387 ((0 : Int).toNat) 0) 388 ((0 : Int).toNat) 1) 389 ((0 : Int).toNat) 0) 390 ((0 : Int).toNat) 0) 400 ((0 : Int).toNat) 0) 376 9 0) 376 17 0) 376 6 0) 376 8 ((-1))) 376 9 = 0 := rfl
  have es13017 : (yup (yup (yup (yup (yup (yup (yup (yup (yup (yup (yup (yup (yup m 383 ((0 : Int).toNat) 0) 384 ((0 : Int).toNat) 0) 385 ((0 : Int).toNat) 0) 386 ((0 : Int).toNat) 0) 387 ((0 : Int).toNat) 0) 388 ((0 : Int).toNat) 1) 389 ((0 : Int).toNat) 0) 390 ((0 : Int).toNat) 0) 400 ((0 : Int).toNat) 0) 376 9 0) 376 17 0) 376 6 0) 376 8 ((-1))) 376 17 = 0 := rfl
  have es13018 : (yup (yup (yup (yup (yup (yup (yup (yup (yup (yup (yup (yup (yup m 383 ((0 : Int).toNat) 0) 384 ((0 : Int).toNat) 0) 385 ((0 : Int).toNat) 0) 386 ((0 : Int).toNat) 0) 387 ((0 : Int).toNat) 0) 388 ((0 : Int).toNat) 1) 389 ((0 : Int).toNat) 0) 390 ((0 : Int).toNat) 0) 400 ((0 : Int).toNat) 0) 376 9 0) 376 17 0) 376 6 0) 376 8 ((-1))) 376 6 = 0 := rfl
  have es13019 : (yup (yup (yup (yup (yup (yup (yup (yup (yup (yup (yup (yup (yup m 383 ((0 : Int).toNat) 0) 384 ((0 : Int).toNat) 0) 385 ((0 : Int).toNat) 0) 386 ((0 : Int).toNat) 0) 387 ((0 : Int).toNat) 0) 388 ((0 : Int).toNat) 1) 389 ((0 : Int).toNat) 0) 390 ((0 : Int).toNat) 0) 400 ((0 : Int).toNat) 0) 376 9 0) 376 17 0) 376 6 0) 376 8 ((-1))) 376 8 = (-1) := rfl
  have es13020 : (yup (yup (yup (yup (yup (yup (yup (yup (yup (yup (yup (yup (yup m 383 ((0 : Int).toNat) 0) 384 ((0 : Int).toNat) 0) 385 ((0 : Int).toNat) 0) 386 ((0 : Int).toNat) 0) 387 ((0 : Int).toNat) 0) 388 ((0 : Int).toNat) 1) 389 ((0 : Int).toNat) 0) 390 ((0 : Int).toNat) 0) 400 ((0 : Int).toNat) 0) 376 9 0) 376 17 0) 376 6 0) 376 8 ((-1))) 383 0 = 0 := rfl
  have es13021 : (yup (yup (yup (yup (yup (yup (yup (yup (yup (yup (yup (yup (yup m 383 ((0 : Int).toNat) 0) 384 ((0 : Int).toNat) 0) 385 ((0 : Int).toNat) 0) 386 ((0 : Int).toNat) 0) 387 ((0 : Int).toNat) 0) 388 ((0 : Int).toNat) 1) 389 ((0 : Int).toNat) 0) 390 ((0 : Int).toNat) 0) 400 ((0 : Int).toNat) 0) 376 9 0) 376 17 0) 376 6 0) 376 8 ((-1))) 384 0 = 0 := rfl
  have es13022 : (yup (yup (yup (yup (yup (yup (yup (yup (yup (yup (yup (yup (yup m 383 ((0 : Int).toNat) 0) 384 ((0 : Int).toNat) 0) 385 ((0 : Int).toNat) 0) 386 ((0 : Int).toNat) 0) 387 ((0 : Int).toNat) 0) 388 ((0 : Int).toNat) 1) 389 ((0 : Int).toNat) 0) 390 ((0 : Int).toNat) 0) 400 ((0 : Int).toNat) 0) 376 9 0) 376 17 0) 376 6 0) 376 8 ((-1))) 386 0 = 0 := rfl
  have es13023 : (yup (yup (yup (yup (yup (yup (yup (yup (yup (yup (yup (yup (yup m 383 ((0 : Int).toNat) 0) 384 ((0 : Int).toNat) 0) 385 ((0 : Int).toNat) 0) 386 ((0 : Int).toNat) 0) 387 ((0 : Int).toNat) 0) 388 ((0 : Int).toNat) 1) 389 ((0 : Int).toNat) 0) 390 ((0 : Int).toNat) 0) 400 ((0 : Int).toNat) 0) 376 9 0) 376 17 0) 376 6 0) 376 8 ((-1))) 387 0 = 0 := rfl
  have es13024 : (yup (yup (yup (yup (yup (yup (yup (yup (yup (yup (yup (yup (yup m 383 ((0 : Int).toNat) 0) 384 ((0 : Int).toNat) 0) 385 ((0 : Int).toNat) 0) 386 ((0 : Int).toNat) 0) 387 ((0 : Int).toNat) 0) 388 ((0 : Int).toNat) 1) 389 ((0 : Int).toNat) 0) 390 ((0 : Int).toNat) 0) 400 ((0 : Int).toNat) 0) 376 9 0) 376 17 0) 376 6 0) 376 8 ((-1))) 388 0 = 1 := rfl
  have es13025 : (yup (yup (yup (yup (yup (yup (yup (yup (yup (yup (yup (yup (yup m 383 ((0 : Int).toNat) 0) 384 ((0 : Int).toNat) 0) 385 ((0 : Int).toNat) 0) 386 ((0 : Int).toNat) 0) 387 ((0 : Int).toNat) 0) 388 ((0 : Int).toNat) 1) 389 ((0 : Int).toNat) 0) 390 ((0 : Int).toNat) 0) 400 ((0 : Int).toNat) 0) 376 9 0) 376 17 0) 376 6 0) 376 8 ((-1))) 390 0 = 0 := rfl
  have es13026 : (yup (yup (yup (yup (yup (yup (yup (yup (yup (yup (yup (yup (yup m 383 ((0 : Int).toNat) 0) 384 ((0 : Int).toNat) 0) 385 ((0 : Int).toNat) 0) 386 ((0 : Int).toNat) 0) 387 ((0 : Int).toNat) 0) 388 ((0 : Int).toNat) 1) 389 ((0 : Int).toNat) 0) 390 ((0 : Int).toNat) 0) 400 ((0 : Int).toNat) 0) 376 9 0) 376 17 0) 376 6 0) 376 8 ((-1))) 400 0 = 0 := rfl
  exact t152b_0 hT13011 (by omega) (by omega) (by rcases hI with q | q; exact Or.inl (by omega); exact Or.inr (q.fr hT (by decide) (fun a q ha => ((yup_ne (by rintro ⟨rfl, rfl⟩; simp [vGq] at ha)).trans ((yup_ne (by rintro ⟨rfl, rfl⟩; simp [vGq] at ha)).trans ((yup_ne (by rintro ⟨rfl, rfl⟩; simp [vGq] at ha)).trans ((yup_ne (by rintro ⟨rfl, rfl⟩; simp [vGq] at ha)).trans ((yup_ne (by rintro ⟨rfl, rfl⟩; simp [vGq] at ha)).trans ((yup_ne (by rintro ⟨rfl, rfl⟩; simp [vGq] at ha)).trans ((yup_ne (by rintro ⟨rfl, rfl⟩; simp [vGq] at ha)).trans ((yup_ne (by rintro ⟨rfl, rfl⟩; simp [vGq] at ha)).trans ((yup_ne (by rintro ⟨rfl, rfl⟩; simp [vGq] at ha)).trans ((yup_ne (by rintro ⟨rfl, rfl⟩; simp [vGq] at ha)).trans ((yup_ne (by rintro ⟨rfl, rfl⟩; simp [vGq] at ha)).trans ((yup_ne (by rintro ⟨rfl, rfl⟩; simp [vGq] at ha)).trans (yup_ne (by rintro ⟨rfl, rfl⟩; simp [vGq] at ha))))))))))))))))) hF13012 (by omega) (by omega) (by omega) (by omega) (by omega) (by omega) (by omega) (by omega) (by omega) (by omega)
theorem wSe1_wML : ∀ a q, wSe1 a q = true → wML a q = true := wML_of (fun a q h => by simp [wSe1, wS41, wS21, wS31] at h; omega)
theorem wCs1_wML : ∀ a q, wCs1 a q = true → wML a q = true := wML_of (fun a q h => by simp [wCs1, wBd1, wSt1, wHm1, wFm1, wMh1] at h; omega)
theorem wSe1_G : ∀ a q, vGq 0 a q = true → wSe1 a q = false := by
  intro a q h
  cases e : wSe1 a q with
  | false => rfl
  | true => simp [wSe1, wS41, wS21, wS31] at e; simp [vGq] at h; omega
theorem wCs1_G : ∀ a q, vGq 0 a q = true → wCs1 a q = false := by
  intro a q h
  cases e : wCs1 a q with
  | false => rfl
  | true => simp [wCs1, wBd1, wSt1, wHm1, wFm1, wMh1] at e; simp [vGq] at h; omega
set_option maxRecDepth 100000 in
theorem t152c_1 {L : Nat} {xs : Nat → Int32} {d nn : Nat} {m : yM} {m0 : yM} (hT : Ty gT m) (hn : m 376 18 = 0) (h40 : m 400 (12 * 1) = 0) (hI : m 376 19 = 0 ∨ GQ 0 m) (hF0 : Fr wML m0 m) (hw : 0 ≤ m 376 8 ∨ (m 376 8 < 0 ∧ XD 1 m ∧ m 390 1 ≤ 2 * m 376 9 + m 384 1 ∧ 1 ≤ m 383 1 ∧ MX 1 m (m 384 1) (m 390 1 - 1))) : YW (gZ L xs) 152 (d + 13) 120 [some (.ref 376), some (yI 1), none, none] [] m nn (qMd nn m0) := by
  have tb8 := hT.atp 376 8 (-1) 320 rfl
  have tb9 := hT.atp 376 9 0 40 rfl
  have tb19 := hT.atp 376 19 0 1 rfl
  have tb4 := hT.atp 384 1 0 10 rfl
  refine y_aload 121 c152_120 rfl rfl rfl ?_
  refine y_getX 124 (m 376 8) c152_121 rfl kf376_8 rfl ?_
  refine y_if 132 127 c152_124 rfl rfl (yz_ge (by omega)) (fun hb13027 => ?_) (fun hb13027 => ?_)
  · refine y_aload 133 c152_132 rfl rfl rfl ?_
    refine y_aload 134 c152_133 rfl rfl rfl ?_
    refine y_getX 137 (m 376 8) c152_134 rfl kf376_8 rfl ?_
    refine y_putI 140 c152_137 rfl kf376_2 (y_fit0 _) ?_
    have hT13028 := hT.up 376 2 (m 376 8) ((-2147483648)) 2147483647 rfl (by omega)
    have hF13029 := hF0.up 376 2 (m 376 8) rfl
    refine y_aload 141 c152_140 rfl rfl rfl ?_
    refine y_aload 142 c152_141 rfl rfl rfl ?_
    refine y_getX 145 (m 376 8) c152_142 rfl kf376_8 rfl ?_
    refine y_if 152 148 c152_145 rfl rfl (yz_ge (by omega)) (fun hb13030 => ?_) (fun hb13030 => ?_)
    · refine y_iconst 153 c152_152 rfl ?_
      refine y_iconst 154 c152_153 rfl ?_
      refine y_inlB 157 [.ref 376, yI 0, yI 1] [] [some (.ref 376), some (yI 0), some (yI 1)] c152_154 rfl rfl rfl rfl rfl (ycanO km23 ko376) kn23 rfl rfl ?_
      refine y_aload 1 c23_0 rfl rfl rfl ?_
      refine y_iload 2 c23_1 rfl rfl ?_
      refine y_if 9 5 c23_2 rfl rfl (yz_eq (by omega)) (fun hb13031 => ?_) (fun hb13031 => ?_)
      · refine y_iload 10 c23_9 rfl rfl ?_
        refine y_putI 13 c23_10 rfl kf376_57 (y_fit0 _) ?_
        have hT13032 := hT13028.up 376 57 1 0 4 rfl (by omega)
        have hF13033 := hF13029.up 376 57 1 rfl
        refine y_iload 14 c23_13 rfl rfl ?_
        refine y_ireturnK c23_14 (y_fit1 (by omega)) ?_
        refine y_if 162 160 c152_157 rfl rfl (yz_ne (by omega)) (fun hb13034 => ?_) (fun hb13034 => ?_)
        · exfalso; omega
        · refine y_iconst 161 c152_160 rfl ?_
          have es13035 : (yup (yup m 376 2 (m 376 8)) 376 57 1) 376 18 = m 376 18 := rfl
          have tb13036 := hT.atp 376 18 0 1 rfl
          have es13037 : (yup (yup m 376 2 (m 376 8)) 376 57 1) 376 19 = m 376 19 := rfl
          refine y_ireturn c152_161 (y_fit0 _) ⟨_, rfl, rfl, hF13033, hT13032, ?_⟩
          rcases hI with q | q
          · exact Or.inl (by omega)
          · exact Or.inr (Or.inl ⟨by omega, q.fr hT (by decide) (fun a q ha => ((yup_ne (by rintro ⟨rfl, rfl⟩; simp [vGq] at ha)).trans (yup_ne (by rintro ⟨rfl, rfl⟩; simp [vGq] at ha))))⟩)
      · exfalso; omega
    · exfalso; omega
  · refine y_aload 128 c152_127 rfl rfl rfl ?_
    refine y_iload 129 c152_128 rfl rfl ?_
    obtain ⟨hw1, hw2, hw3, hw4, hw5⟩ := hw.resolve_left (by omega)
    refine y_callUB 132 [.ref 376, yI 1] [] c152_129 rfl rfl rfl rfl rfl (ycanO km141 ko376) (t141_1 hT hw2 hw4 h40 (by omega) hw5) (fun mq13038 nq13038 hq13038 => ?_)
    obtain ⟨rfl, hTq13038, hFq13038, hq13038⟩ := hq13038
    have t8q13038 := hTq13038.atp 376 8 (-1) 320 rfl
    have hF13039 := hF0.tr hFq13038 wSe1_wML
    refine y_aload 133 c152_132 rfl rfl rfl ?_
    refine y_aload 134 c152_133 rfl rfl rfl ?_
    refine y_getX 137 (mq13038 376 8) c152_134 rfl kf376_8 rfl ?_
    refine y_putI 140 c152_137 rfl kf376_2 (y_fit0 _) ?_
    have hT13040 := hTq13038.up 376 2 (mq13038 376 8) ((-2147483648)) 2147483647 rfl (by omega)
    have hF13041 := hF13039.up 376 2 (mq13038 376 8) rfl
    refine y_aload 141 c152_140 rfl rfl rfl ?_
    refine y_aload 142 c152_141 rfl rfl rfl ?_
    refine y_getX 145 (mq13038 376 8) c152_142 rfl kf376_8 rfl ?_
    refine y_if 152 148 c152_145 rfl rfl (yz_ge (by omega)) (fun hb13042 => ?_) (fun hb13042 => ?_)
    · refine y_iconst 153 c152_152 rfl ?_
      refine y_iconst 154 c152_153 rfl ?_
      refine y_inlB 157 [.ref 376, yI 0, yI 1] [] [some (.ref 376), some (yI 0), some (yI 1)] c152_154 rfl rfl rfl rfl rfl (ycanO km23 ko376) kn23 rfl rfl ?_
      refine y_aload 1 c23_0 rfl rfl rfl ?_
      refine y_iload 2 c23_1 rfl rfl ?_
      refine y_if 9 5 c23_2 rfl rfl (yz_eq (by omega)) (fun hb13043 => ?_) (fun hb13043 => ?_)
      · refine y_iload 10 c23_9 rfl rfl ?_
        refine y_putI 13 c23_10 rfl kf376_57 (y_fit0 _) ?_
        have hT13044 := hT13040.up 376 57 1 0 4 rfl (by omega)
        have hF13045 := hF13041.up 376 57 1 rfl
        refine y_iload 14 c23_13 rfl rfl ?_
        refine y_ireturnK c23_14 (y_fit1 (by omega)) ?_
        refine y_if 162 160 c152_157 rfl rfl (yz_ne (by omega)) (fun hb13046 => ?_) (fun hb13046 => ?_)
        · exfalso; omega
        · refine y_iconst 161 c152_160 rfl ?_
          have es13047 : (yup (yup mq13038 376 2 (mq13038 376 8)) 376 57 1) 376 18 = m 376 18 := ((yup_nk (by decide)).trans ((yup_nk (by decide)).trans (hFq13038 376 18 rfl)))
          have tb13048 := hT.atp 376 18 0 1 rfl
          have es13049 : (yup (yup mq13038 376 2 (mq13038 376 8)) 376 57 1) 376 19 = m 376 19 := ((yup_nk (by decide)).trans ((yup_nk (by decide)).trans (hFq13038 376 19 rfl)))
          refine y_ireturn c152_161 (y_fit0 _) ⟨_, rfl, rfl, hF13045, hT13044, ?_⟩
          rcases hI with q | q
          · exact Or.inl (by omega)
          · exact Or.inr (Or.inl ⟨by omega, q.fr hT (by decide) (fun a q ha => ((yup_ne (by rintro ⟨rfl, rfl⟩; simp [vGq] at ha)).trans ((yup_ne (by rintro ⟨rfl, rfl⟩; simp [vGq] at ha)).trans (hFq13038 a q (wSe1_G a q ha)))))⟩)
      · exfalso; omega
    · refine y_iconst 149 c152_148 rfl ?_
      refine y_goto 153 c152_149 rfl ?_
      refine y_iconst 154 c152_153 rfl ?_
      refine y_inlB 157 [.ref 376, yI 1, yI 1] [] [some (.ref 376), some (yI 1), some (yI 1)] c152_154 rfl rfl rfl rfl rfl (ycanO km23 ko376) kn23 rfl rfl ?_
      refine y_aload 1 c23_0 rfl rfl rfl ?_
      refine y_iload 2 c23_1 rfl rfl ?_
      refine y_if 9 5 c23_2 rfl rfl (yz_eq (by omega)) (fun hb13050 => ?_) (fun hb13050 => ?_)
      · exfalso; omega
      · refine y_iconst 6 c23_5 rfl ?_
        refine y_goto 10 c23_6 rfl ?_
        refine y_putI 13 c23_10 rfl kf376_57 (y_fit0 _) ?_
        have hT13051 := hT13040.up 376 57 0 0 4 rfl (by omega)
        have hF13052 := hF13041.up 376 57 0 rfl
        refine y_iload 14 c23_13 rfl rfl ?_
        refine y_ireturnK c23_14 (y_fit1 (by omega)) ?_
        refine y_if 162 160 c152_157 rfl rfl (yz_ne (by omega)) (fun hb13053 => ?_) (fun hb13053 => ?_)
        · refine y_aload 163 c152_162 rfl rfl rfl ?_
          refine y_iload 164 c152_163 rfl rfl ?_
          refine y_putI 167 c152_164 rfl kf376_18 (y_fit0 _) ?_
          have hT13054 := hT13051.up 376 18 1 0 1 rfl (by omega)
          have hF13055 := hF13052.up 376 18 1 rfl
          refine y_aload 168 c152_167 rfl rfl rfl ?_
          refine y_iconst 169 c152_168 rfl ?_
          refine y_putI 172 c152_169 rfl kf376_19 (y_fit1 (by omega)) ?_
          have hT13056 := hT13054.up 376 19 1 0 1 rfl (by omega)
          have hF13057 := hF13055.up 376 19 1 rfl
          refine y_aload 173 c152_172 rfl rfl rfl ?_
          refine y_iconst 174 c152_173 rfl ?_
          refine y_putI 177 c152_174 rfl kf376_51 (y_fit0 _) ?_
          have hT13058 := hT13056.up 376 51 0 0 30 rfl (by omega)
          have hF13059 := hF13057.up 376 51 0 rfl
          refine y_iconst 178 c152_177 rfl ?_
          refine y_istore 179 c152_178 rfl rfl ?_
          refine t152s hT13058 (fun z2 mz hTmz hFmz => ?_) 576 0 _ (by omega) (by omega) hT13058 Fr.rf
          have hF13060 := hF13059.tr hFmz (wRo_wML (by decide))
          refine y_aload 200 c152_199 rfl rfl rfl ?_
          have es13062 : mz 376 18 = 1 := ((hFmz 376 18 rfl).trans ((yup_nk (by decide)).trans ((yup_nk (by decide)).trans (yup_eq _ _ _ _))))
          have hg : GQ 1 mz := ((hq13038.resolve_left (by omega)).2).fr hTq13038 (by decide) (fun a q ha => ((hFmz a q (wRo_G8 a q ha)).trans ((yup_ne (by rintro ⟨rfl, rfl⟩; simp [vGq] at ha)).trans ((yup_ne (by rintro ⟨rfl, rfl⟩; simp [vGq] at ha)).trans ((yup_ne (by rintro ⟨rfl, rfl⟩; simp [vGq] at ha)).trans ((yup_ne (by rintro ⟨rfl, rfl⟩; simp [vGq] at ha)).trans (yup_ne (by rintro ⟨rfl, rfl⟩; simp [vGq] at ha))))))))
          refine y_callUB 203 [.ref 376] [] c152_200 rfl rfl rfl rfl rfl (ycanO km151 ko376) (t151_1 hTmz (by omega) hg) (fun mq13061 nq13061 hq13061 => ?_)
          obtain ⟨rfl, hTq13061, hFq13061⟩ := hq13061
          have hF13063 := hF13060.tr hFq13061 wAz_wML
          refine y_iconst 204 c152_203 rfl ?_
          refine y_istore 205 c152_204 rfl rfl ?_
          refine y_iconst 206 c152_205 rfl ?_
          refine y_istore 207 c152_206 rfl rfl ?_
          have es13064 : mq13061 376 18 = 1 := ((hFq13061 376 18 rfl).trans ((hFmz 376 18 rfl).trans ((yup_nk (by decide)).trans ((yup_nk (by decide)).trans (yup_eq _ _ _ _)))))
          have es13065 : mq13061 376 19 = 1 := ((hFq13061 376 19 rfl).trans ((hFmz 376 19 rfl).trans ((yup_nk (by decide)).trans (yup_eq _ _ _ _))))
          have hg2 : GQ 1 mq13061 := hg.fr hTmz (by decide) (fun a q ha => hFq13061 a q (wAz_G a q ha))
          exact t152n hTq13061 (fun r hr => ⟨r, rfl, rfl, hF13063, hTq13061, Or.inr (Or.inr ⟨by omega, hg2⟩)⟩) 576 0 0 (by omega) (by omega) (by omega)
        · exfalso; omega
theorem wCs1_400 : wCs1 400 (12 * 1) = false := by decide
set_option maxRecDepth 100000 in
theorem t152x_1 {L : Nat} {xs : Nat → Int32} {d nn : Nat} {m : yM} {m0 : yM} (hT : Ty gT m) (hn : m 376 18 = 0) (h40 : m 400 (12 * 1) = 0) (hI : m 376 19 = 0 ∨ GQ 0 m) (hF0 : Fr wML m0 m) {mi : yM} (hTi : Ty gT mi) (hFi : Fr wCs1 m mi) (hw : 0 ≤ mi 376 8) : YW (gZ L xs) 152 (d + 13) 99 [some (.ref 376), some (yI 1), none, none] [] mi nn (qMd nn m0) := by
  have tb8 := hTi.atp 376 8 (-1) 320 rfl
  have em18 : mi 376 18 = m 376 18 := hFi 376 18 rfl
  refine y_aload 100 c152_99 rfl rfl rfl ?_
  refine y_getX 103 (mi 376 8) c152_100 rfl kf376_8 rfl ?_
  refine y_if 120 106 c152_103 rfl rfl (yz_ge (by omega)) (fun hb => ?_) (fun hb => ?_)
  · exact t152c_1 hTi (by omega) ((hFi 400 _ wCs1_400).trans h40) (by rcases hI with q | q; exact Or.inl ((hFi 376 19 rfl).trans q); exact Or.inr (q.fr hT (by decide) (fun a q ha => hFi a q (wCs1_G a q ha)))) (hF0.tr hFi wCs1_wML) (Or.inl hw)
  · exfalso; omega
set_option maxRecDepth 100000 in
theorem t152a_1 {L : Nat} {xs : Nat → Int32} {d nn : Nat} {m : yM} {m0 : yM} (hT : Ty gT m) (hn : m 376 18 = 0) (h40 : m 400 (12 * 1) = 0) (hI : m 376 19 = 0 ∨ GQ 0 m) (hF0 : Fr wML m0 m) (hl : m 376 6 ≤ m 376 1) : ∀ (k : Nat) (mi : yM), mu mi = k → Ty gT mi → Fr wCs1 m mi → mi 376 6 ≤ mi 376 1 → (0 ≤ mi 376 8 ∨ (mi 376 8 < 0 ∧ XD 1 mi ∧ mi 390 1 ≤ 2 * mi 376 9 + mi 384 1 ∧ 1 ≤ mi 383 1 ∧ MX 1 mi (mi 384 1) (mi 390 1 - 1))) → YW (gZ L xs) 152 (d + 13) 99 [some (.ref 376), some (yI 1), none, none] [] mi nn (qMd nn m0) := by
  intro k
  induction k using Nat.strongRecOn with
  | ind k ih =>
    intro mi hk hTi hFi hli hw
    have tb8 := hTi.atp 376 8 (-1) 320 rfl
    have em18 : mi 376 18 = m 376 18 := hFi 376 18 rfl
    have em1 : mi 376 1 = m 376 1 := hFi 376 1 rfl
    refine y_aload 100 c152_99 rfl rfl rfl ?_
    refine y_getX 103 (mi 376 8) c152_100 rfl kf376_8 rfl ?_
    refine y_if 120 106 c152_103 rfl rfl (yz_ge (by omega)) (fun hb13066 => ?_) (fun hb13066 => ?_)
    · exact t152c_1 hTi (by omega) ((hFi 400 _ wCs1_400).trans h40) (by rcases hI with q | q; exact Or.inl ((hFi 376 19 rfl).trans q); exact Or.inr (q.fr hT (by decide) (fun a q ha => hFi a q (wCs1_G a q ha)))) (hF0.tr hFi wCs1_wML) hw
    · refine y_aload 107 c152_106 rfl rfl rfl ?_
      refine y_getX 110 (mi 376 3) c152_107 rfl kf376_3 rfl ?_
      have tb13067 := hTi.atp 376 3 0 3 rfl
      refine y_if 120 113 c152_110 rfl rfl (yz_eq (by omega)) (fun hb13068 => ?_) (fun hb13068 => ?_)
      · exact t152c_1 hTi (by omega) ((hFi 400 _ wCs1_400).trans h40) (by rcases hI with q | q; exact Or.inl ((hFi 376 19 rfl).trans q); exact Or.inr (q.fr hT (by decide) (fun a q ha => hFi a q (wCs1_G a q ha)))) (hF0.tr hFi wCs1_wML) hw
      · refine y_aload 114 c152_113 rfl rfl rfl ?_
        have es13070 : mi 376 1 = m 376 1 := (hFi 376 1 rfl)
        have tb13071 := hT.atp 376 1 0 320 rfl
        have tb13072 := hTi.atp 376 6 0 320 rfl
        have es13073 : mi 376 18 = m 376 18 := (hFi 376 18 rfl)
        have tb13074 := hT.atp 376 18 0 1 rfl
        refine y_callUB 117 [.ref 376] [] c152_114 rfl rfl rfl rfl rfl (ycanO km140 ko376) (t140_1 hTi (by omega) (by omega) (by omega) (hw.resolve_left (by omega)).2.1 (hw.resolve_left (by omega)).2.2.1 (hw.resolve_left (by omega)).2.2.2.2) (fun mq13069 nq13069 hq13069 => ?_)
        obtain ⟨rfl, hTq13069, hFq13069, hlq13069, hq13069⟩ := hq13069
        have x1q13069 : mq13069 376 1 = m 376 1 := ((hFq13069 376 1 rfl).trans (hFi 376 1 rfl))
        have hF13075 := hFi.tr hFq13069 (fun _ _ e => e)
        refine y_goto 99 c152_117 rfl ?_
        rcases hq13069 with q | q
        · have hlo := mu_lo hlq13069
          exact t152x_1 hT hn h40 hI hF0 hTq13069 hF13075 q
        · have hlo := mu_lo hlq13069
          exact ih (mu mq13069).toNat (by omega) _ (by omega) hTq13069 hF13075 hlq13069 (Or.inr ⟨q.1, q.2.2.1, q.2.2.2.1, q.2.2.2.2.1, q.2.2.2.2.2⟩)
set_option maxRecDepth 100000 in
theorem t152b_1 {L : Nat} {xs : Nat → Int32} {d nn : Nat} {m : yM} {m0 : yM} (hT : Ty gT m) (hn : m 376 18 = 0) (h40 : m 400 (12 * 1) = 0) (hI : m 376 19 = 0 ∨ GQ 0 m) (hF0 : Fr wML m0 m) (h9 : m 376 9 = 0) (h17 : m 376 17 = 0) (h6 : m 376 6 = 0) (h8 : m 376 8 = -1) (h83 : m 383 1 = 0) (h84 : m 384 1 = 0) (h86 : m 386 1 = 0) (h87 : m 387 1 = 0) (h88 : m 388 1 = 1) (h90 : m 390 1 = 0) : YW (gZ L xs) 152 (d + 13) 91 [some (.ref 376), some (yI 1), none, none] [] m nn (qMd nn m0) := by
  have tb1 := hT.atp 376 1 0 320 rfl
  have hl : m 376 6 ≤ m 376 1 := by omega
  have hF : Fr wCs1 m m := Fr.rf
  have hx0 : XD 1 m := ⟨⟨fun o ho => by omega, fun o ho => by omega, fun o ho => by omega, fun i j _ hj => by omega⟩, fun o ho => by omega, fun i hi => by omega, fun k hk => by omega, ⟨fun o ho => by omega, fun o ho => by omega⟩, by omega, by omega, fun c hc => by omega, fun o ho => by omega⟩
  refine y_aload 92 c152_91 rfl rfl rfl ?_
  have tb13077 := hT.atp 376 1 0 320 rfl
  have tb13078 := hT.atp 376 3 0 3 rfl
  have tb13079 := hT.atp 376 6 0 320 rfl
  have tb13080 := hT.atp 376 8 ((-1)) 320 rfl
  refine y_callUB 95 [.ref 376] [] c152_92 rfl rfl rfl rfl rfl (ycanO km99 ko376) (t99u hT (by omega)) (fun mq13076 nq13076 hq13076 => ?_)
  obtain ⟨rfl, hTq13076, hFq13076, hq13076⟩ := hq13076
  have x1q13076 : mq13076 376 1 = m 376 1 := (hFq13076 376 1 rfl)
  have hF13081 := hF.tr hFq13076 wNx_wCs1
  have es13082 : mq13076 376 1 = m 376 1 := (hFq13076 376 1 rfl)
  have tb13083 := hTq13076.atp 376 3 0 3 rfl
  have tb13084 := hTq13076.atp 376 6 0 320 rfl
  have es13085 : mq13076 376 8 = m 376 8 := (hFq13076 376 8 rfl)
  have es13086 : mq13076 390 1 = m 390 1 := (hFq13076 390 1 rfl)
  have tb13087 := hT.atp 390 1 0 125 rfl
  have es13088 : mq13076 384 1 = m 384 1 := (hFq13076 384 1 rfl)
  have tb13089 := hT.atp 384 1 0 10 rfl
  have es13090 : mq13076 376 9 = m 376 9 := (hFq13076 376 9 rfl)
  have tb13091 := hT.atp 376 9 0 40 rfl
  have hxd : XD 1 mq13076 := hx0.fw hFq13076 wNx_C
  have hcb : mq13076 390 1 ≤ 2 * mq13076 376 9 + mq13076 384 1 := by omega
  refine y_aload 96 c152_95 rfl rfl rfl ?_
  have es13093 : mq13076 376 1 = m 376 1 := (hFq13076 376 1 rfl)
  have es13094 : mq13076 376 8 = m 376 8 := (hFq13076 376 8 rfl)
  have es13095 : mq13076 376 18 = m 376 18 := (hFq13076 376 18 rfl)
  have tb13096 := hT.atp 376 18 0 1 rfl
  refine y_callUB 99 [.ref 376] [] c152_96 rfl rfl rfl rfl rfl (ycanO km140 ko376) (t140_1 hTq13076 (by omega) (by omega) (by omega) hxd hcb (fun i hi => by omega)) (fun mq13092 nq13092 hq13092 => ?_)
  obtain ⟨rfl, hTq13092, hFq13092, hlq13092, hq13092⟩ := hq13092
  have x1q13092 : mq13092 376 1 = m 376 1 := ((hFq13092 376 1 rfl).trans (hFq13076 376 1 rfl))
  have hF13097 := hF13081.tr hFq13092 (fun _ _ e => e)
  have hlo := mu_lo hlq13092
  exact t152a_1 hT hn h40 hI hF0 hl (mu mq13092).toNat _ (by omega) hTq13092 hF13097 hlq13092 (by rcases hq13092 with q | q; exact Or.inl q; exact Or.inr ⟨q.1, q.2.2.1, q.2.2.2.1, q.2.2.2.2.1, q.2.2.2.2.2⟩)
set_option maxRecDepth 100000 in
theorem t152_1 {L : Nat} {xs : Nat → Int32} {d nn : Nat} {m : yM} (hT : Ty gT m) (hn : m 376 18 = 0) (hI : m 376 19 = 0 ∨ GQ 0 m) : YC (gZ L xs) (d + 13) 152 [.ref 376] m nn (qMd nn m) := by
  refine YC.mkB [some (.ref 376), none, none, none] kn152 rfl rfl ?_
  have hF : Fr wML m m := Fr.rf
  refine y_aload 1 c152_0 rfl rfl rfl ?_
  have tb13099 := hT.atp 376 18 0 1 rfl
  refine y_callP 4 [.ref 376] [] c152_1 rfl rfl rfl rfl rfl (ycanO km96 ko376) (t96_1 (by omega)) (fun r13098 hr13098 => ?_)
  subst hr13098
  refine y_istore 5 c152_4 rfl rfl ?_
  refine y_aload 6 c152_5 rfl rfl rfl ?_
  refine y_getR 9 c152_6 rfl kf376_20 ?_
  refine y_iload 10 c152_9 rfl rfl ?_
  refine y_iconst 11 c152_10 rfl ?_
  refine y_iastore 12 c152_11 rfl ka383 (by omega) (y_nar0 _) ?_
  have hT13100 := hT.up 383 ((1 : Int).toNat) 0 0 6 rfl (by omega)
  have hF13101 := hF.up 383 ((1 : Int).toNat) 0 rfl
  refine y_aload 13 c152_12 rfl rfl rfl ?_
  refine y_getR 16 c152_13 rfl kf376_21 ?_
  refine y_iload 17 c152_16 rfl rfl ?_
  refine y_iconst 18 c152_17 rfl ?_
  refine y_iastore 19 c152_18 rfl ka384 (by omega) (y_nar0 _) ?_
  have hT13102 := hT13100.up 384 ((1 : Int).toNat) 0 0 10 rfl (by omega)
  have hF13103 := hF13101.up 384 ((1 : Int).toNat) 0 rfl
  refine y_aload 20 c152_19 rfl rfl rfl ?_
  refine y_getR 23 c152_20 rfl kf376_22 ?_
  refine y_iload 24 c152_23 rfl rfl ?_
  refine y_iconst 25 c152_24 rfl ?_
  refine y_iastore 26 c152_25 rfl ka385 (by omega) (y_nar0 _) ?_
  have hT13104 := hT13102.up 385 ((1 : Int).toNat) 0 0 8 rfl (by omega)
  have hF13105 := hF13103.up 385 ((1 : Int).toNat) 0 rfl
  refine y_aload 27 c152_26 rfl rfl rfl ?_
  refine y_getR 30 c152_27 rfl kf376_23 ?_
  refine y_iload 31 c152_30 rfl rfl ?_
  refine y_iconst 32 c152_31 rfl ?_
  refine y_iastore 33 c152_32 rfl ka386 (by omega) (y_nar0 _) ?_
  have hT13106 := hT13104.up 386 ((1 : Int).toNat) 0 0 12 rfl (by omega)
  have hF13107 := hF13105.up 386 ((1 : Int).toNat) 0 rfl
  refine y_aload 34 c152_33 rfl rfl rfl ?_
  refine y_getR 37 c152_34 rfl kf376_24 ?_
  refine y_iload 38 c152_37 rfl rfl ?_
  refine y_iconst 39 c152_38 rfl ?_
  refine y_iastore 40 c152_39 rfl ka387 (by omega) (y_nar0 _) ?_
  have hT13108 := hT13106.up 387 ((1 : Int).toNat) 0 0 8 rfl (by omega)
  have hF13109 := hF13107.up 387 ((1 : Int).toNat) 0 rfl
  refine y_aload 41 c152_40 rfl rfl rfl ?_
  refine y_getR 44 c152_41 rfl kf376_25 ?_
  refine y_iload 45 c152_44 rfl rfl ?_
  refine y_iconst 46 c152_45 rfl ?_
  refine y_iastore 47 c152_46 rfl ka388 (by omega) (y_nar0 _) ?_
  have hT13110 := hT13108.up 388 ((1 : Int).toNat) 1 0 12 rfl (by omega)
  have hF13111 := hF13109.up 388 ((1 : Int).toNat) 1 rfl
  refine y_aload 48 c152_47 rfl rfl rfl ?_
  refine y_getR 51 c152_48 rfl kf376_26 ?_
  refine y_iload 52 c152_51 rfl rfl ?_
  refine y_iconst 53 c152_52 rfl ?_
  refine y_iastore 54 c152_53 rfl ka389 (by omega) (y_nar0 _) ?_
  have hT13112 := hT13110.up 389 ((1 : Int).toNat) 0 0 48 rfl (by omega)
  have hF13113 := hF13111.up 389 ((1 : Int).toNat) 0 rfl
  refine y_aload 55 c152_54 rfl rfl rfl ?_
  refine y_getR 58 c152_55 rfl kf376_27 ?_
  refine y_iload 59 c152_58 rfl rfl ?_
  refine y_iconst 60 c152_59 rfl ?_
  refine y_iastore 61 c152_60 rfl ka390 (by omega) (y_nar0 _) ?_
  have hT13114 := hT13112.up 390 ((1 : Int).toNat) 0 0 125 rfl (by omega)
  have hF13115 := hF13113.up 390 ((1 : Int).toNat) 0 rfl
  refine y_aload 62 c152_61 rfl rfl rfl ?_
  refine y_getR 65 c152_62 rfl kf376_37 ?_
  refine y_iconst 67 c152_65 rfl ?_
  refine y_iload 68 c152_67 rfl rfl ?_
  refine y_imul 69 c152_68 rfl ?_
  refine y_top 12 (by decide) ?_
  refine y_iconst 70 c152_69 rfl ?_
  refine y_iastore 71 c152_70 rfl ka400 (by omega) (y_nar0 _) ?_
  have hT13116 := hT13114.up 400 ((12 : Int).toNat) 0 ((-2147483648)) 2147483647 rfl (by omega)
  have hF13117 := hF13115.up 400 ((12 : Int).toNat) 0 rfl
  refine y_aload 72 c152_71 rfl rfl rfl ?_
  refine y_iconst 73 c152_72 rfl ?_
  refine y_putI 76 c152_73 rfl kf376_9 (y_fit0 _) ?_
  have hT13118 := hT13116.up 376 9 0 0 40 rfl (by omega)
  have hF13119 := hF13117.up 376 9 0 rfl
  refine y_aload 77 c152_76 rfl rfl rfl ?_
  refine y_iconst 78 c152_77 rfl ?_
  refine y_putI 81 c152_78 rfl kf376_17 (y_fit0 _) ?_
  have hT13120 := hT13118.up 376 17 0 0 20 rfl (by omega)
  have hF13121 := hF13119.up 376 17 0 rfl
  refine y_aload 82 c152_81 rfl rfl rfl ?_
  refine y_iconst 83 c152_82 rfl ?_
  refine y_putI 86 c152_83 rfl kf376_6 (y_fit0 _) ?_
  have hT13122 := hT13120.up 376 6 0 0 320 rfl (by omega)
  have hF13123 := hF13121.up 376 6 0 rfl
  refine y_aload 87 c152_86 rfl rfl rfl ?_
  refine y_iconst 88 c152_87 rfl ?_
  refine y_putI 91 c152_88 rfl kf376_8 (y_fit0 _) ?_
  have hT13124 := hT13122.up 376 8 ((-1)) ((-1)) 320 rfl (by omega)
  have hF13125 := hF13123.up 376 8 ((-1)) rfl
  have es13126 : (yup (yup (yup (yup (yup (yup (yup (yup (yup (yup (yup (yup (yup m 383 ((1 : Int).toNat) 0) 384 ((1 : Int).toNat) 0) 385 ((1 : Int).toNat) 0) 386 ((1 : Int).toNat) 0) 387 ((1 : Int).toNat) 0) 388 ((1 : Int).toNat) 1) 389 ((1 : Int).toNat) 0) 390 ((1 : Int).toNat) 0) 400 ((12 : Int).toNat) 0) 376 9 0) 376 17 0) 376 6 0) 376 8 ((-1))) 376 18 = m 376 18 := rfl
  have es13127 : (yup (yup (yup (yup (yup (yup (yup (yup (yup (yup (yup (yup (yup m 383 ((1 : Int).toNat) 0) 384 ((1 : Int).toNat) 0) 385 ((1 : Int).toNat) 0) 386 ((1 : Int).toNat) 0) 387 ((1 : Int).toNat) 0) 388 ((1 : Int).toNat) 1) 389 ((1 : Int).toNat) 0) 390 ((1 : Int).toNat) 0) 400 ((12 : Int).toNat) 0) 376 9 0) 376 17 0) 376 6 0) 376 8 ((-1))) 376 19 = m 376 19 := rfl
  have tb13128 := hT.atp 376 19 0 1 rfl
  have es13129 : (yup (yup (yup (yup (yup (yup (yup (yup (yup (yup (yup (yup (yup m 383 ((1 : Int).toNat) 0) 384 ((1 : Int).toNat) 0) 385 ((1 : Int).toNat) 0) 386 ((1 : Int).toNat) 0) 387 ((1 : Int).toNat) 0) 388 ((1 : Int).toNat) 1) 389 ((1 : Int).toNat) 0) 390 ((1 : Int).toNat) 0) 400 ((12 : Int).toNat) 0) 376 9 0) 376 17 0) 376 6 0) 376 8 ((-1))) 376 9 = 0 := rfl
  have es13130 : (yup (yup (yup (yup (yup (yup (yup (yup (yup (yup (yup (yup (yup m 383 ((1 : Int).toNat) 0) 384 ((1 : Int).toNat) 0) 385 ((1 : Int).toNat) 0) 386 ((1 : Int).toNat) 0) 387 ((1 : Int).toNat) 0) 388 ((1 : Int).toNat) 1) 389 ((1 : Int).toNat) 0) 390 ((1 : Int).toNat) 0) 400 ((12 : Int).toNat) 0) 376 9 0) 376 17 0) 376 6 0) 376 8 ((-1))) 376 17 = 0 := rfl
  have es13131 : (yup (yup (yup (yup (yup (yup (yup (yup (yup (yup (yup (yup (yup m 383 ((1 : Int).toNat) 0) 384 ((1 : Int).toNat) 0) 385 ((1 : Int).toNat) 0) 386 ((1 : Int).toNat) 0) 387 ((1 : Int).toNat) 0) 388 ((1 : Int).toNat) 1) 389 ((1 : Int).toNat) 0) 390 ((1 : Int).toNat) 0) 400 ((12 : Int).toNat) 0) 376 9 0) 376 17 0) 376 6 0) 376 8 ((-1))) 376 6 = 0 := rfl
  have es13132 : (yup (yup (yup (yup (yup (yup (yup (yup (yup (yup (yup (yup (yup m 383 ((1 : Int).toNat) 0) 384 ((1 : Int).toNat) 0) 385 ((1 : Int).toNat) 0) 386 ((1 : Int).toNat) 0) 387 ((1 : Int).toNat) 0) 388 ((1 : Int).toNat) 1) 389 ((1 : Int).toNat) 0) 390 ((1 : Int).toNat) 0) 400 ((12 : Int).toNat) 0) 376 9 0) 376 17 0) 376 6 0) 376 8 ((-1))) 376 8 = (-1) := rfl
  have es13133 : (yup (yup (yup (yup (yup (yup (yup (yup (yup (yup (yup (yup (yup m 383 ((1 : Int).toNat) 0) 384 ((1 : Int).toNat) 0) 385 ((1 : Int).toNat) 0) 386 ((1 : Int).toNat) 0) 387 ((1 : Int).toNat) 0) 388 ((1 : Int).toNat) 1) 389 ((1 : Int).toNat) 0) 390 ((1 : Int).toNat) 0) 400 ((12 : Int).toNat) 0) 376 9 0) 376 17 0) 376 6 0) 376 8 ((-1))) 383 1 = 0 := rfl
  have es13134 : (yup (yup (yup (yup (yup (yup (yup (yup (yup (yup (yup (yup (yup m 383 ((1 : Int).toNat) 0) 384 ((1 : Int).toNat) 0) 385 ((1 : Int).toNat) 0) 386 ((1 : Int).toNat) 0) 387 ((1 : Int).toNat) 0) 388 ((1 : Int).toNat) 1) 389 ((1 : Int).toNat) 0) 390 ((1 : Int).toNat) 0) 400 ((12 : Int).toNat) 0) 376 9 0) 376 17 0) 376 6 0) 376 8 ((-1))) 384 1 = 0 := rfl
  have es13135 : (yup (yup (yup (yup (yup (yup (yup (yup (yup (yup (yup (yup (yup m 383 ((1 : Int).toNat) 0) 384 ((1 : Int).toNat) 0) 385 ((1 : Int).toNat) 0) 386 ((1 : Int).toNat) 0) 387 ((1 : Int).toNat) 0) 388 ((1 : Int).toNat) 1) 389 ((1 : Int).toNat) 0) 390 ((1 : Int).toNat) 0) 400 ((12 : Int).toNat) 0) 376 9 0) 376 17 0) 376 6 0) 376 8 ((-1))) 386 1 = 0 := rfl
  have es13136 : (yup (yup (yup (yup (yup (yup (yup (yup (yup (yup (yup (yup (yup m 383 ((1 : Int).toNat) 0) 384 ((1 : Int).toNat) 0) 385 ((1 : Int).toNat) 0) 386 ((1 : Int).toNat) 0) 387 ((1 : Int).toNat) 0) 388 ((1 : Int).toNat) 1) 389 ((1 : Int).toNat) 0) 390 ((1 : Int).toNat) 0) 400 ((12 : Int).toNat) 0) 376 9 0) 376 17 0) 376 6 0) 376 8 ((-1))) 387 1 = 0 := rfl
  have es13137 : (yup (yup (yup (yup (yup (yup (yup (yup (yup (yup (yup (yup (yup m 383 ((1 : Int).toNat) 0) 384 ((1 : Int).toNat) 0) 385 ((1 : Int).toNat) 0) 386 ((1 : Int).toNat) 0) 387 ((1 : Int).toNat) 0) 388 ((1 : Int).toNat) 1) 389 ((1 : Int).toNat) 0) 390 ((1 : Int).toNat) 0) 400 ((12 : Int).toNat) 0) 376 9 0) 376 17 0) 376 6 0) 376 8 ((-1))) 388 1 = 1 := rfl
  have es13138 : (yup (yup (yup (yup (yup (yup (yup (yup (yup (yup (yup (yup (yup m 383 ((1 : Int).toNat) 0) 384 ((1 : Int).toNat) 0) 385 ((1 : Int).toNat) 0) 386 ((1 : Int).toNat) 0) 387 ((1 : Int).toNat) 0) 388 ((1 : Int).toNat) 1) 389 ((1 : Int).toNat) 0) 390 ((1 : Int).toNat) 0) 400 ((12 : Int).toNat) 0) 376 9 0) 376 17 0) 376 6 0) 376 8 ((-1))) 390 1 = 0 := rfl
  have es13139 : (yup (yup (yup (yup (yup (yup (yup (yup (yup (yup (yup (yup (yup m 383 ((1 : Int).toNat) 0) 384 ((1 : Int).toNat) 0) 385 ((1 : Int).toNat) 0) 386 ((1 : Int).toNat) 0) 387 ((1 : Int).toNat) 0) 388 ((1 : Int).toNat) 1) 389 ((1 : Int).toNat) 0) 390 ((1 : Int).toNat) 0) 400 ((12 : Int).toNat) 0) 376 9 0) 376 17 0) 376 6 0) 376 8 ((-1))) 400 12 = 0 := rfl
  exact t152b_1 hT13124 (by omega) (by omega) (by rcases hI with q | q; exact Or.inl (by omega); exact Or.inr (q.fr hT (by decide) (fun a q ha => ((yup_ne (by rintro ⟨rfl, rfl⟩; simp [vGq] at ha)).trans ((yup_ne (by rintro ⟨rfl, rfl⟩; simp [vGq] at ha)).trans ((yup_ne (by rintro ⟨rfl, rfl⟩; simp [vGq] at ha)).trans ((yup_ne (by rintro ⟨rfl, rfl⟩; simp [vGq] at ha)).trans ((yup_ne (by rintro ⟨rfl, rfl⟩; simp [vGq] at ha)).trans ((yup_ne (by rintro ⟨rfl, rfl⟩; simp [vGq] at ha)).trans ((yup_ne (by rintro ⟨rfl, rfl⟩; simp [vGq] at ha)).trans ((yup_ne (by rintro ⟨rfl, rfl⟩; simp [vGq] at ha)).trans ((yup_ne (by rintro ⟨rfl, rfl⟩; simp [vGq] at ha)).trans ((yup_ne (by rintro ⟨rfl, rfl⟩; simp [vGq] at ha)).trans ((yup_ne (by rintro ⟨rfl, rfl⟩; simp [vGq] at ha)).trans ((yup_ne (by rintro ⟨rfl, rfl⟩; simp [vGq] at ha)).trans (yup_ne (by rintro ⟨rfl, rfl⟩; simp [vGq] at ha))))))))))))))))) hF13125 (by omega) (by omega) (by omega) (by omega) (by omega) (by omega) (by omega) (by omega) (by omega) (by omega)
end
section
/-! THE MODEL: a run -/
theorem MI.fr {m m' : yM} (h : MI m) (hT : Ty gT m') (e : ∀ a q, (a = 376 ∧ (q = 18 ∨ q = 19)) ∨ vGq 0 a q = true ∨ vGq 1 a q = true → m' a q = m a q) : MI m' := by
  obtain ⟨h0, h1⟩ := h
  refine ⟨hT, ?_⟩
  rw [e 376 19 (Or.inl ⟨rfl, Or.inr rfl⟩), e 376 18 (Or.inl ⟨rfl, Or.inl rfl⟩)]
  rcases h1 with q | ⟨q1, q2⟩ | ⟨q1, q2⟩
  · exact Or.inl q
  · exact Or.inr (Or.inl ⟨q1, q2.fr h0 (by decide) (fun a q ha => e a q (Or.inr (Or.inl ha)))⟩)
  · exact Or.inr (Or.inr ⟨q1, q2.fr h0 (by decide) (fun a q ha => e a q (Or.inr (Or.inr ha)))⟩)
def BRm (p : Nat) (m : yM) : Prop := ∀ f : Nat, 1 ≤ f → (f : Int) < m 376 54 → 0 ≤ m 412 f ∧ m 412 f < m 390 p ∧ m 403 (1000 * p + 8 * (m 412 f).toNat) = 7
def RN (p : Nat) (m : yM) : Prop := 1 ≤ m 376 54 ∧ m 376 55 < m 390 p ∧ m 376 57 = 0 ∧ m 376 56 ≤ 200 ∧ BRm p m
def rk (p : Nat) (m : yM) (o : Int) : Int := if m 403 (1000 * p + 8 * o.toNat) = 11 then (if o < m 403 (1000 * p + 8 * o.toNat + 3) then 126 - o else 1) else 0
def MR (p : Nat) (m : yM) : Int := (201 - m 376 56) * 1000 + m 376 54 * 200 + rk p m (m 376 55)
theorem rk_lo {p : Nat} {m : yM} {o : Int} (h : 0 ≤ o ∧ o ≤ 124) : 0 ≤ rk p m o ∧ rk p m o ≤ 126 := by
  unfold rk
  split
  · split <;> omega
  · omega
theorem rk_jump {p : Nat} {m : yM} {o t : Int} (h : 0 ≤ o ∧ o ≤ 124) (ho : m 403 (1000 * p + 8 * o.toNat) = 11) (ht : m 403 (1000 * p + 8 * o.toNat + 3) = t) (h0 : 0 ≤ t) (hj : o < t ∨ m 403 (1000 * p + 8 * t.toNat) = 10) : rk p m t < rk p m o := by
  unfold rk
  rw [if_pos ho, ht]
  by_cases q : o < t
  · rw [if_pos q]
    split
    · split <;> omega
    · omega
  · rw [if_neg q, if_neg (by omega)]
    omega
theorem rk_fr {p : Nat} {m m' : yM} {o : Int} (e : ∀ q, m' 403 q = m 403 q) : rk p m' o = rk p m o := by
  unfold rk
  rw [e, e]
def wGv (a _q : Nat) : Bool := a == 411 || a == 408
def wMk (a q : Nat) : Bool := (a == 376 && (q == 51 || q == 57)) || a == 409 || a == 410
def wPl (a q : Nat) : Bool := (a == 376 && (q == 51 || q == 57)) || decide (408 ≤ a ∧ a ≤ 411)
def wEn (a q : Nat) : Bool := (a == 376 && (q == 54 || q == 55 || q == 57)) || a == 408 || a == 411 || a == 412
def wRn (a q : Nat) : Bool := (a == 376 && (q == 51 || (decide (54 ≤ q) && decide (q ≤ 57)))) || decide (408 ≤ a ∧ a ≤ 412)
theorem wGv_wPl : ∀ a q, wGv a q = true → wPl a q = true := by
  intro a q h; simp [wGv] at h; simp [wPl]; omega
theorem wMk_wPl : ∀ a q, wMk a q = true → wPl a q = true := by
  intro a q h; simp [wMk] at h; simp [wPl]; omega
theorem wGv_wEn : ∀ a q, wGv a q = true → wEn a q = true := by
  intro a q h; simp [wGv] at h; simp [wEn]; omega
theorem wGv_wRn : ∀ a q, wGv a q = true → wRn a q = true := by
  intro a q h; simp [wGv] at h; simp [wRn]; omega
theorem wMk_wRn : ∀ a q, wMk a q = true → wRn a q = true := by
  intro a q h; simp [wMk] at h; simp [wRn]; omega
theorem wPl_wRn : ∀ a q, wPl a q = true → wRn a q = true := by
  intro a q h; simp [wPl] at h; simp [wRn]; omega
theorem wEn_wRn : ∀ a q, wEn a q = true → wRn a q = true := by
  intro a q h; simp [wEn] at h; simp [wRn]; omega
theorem wRo_wEn {R : Nat} (h : R = 411) : ∀ a q, wRo R a q = true → wEn a q = true := by
  intro a q e; simp [wRo] at e; simp [wEn]; omega
theorem wRo_wMk {R : Nat} (h : R = 410) : ∀ a q, wRo R a q = true → wMk a q = true := by
  intro a q e; simp [wRo] at e; simp [wMk]; omega
theorem wRn_wML : ∀ a q, wRn a q = true → wML a q = true := wML_of (fun a q h => by simp [wRn] at h; omega)
theorem wRn_G {p : Nat} : ∀ a q, vGq p a q = true → wRn a q = false := by
  intro a q h
  cases e : wRn a q with
  | false => rfl
  | true => simp [wRn] at e; simp [vGq] at h; omega
/-- what the variables and the fields hold was made; the objects are of the program's sites -/
def VX (p : Nat) (m : yM) : Prop := (∀ q : Nat, (q : Int) < 48 * m 376 54 → m 411 q ≤ m 376 51) ∧ (∀ q : Nat, (q : Int) < 8 * m 376 51 → m 410 q ≤ m 376 51) ∧ (∀ q : Nat, (q : Int) < m 376 51 → m 409 q < m 388 p)
section VXL
variable {p : Nat} {m m' : yM} {k a q : Nat} {x v : Int}
theorem VX.up1 (h : VX p m) (hx : x ≤ m 376 51) : VX p (yup m 411 k x) := by
  refine ⟨fun q hq => ?_, fun q hq => ?_, fun q hq => ?_⟩
  · rw [show yup m 411 k x 376 51 = m 376 51 from yup_na (by decide)]
    rw [show yup m 411 k x 376 54 = m 376 54 from yup_na (by decide)] at hq
    by_cases e : q = k
    · subst e; rw [yup_eq]; exact hx
    · rw [yup_nk e]; exact h.1 q hq
  · rw [yup_na (by decide)] at hq
    rw [yup_na (by decide), yup_na (by decide)]
    exact h.2.1 q hq
  · rw [yup_na (by decide)] at hq
    rw [yup_na (by decide), yup_na (by decide)]
    exact h.2.2 q hq
theorem VX.up0 (h : VX p m) (hx : x ≤ m 376 51) : VX p (yup m 410 k x) := by
  refine ⟨fun q hq => ?_, fun q hq => ?_, fun q hq => ?_⟩
  · rw [yup_na (by decide)] at hq
    rw [yup_na (by decide), yup_na (by decide)]
    exact h.1 q hq
  · rw [show yup m 410 k x 376 51 = m 376 51 from yup_na (by decide)]
    rw [show yup m 410 k x 376 51 = m 376 51 from yup_na (by decide)] at hq
    by_cases e : q = k
    · subst e; rw [yup_eq]; exact hx
    · rw [yup_nk e]; exact h.2.1 q hq
  · rw [yup_na (by decide)] at hq
    rw [yup_na (by decide), yup_na (by decide)]
    exact h.2.2 q hq
theorem VX.fr (h : VX p m) (e1 : m' 376 51 = m 376 51) (e4 : m' 376 54 ≤ m 376 54) (e8 : m' 388 p = m 388 p) (f1 : ∀ q, m' 411 q = m 411 q) (f0 : ∀ q, m' 410 q = m 410 q) (f9 : ∀ q, m' 409 q = m 409 q) : VX p m' := by
  refine ⟨fun q hq => ?_, fun q hq => ?_, fun q hq => ?_⟩
  · rw [f1, e1]; exact h.1 q (by omega)
  · rw [e1] at hq ⊢; rw [f0]; exact h.2.1 q hq
  · rw [e1] at hq; rw [f9, e8]; exact h.2.2 q hq
theorem VX.na (h : VX p m) (ha : a ≠ 376 ∧ a ≠ 388 ∧ a ≠ 409 ∧ a ≠ 410 ∧ a ≠ 411) : VX p (yup m a q v) := h.fr (yup_na (by omega)) (by rw [yup_na (by omega)]; exact Int.le_refl _) (yup_na (by omega)) (fun _ => yup_na (by omega)) (fun _ => yup_na (by omega)) (fun _ => yup_na (by omega))
theorem VX.sc (h : VX p m) (hq : q ≠ 51 ∧ q ≠ 54) : VX p (yup m 376 q v) := h.fr (yup_nk (by omega)) (by rw [yup_nk (by omega)]; exact Int.le_refl _) (yup_na (by decide)) (fun _ => yup_na (by decide)) (fun _ => yup_na (by decide)) (fun _ => yup_na (by decide))
theorem VX.dn (h : VX p m) (hv : v ≤ m 376 54) : VX p (yup m 376 54 v) := h.fr (yup_nk (by decide)) (by rw [yup_eq]; exact hv) (yup_na (by decide)) (fun _ => yup_na (by decide)) (fun _ => yup_na (by decide)) (fun _ => yup_na (by decide))
theorem VX.up1e (h : VX p m) {w : Int} (e : m 376 51 = w) (hx : x ≤ w) : VX p (yup m 411 k x) := h.up1 (e ▸ hx)
theorem VX.up0e (h : VX p m) {w : Int} (e : m 376 51 = w) (hx : x ≤ w) : VX p (yup m 410 k x) := h.up0 (e ▸ hx)
theorem VX.dne (h : VX p m) {w : Int} (e : m 376 54 = w) (hv : v ≤ w) : VX p (yup m 376 54 v) := h.dn (e ▸ hv)
theorem VX.ent (h : VX p m) (h0 : 0 ≤ m 376 51) (h54 : m' 376 54 = m 376 54 + 1) (h51 : m' 376 51 = m 376 51) (e8 : m' 388 p = m 388 p) (e1 : ∀ q : Nat, (q : Int) < 48 * m 376 54 → m' 411 q = m 411 q) (e2 : ∀ q : Nat, 48 * m 376 54 ≤ (q : Int) → (q : Int) < 48 * m 376 54 + 48 → m' 411 q = 0) (f0 : ∀ q, m' 410 q = m 410 q) (f9 : ∀ q, m' 409 q = m 409 q) : VX p m' := by
  refine ⟨fun q hq => ?_, fun q hq => ?_, fun q hq => ?_⟩
  · rw [h51]
    by_cases z : (q : Int) < 48 * m 376 54
    · rw [e1 q z]; exact h.1 q z
    · rw [e2 q (by omega) (by omega)]; exact h0
  · rw [h51] at hq ⊢; rw [f0]; exact h.2.1 q hq
  · rw [h51] at hq; rw [f9, e8]; exact h.2.2 q hq
theorem VX.mk (h : VX p m) (h0 : 0 ≤ m 376 51) (h51 : m' 376 51 = m 376 51 + 1) (h54 : m' 376 54 = m 376 54) (e8 : m' 388 p = m 388 p) (f1 : ∀ q, m' 411 q = m 411 q) (e1 : ∀ q : Nat, (q : Int) < 8 * m 376 51 → m' 410 q = m 410 q) (e2 : ∀ q : Nat, 8 * m 376 51 ≤ (q : Int) → (q : Int) < 8 * m 376 51 + 8 → m' 410 q = 0) (f9 : ∀ q, q ≠ (m 376 51).toNat → m' 409 q = m 409 q) (hs : m' 409 (m 376 51).toNat < m 388 p) : VX p m' := by
  refine ⟨fun q hq => ?_, fun q hq => ?_, fun q hq => ?_⟩
  · rw [h54] at hq; rw [f1, h51]; have := h.1 q hq; omega
  · rw [h51] at hq ⊢
    by_cases z : (q : Int) < 8 * m 376 51
    · rw [e1 q z]; have := h.2.1 q z; omega
    · rw [e2 q (by omega) (by omega)]; omega
  · rw [h51] at hq; rw [e8]
    by_cases z : q = (m 376 51).toNat
    · subst z; exact hs
    · rw [f9 q z]; exact h.2.2 q (by omega)
end VXL
def wLv (a q : Nat) : Bool := (a == 376 && (q == 54 || q == 55)) || a == 408 || a == 411
theorem wGv_wLv : ∀ a q, wGv a q = true → wLv a q = true := by
  intro a q h; simp [wGv] at h; simp [wLv]; omega
theorem wLv_wRn : ∀ a q, wLv a q = true → wRn a q = true := by
  intro a q h; simp [wLv] at h; simp [wRn]; omega
theorem wLv_G2 {p : Nat} : ∀ a q, vGq p a q = true → wLv a q = false := by
  intro a q h
  cases e : wLv a q with
  | false => rfl
  | true => simp [wLv] at e; simp [vGq] at h; omega
/-- the start -/
def FI (p : Nat) (m : yM) (r : Int) : Prop := 0 ≤ r ∧ r < m 384 p ∧ m 396 (10 * p + r.toNat) = 0 ∧ m 395 (10 * p + r.toNat) = 204 ∧ ∀ j : Nat, (j : Int) < r → ¬ (m 396 (10 * p + j) = 0 ∧ m 395 (10 * p + j) = 204)
def NF (p : Nat) (m : yM) : Prop := ∀ j : Nat, (j : Int) < m 384 p → ¬ (m 396 (10 * p + j) = 0 ∧ m 395 (10 * p + j) = 204)
def SG (p : Nat) (m : yM) (r : Int) : Prop := FI p m r ∧ m 397 (10 * p + r.toNat) = 0
theorem FI.uniq {p : Nat} {m : yM} {r s : Int} (h : FI p m r) (h' : FI p m s) : r = s := by
  obtain ⟨a1, a2, a3, a4, a5⟩ := h
  obtain ⟨b1, b2, b3, b4, b5⟩ := h'
  rcases Int.lt_trichotomy r s with q | q | q
  · exact absurd ⟨a3, a4⟩ (b5 r.toNat (by omega))
  · exact q
  · exact absurd ⟨b3, b4⟩ (a5 s.toNat (by omega))
theorem NF.no {p : Nat} {m : yM} (h : NF p m) {r : Int} (h' : FI p m r) : False := h r.toNat (by have := h'.1; have := h'.2.1; omega) ⟨h'.2.2.1, h'.2.2.2.1⟩
theorem SG.fr {p : Nat} {m m' : yM} {r : Int} (h : SG p m r) (e4 : m' 384 p = m 384 p) (e5 : ∀ q, m' 395 q = m 395 q) (e6 : ∀ q, m' 396 q = m 396 q) (e7 : ∀ q, m' 397 q = m 397 q) : SG p m' r := by
  unfold SG FI at h ⊢
  simp only [e4, e5, e6, e7]
  exact h
end
section
/-! CONTRACTS: the model, a run. Printed by wip/whole/gen9g.py -/
theorem wGv_G2 {p : Nat} : ∀ a q, vGq p a q = true → wGv a q = false := by
  intro a q h
  cases e : wGv a q with
  | false => rfl
  | true => simp [wGv] at e; simp [vGq] at h; omega
theorem wMk_G2 {p : Nat} : ∀ a q, vGq p a q = true → wMk a q = false := by
  intro a q h
  cases e : wMk a q with
  | false => rfl
  | true => simp [wMk] at e; simp [vGq] at h; omega
theorem wPl_G2 {p : Nat} : ∀ a q, vGq p a q = true → wPl a q = false := by
  intro a q h
  cases e : wPl a q with
  | false => rfl
  | true => simp [wPl] at e; simp [vGq] at h; omega
theorem wEn_G2 {p : Nat} : ∀ a q, vGq p a q = true → wEn a q = false := by
  intro a q h
  cases e : wEn a q with
  | false => rfl
  | true => simp [wEn] at e; simp [vGq] at h; omega
theorem wRn_G2 {p : Nat} : ∀ a q, vGq p a q = true → wRn a q = false := by
  intro a q h
  cases e : wRn a q with
  | false => rfl
  | true => simp [wRn] at e; simp [vGq] at h; omega
set_option maxRecDepth 100000 in
theorem t201a {L : Nat} {xs : Nat → Int32} {d nn : Nat} {m : yM} {Q : xO → yM → Nat → Prop} {s : Int} (hT : Ty gT m) (h51 : m 376 51 ≤ 29) (ho : ∀ (x2 : Option Value) (mi : yM), Ty gT mi → Fr (wRo 410) m mi → (∀ q : Nat, (q : Int) < 8 * m 376 51 → mi 410 q = m 410 q) → (∀ q : Nat, 8 * m 376 51 ≤ (q : Int) → (q : Int) < 8 * m 376 51 + 8 → mi 410 q = 0) → YW (gZ L xs) 201 d 55 [some (.ref 376), some (yI s), x2] [] mi nn Q) : ∀ (km : Nat) (i : Int) (mi : yM), 8 - i = km → 0 ≤ i ∧ i ≤ 8 → Ty gT mi → Fr (wRo 410) m mi → (∀ q : Nat, (q : Int) < 8 * m 376 51 → mi 410 q = m 410 q) → (∀ q : Nat, 8 * m 376 51 ≤ (q : Int) → (q : Int) < 8 * m 376 51 + i → mi 410 q = 0) → YW (gZ L xs) 201 d 28 [some (.ref 376), some (yI s), some (yI i)] [] mi nn (Q) := by
  intro km
  induction km using Nat.strongRecOn with
  | ind km ih =>
    intro i mi hk hi hTi hFi hz1 hz2
    have tb51 := hT.atp 376 51 0 30 rfl
    refine y_iload 29 c201_28 rfl rfl ?_
    refine y_iconst 31 c201_29 rfl ?_
    refine y_icmp 55 34 c201_31 rfl rfl (yc_ge (by omega) (by omega)) (fun hb13140 => ?_) (fun hb13140 => ?_)
    · exact ho _ _ hTi hFi hz1 (fun q h1 h2 => hz2 q h1 (by omega))
    · refine y_aload 35 c201_34 rfl rfl rfl ?_
      refine y_getR 38 c201_35 rfl kf376_50 ?_
      refine y_iconst 40 c201_38 rfl ?_
      refine y_aload 41 c201_40 rfl rfl rfl ?_
      refine y_getX 44 (m 376 51) c201_41 rfl kf376_51 (hFi 376 51 rfl) ?_
      refine y_imul 45 c201_44 rfl ?_
      refine y_iload 46 c201_45 rfl rfl ?_
      refine y_iadd 47 c201_46 rfl ?_
      refine y_iconst 48 c201_47 rfl ?_
      refine y_iastore 49 c201_48 rfl ka410 (by omega) (y_nar0 _) ?_
      have hT13141 := hTi.up 410 (((8 * (m 376 51)) + i).toNat) 0 0 30 rfl (by omega)
      have hF13142 := hFi.up 410 (((8 * (m 376 51)) + i).toNat) 0 rfl
      refine y_iinc 52 c201_49 rfl rfl rfl ?_
      refine y_goto 28 c201_52 rfl ?_
      exact ih (8 - (i + 1) : Int).toNat (by omega) (i + 1)  _ (by omega) (by omega) hT13141 hF13142 (fun q hq => (yup_nk (by omega)).trans (hz1 q hq)) (fun q h1 h2 => by
          by_cases e : q = ((8 * (m 376 51)) + i).toNat
          · subst e; exact yup_eq _ _ _ _
          · rw [yup_nk e]; exact hz2 q h1 (by omega))
set_option maxRecDepth 100000 in
theorem t203a {L : Nat} {xs : Nat → Int32} {d nn : Nat} {m : yM} {Q : xO → yM → Nat → Prop} {k e f g h : Int} (hT : Ty gT m) (h54 : 1 ≤ m 376 54) (ho : ∀ (x2 : Option Value) (mi : yM), Ty gT mi → Fr (wRo 411) m mi → (∀ q : Nat, (q : Int) < 48 * (m 376 54 - 1) → mi 411 q = m 411 q) → (∀ q : Nat, 48 * (m 376 54 - 1) ≤ (q : Int) → (q : Int) < 48 * (m 376 54 - 1) + 48 → mi 411 q = 0) → YW (gZ L xs) 203 (d + 1) 69 [some (.ref 376), some (yI k), some (yI e), some (yI f), some (yI g), some (yI h), x2] [] mi nn Q) : ∀ (km : Nat) (i : Int) (mi : yM), 48 - i = km → 0 ≤ i ∧ i ≤ 48 → Ty gT mi → Fr (wRo 411) m mi → (∀ q : Nat, (q : Int) < 48 * (m 376 54 - 1) → mi 411 q = m 411 q) → (∀ q : Nat, 48 * (m 376 54 - 1) ≤ (q : Int) → (q : Int) < 48 * (m 376 54 - 1) + i → mi 411 q = 0) → YW (gZ L xs) 203 (d + 1) 38 [some (.ref 376), some (yI k), some (yI e), some (yI f), some (yI g), some (yI h), some (yI i)] [] mi nn (Q) := by
  intro km
  induction km using Nat.strongRecOn with
  | ind km ih =>
    intro i mi hk hi hTi hFi hz1 hz2
    have tb54 := hT.atp 376 54 0 4 rfl
    refine y_iload 40 c203_38 rfl rfl ?_
    refine y_iconst 42 c203_40 rfl ?_
    refine y_icmp 69 45 c203_42 rfl rfl (yc_ge (by omega) (by omega)) (fun hb13143 => ?_) (fun hb13143 => ?_)
    · exact ho _ _ hTi hFi hz1 (fun q h1 h2 => hz2 q h1 (by omega))
    · refine y_aload 46 c203_45 rfl rfl rfl ?_
      refine y_getR 49 c203_46 rfl kf376_52 ?_
      refine y_iconst 51 c203_49 rfl ?_
      refine y_aload 52 c203_51 rfl rfl rfl ?_
      refine y_getX 55 (m 376 54) c203_52 rfl kf376_54 (hFi 376 54 rfl) ?_
      refine y_iconst 56 c203_55 rfl ?_
      refine y_isub 57 c203_56 rfl ?_
      refine y_imul 58 c203_57 rfl ?_
      refine y_iload 60 c203_58 rfl rfl ?_
      refine y_iadd 61 c203_60 rfl ?_
      refine y_iconst 62 c203_61 rfl ?_
      refine y_iastore 63 c203_62 rfl ka411 (by omega) (y_nar0 _) ?_
      have hT13144 := hTi.up 411 (((48 * ((m 376 54) - 1)) + i).toNat) 0 0 30 rfl (by omega)
      have hF13145 := hFi.up 411 (((48 * ((m 376 54) - 1)) + i).toNat) 0 rfl
      refine y_iinc 66 c203_63 rfl rfl rfl ?_
      refine y_goto 38 c203_66 rfl ?_
      exact ih (48 - (i + 1) : Int).toNat (by omega) (i + 1)  _ (by omega) (by omega) hT13144 hF13145 (fun q hq => (yup_nk (by omega)).trans (hz1 q hq)) (fun q h1 h2 => by
          by_cases e : q = ((48 * ((m 376 54) - 1)) + i).toNat
          · subst e; exact yup_eq _ _ _ _
          · rw [yup_nk e]; exact hz2 q h1 (by omega))
end
section
/-! CONTRACTS: the model, a run. Printed by wip/whole/gen9g.py -/
set_option maxRecDepth 100000 in
theorem t202_0 {L : Nat} {xs : Nat → Int32} {d nn : Nat} {m : yM} {v u : Int} (hT : Ty gT m) (hV : VX 0 m) (hf : 1 ≤ m 376 54) (hv : 0 ≤ v ∧ v ≤ 47) (hu : 0 ≤ u ∧ u ≤ m 376 51) : YC (gZ L xs) d 202 [.ref 376, yI v, yI u] m nn (qU (fun m' n' => n' = nn ∧ Ty gT m' ∧ Fr wGv m m' ∧ VX 0 m')) := by
  have tb383 := hT.atp 383 0 0 6 rfl
  have tb384 := hT.atp 384 0 0 10 rfl
  have tb388 := hT.atp 388 0 0 12 rfl
  have tb390 := hT.atp 390 0 0 125 rfl
  have tm51 := hT.atp 376 51 0 30 rfl
  have tm54 := hT.atp 376 54 0 4 rfl
  have tm55 := hT.atp 376 55 0 124 rfl
  have tm56 := hT.atp 376 56 0 201 rfl
  have tm57 := hT.atp 376 57 0 4 rfl
  refine YC.mkB [some (.ref 376), some (yI v), some (yI u)] kn202 rfl rfl ?_
  have hF : Fr wGv m m := Fr.rf
  refine y_aload 1 c202_0 rfl rfl rfl ?_
  refine y_getR 4 c202_1 rfl kf376_52 ?_
  refine y_iconst 6 c202_4 rfl ?_
  refine y_aload 7 c202_6 rfl rfl rfl ?_
  refine y_getX 10 (m 376 54) c202_7 rfl kf376_54 rfl ?_
  refine y_iconst 11 c202_10 rfl ?_
  refine y_isub 12 c202_11 rfl ?_
  refine y_imul 13 c202_12 rfl ?_
  refine y_iload 14 c202_13 rfl rfl ?_
  refine y_iadd 15 c202_14 rfl ?_
  refine y_iload 16 c202_15 rfl rfl ?_
  refine y_iastore 17 c202_16 rfl ka411 (by omega) (y_nar0 _) ?_
  have hT13146 := hT.up 411 (((48 * ((m 376 54) - 1)) + v).toNat) u 0 30 rfl (by omega)
  have hF13147 := hF.up 411 (((48 * ((m 376 54) - 1)) + v).toNat) u rfl
  refine y_iload 18 c202_17 rfl rfl ?_
  refine y_if 40 21 c202_18 rfl rfl (yz_le (by omega)) (fun hb13148 => ?_) (fun hb13148 => ?_)
  · exact y_retU c202_40 ⟨rfl, hT13146, hF13147, (VX.up1e (w := m 376 51) hV (rfl) (by omega))⟩
  · refine y_aload 22 c202_21 rfl rfl rfl ?_
    refine y_getR 25 c202_22 rfl kf376_48 ?_
    refine y_iconst 27 c202_25 rfl ?_
    refine y_iload 28 c202_27 rfl rfl ?_
    refine y_imul 29 c202_28 rfl ?_
    refine y_aload 30 c202_29 rfl rfl rfl ?_
    refine y_getR 33 c202_30 rfl kf376_49 ?_
    refine y_iload 34 c202_33 rfl rfl ?_
    refine y_iconst 35 c202_34 rfl ?_
    refine y_isub 36 c202_35 rfl ?_
    refine y_iaT 37 0 11 c202_36 rfl ka409 (by omega) hT13146 rfl (fun v13149 hv13149 gv13149 => ?_)
    refine y_iadd 38 c202_37 rfl ?_
    refine y_iconst 39 c202_38 rfl ?_
    refine y_iastore 40 c202_39 rfl ka408 (by omega) (y_nar1 (by omega)) ?_
    have hT13150 := hT13146.up 408 (((12 * v) + v13149).toNat) 1 0 1 rfl (by omega)
    have hF13151 := hF13147.up 408 (((12 * v) + v13149).toNat) 1 rfl
    exact y_retU c202_40 ⟨rfl, hT13150, hF13151, (VX.na (VX.up1e (w := m 376 51) hV (rfl) (by omega)) (by decide))⟩
set_option maxRecDepth 100000 in
theorem t205_0 {L : Nat} {xs : Nat → Int32} {d nn : Nat} {m : yM} {v : Int} (hT : Ty gT m) (hV : VX 0 m) (hf : 1 ≤ m 376 54) (hv : 0 ≤ v ∧ v ≤ 47) : YC (gZ L xs) d 205 [.ref 376, yI v] m nn (qP m nn (fun r => 0 ≤ r ∧ r ≤ m 376 51)) := by
  have tb383 := hT.atp 383 0 0 6 rfl
  have tb384 := hT.atp 384 0 0 10 rfl
  have tb388 := hT.atp 388 0 0 12 rfl
  have tb390 := hT.atp 390 0 0 125 rfl
  have tm51 := hT.atp 376 51 0 30 rfl
  have tm54 := hT.atp 376 54 0 4 rfl
  have tm55 := hT.atp 376 55 0 124 rfl
  have tm56 := hT.atp 376 56 0 201 rfl
  have tm57 := hT.atp 376 57 0 4 rfl
  refine YC.mkB [some (.ref 376), some (yI v)] kn205 rfl rfl ?_
  refine y_aload 1 c205_0 rfl rfl rfl ?_
  refine y_getR 4 c205_1 rfl kf376_52 ?_
  refine y_iconst 6 c205_4 rfl ?_
  refine y_aload 7 c205_6 rfl rfl rfl ?_
  refine y_getX 10 (m 376 54) c205_7 rfl kf376_54 rfl ?_
  refine y_iconst 11 c205_10 rfl ?_
  refine y_isub 12 c205_11 rfl ?_
  refine y_imul 13 c205_12 rfl ?_
  refine y_iload 14 c205_13 rfl rfl ?_
  refine y_iadd 15 c205_14 rfl ?_
  refine y_iaT 16 0 30 c205_15 rfl ka411 (by omega) hT rfl (fun v13152 hv13152 gv13152 => ?_)
  exact y_retP c205_16 (y_fit0 _) ⟨by omega, by rw [← hv13152]; exact hV.1 _ (by omega)⟩
set_option maxRecDepth 100000 in
theorem t206_0 {L : Nat} {xs : Nat → Int32} {d nn : Nat} {m : yM} {v : Int} (hT : Ty gT m) (hn : m 376 18 = 0) (hG : GQ 0 m) (hV : VX 0 m) (hv : 1 ≤ v ∧ v ≤ m 376 51) : YC (gZ L xs) d 206 [.ref 376, yI v] m nn (qP m nn (fun r => -1 ≤ r ∧ r < m 383 0)) := by
  have tb383 := hT.atp 383 0 0 6 rfl
  have tb384 := hT.atp 384 0 0 10 rfl
  have tb388 := hT.atp 388 0 0 12 rfl
  have tb390 := hT.atp 390 0 0 125 rfl
  have tm51 := hT.atp 376 51 0 30 rfl
  have tm54 := hT.atp 376 54 0 4 rfl
  have tm55 := hT.atp 376 55 0 124 rfl
  have tm56 := hT.atp 376 56 0 201 rfl
  have tm57 := hT.atp 376 57 0 4 rfl
  refine YC.mkB [some (.ref 376), some (yI v)] kn206 rfl rfl ?_
  refine y_aload 1 c206_0 rfl rfl rfl ?_
  refine y_getR 4 c206_1 rfl kf376_37 ?_
  refine y_iconst 6 c206_4 rfl ?_
  refine y_aload 7 c206_6 rfl rfl rfl ?_
  refine y_getX 10 (m 376 18) c206_7 rfl kf376_18 rfl ?_
  have tb13153 := hT.atp 376 18 0 1 rfl
  refine y_top 0 (by omega) ?_
  refine y_imul 11 c206_10 rfl ?_
  refine y_top 0 (by decide) ?_
  refine y_aload 12 c206_11 rfl rfl rfl ?_
  refine y_getR 15 c206_12 rfl kf376_49 ?_
  refine y_iload 16 c206_15 rfl rfl ?_
  refine y_iconst 17 c206_16 rfl ?_
  refine y_isub 18 c206_17 rfl ?_
  refine y_iaT 19 0 11 c206_18 rfl ka409 (by omega) hT rfl (fun v13154 hv13154 gv13154 => ?_)
  have gv13154_ : v13154 < m 388 0 := by rw [← hv13154]; exact hV.2.2 _ (by omega)
  refine y_iadd 20 c206_19 rfl ?_
  refine y_iaT 21 ((-2147483648)) 2147483647 c206_20 rfl ka400 (by omega) hT rfl (fun v13155 hv13155 gv13155 => ?_)
  have gv13155_ : -1 ≤ v13155 ∧ v13155 < m 383 0 := by have h0 := hG.2.2.2.2.2.1 v13154.toNat (by omega); rw [show 12 * 0 + v13154.toNat = (0 + v13154).toNat by omega, hv13155] at h0; exact h0
  exact y_retP c206_21 (y_fit0 _) (by omega)
set_option maxRecDepth 100000 in
theorem t201_0 {L : Nat} {xs : Nat → Int32} {d nn : Nat} {m : yM} {s : Int} (hT : Ty gT m) (hV : VX 0 m) (hs : 0 ≤ s ∧ s < m 388 0) : YC (gZ L xs) d 201 [.ref 376, yI s] m nn (qI (fun r m' n' => n' = nn ∧ Ty gT m' ∧ Fr wMk m m' ∧ (0 ≤ r ∧ r ≤ m' 376 51) ∧ (m' 376 57 = m 376 57 ∨ m' 376 57 = 4) ∧ VX 0 m')) := by
  have tb383 := hT.atp 383 0 0 6 rfl
  have tb384 := hT.atp 384 0 0 10 rfl
  have tb388 := hT.atp 388 0 0 12 rfl
  have tb390 := hT.atp 390 0 0 125 rfl
  have tm51 := hT.atp 376 51 0 30 rfl
  have tm54 := hT.atp 376 54 0 4 rfl
  have tm55 := hT.atp 376 55 0 124 rfl
  have tm56 := hT.atp 376 56 0 201 rfl
  have tm57 := hT.atp 376 57 0 4 rfl
  refine YC.mkB [some (.ref 376), some (yI s), none] kn201 rfl rfl ?_
  have hF : Fr wMk m m := Fr.rf
  refine y_aload 1 c201_0 rfl rfl rfl ?_
  refine y_getX 4 (m 376 51) c201_1 rfl kf376_51 rfl ?_
  refine y_iconst 6 c201_4 rfl ?_
  refine y_icmp 16 9 c201_6 rfl rfl (yc_ne (by omega) (by omega)) (fun hb13156 => ?_) (fun hb13156 => ?_)
  · refine y_aload 17 c201_16 rfl rfl rfl ?_
    refine y_getR 20 c201_17 rfl kf376_49 ?_
    refine y_aload 21 c201_20 rfl rfl rfl ?_
    refine y_getX 24 (m 376 51) c201_21 rfl kf376_51 rfl ?_
    refine y_iload 25 c201_24 rfl rfl ?_
    refine y_iastore 26 c201_25 rfl ka409 (by omega) (y_nar0 _) ?_
    have hT13157 := hT.up 409 ((m 376 51).toNat) s 0 11 rfl (by omega)
    have hF13158 := hF.up 409 ((m 376 51).toNat) s rfl
    refine y_iconst 27 c201_26 rfl ?_
    refine y_istore 28 c201_27 rfl rfl ?_
    have es13159 : (yup m 409 ((m 376 51).toNat) s) 376 51 = m 376 51 := rfl
    refine t201a hT13157 (by omega) (fun z2 mz hTmz hFmz z1 z0 => ?_) 8 0 _ (by omega) (by omega) hT13157 Fr.rf (fun q hq => rfl) (fun q h1 h2 => by omega)
    have hF13160 := hF13158.tr hFmz (wRo_wMk rfl)
    refine y_aload 56 c201_55 rfl rfl rfl ?_
    refine y_dup 57 c201_56 rfl rfl ?_
    refine y_getX 60 (m 376 51) c201_57 rfl kf376_51 ((hFmz 376 51 rfl).trans (yup_na (by decide))) ?_
    refine y_iconst 61 c201_60 rfl ?_
    refine y_iadd 62 c201_61 rfl ?_
    refine y_putI 65 c201_62 rfl kf376_51 (y_fit0 _) ?_
    have hT13161 := hTmz.up 376 51 ((m 376 51) + 1) 0 30 rfl (by omega)
    have hF13162 := hF13160.up 376 51 ((m 376 51) + 1) rfl
    refine y_aload 66 c201_65 rfl rfl rfl ?_
    refine y_getX 69 ((m 376 51) + 1) c201_66 rfl kf376_51 rfl ?_
    have es13163 : (yup mz 376 51 ((m 376 51) + 1)) 376 51 = (m 376 51) + 1 := rfl
    have es13164 : (yup mz 376 51 ((m 376 51) + 1)) 376 54 = m 376 54 := ((yup_nk (by decide)).trans ((hFmz 376 54 rfl).trans (yup_na (by decide))))
    have es13165 : (yup mz 376 51 ((m 376 51) + 1)) 376 57 = m 376 57 := ((yup_nk (by decide)).trans ((hFmz 376 57 rfl).trans (yup_na (by decide))))
    have es13166 : (yup mz 376 51 ((m 376 51) + 1)) 388 0 = m 388 0 := ((yup_na (by decide)).trans ((hFmz 388 0 rfl).trans (yup_na (by decide))))
    have eo : (yup m 409 ((m 376 51).toNat) s) 376 51 = m 376 51 := yup_na (by decide)
    rw [eo] at z1 z0
    exact y_retI c201_69 (y_fit0 _) ⟨rfl, hT13161, hF13162, by omega, by omega, VX.mk (m' := yup mz 376 51 ((m 376 51) + 1)) hV (by omega) (by omega) (by omega) (by omega) (fun q => ((yup_na (by decide)).trans ((hFmz 411 q rfl).trans (yup_na (by decide))))) (fun q hq => (yup_na (by decide)).trans ((z1 q hq).trans (yup_na (by decide)))) (fun q h1 h2 => (yup_na (by decide)).trans (z0 q h1 h2)) (fun q hq => (yup_na (by decide)).trans ((hFmz 409 q rfl).trans (yup_nk hq))) (by rw [show (yup mz 376 51 ((m 376 51) + 1)) 409 (m 376 51).toNat = s from (yup_na (by decide)).trans ((hFmz 409 _ rfl).trans (yup_eq _ _ _ _))]; omega)⟩
  · refine y_aload 10 c201_9 rfl rfl rfl ?_
    refine y_iconst 11 c201_10 rfl ?_
    refine y_putI 14 c201_11 rfl kf376_57 (y_fit0 _) ?_
    have hT13167 := hT.up 376 57 4 0 4 rfl (by omega)
    have hF13168 := hF.up 376 57 4 rfl
    refine y_iconst 15 c201_14 rfl ?_
    have es13169 : (yup m 376 57 4) 376 51 = m 376 51 := rfl
    have es13170 : (yup m 376 57 4) 376 54 = m 376 54 := rfl
    have es13171 : (yup m 376 57 4) 376 57 = 4 := rfl
    have es13172 : (yup m 376 57 4) 388 0 = m 388 0 := rfl
    exact y_retI c201_15 (y_fit0 _) ⟨rfl, hT13167, hF13168, by omega, by omega, (VX.sc hV (by decide))⟩
set_option maxRecDepth 100000 in
theorem t202_1 {L : Nat} {xs : Nat → Int32} {d nn : Nat} {m : yM} {v u : Int} (hT : Ty gT m) (hV : VX 1 m) (hf : 1 ≤ m 376 54) (hv : 0 ≤ v ∧ v ≤ 47) (hu : 0 ≤ u ∧ u ≤ m 376 51) : YC (gZ L xs) d 202 [.ref 376, yI v, yI u] m nn (qU (fun m' n' => n' = nn ∧ Ty gT m' ∧ Fr wGv m m' ∧ VX 1 m')) := by
  have tb383 := hT.atp 383 1 0 6 rfl
  have tb384 := hT.atp 384 1 0 10 rfl
  have tb388 := hT.atp 388 1 0 12 rfl
  have tb390 := hT.atp 390 1 0 125 rfl
  have tm51 := hT.atp 376 51 0 30 rfl
  have tm54 := hT.atp 376 54 0 4 rfl
  have tm55 := hT.atp 376 55 0 124 rfl
  have tm56 := hT.atp 376 56 0 201 rfl
  have tm57 := hT.atp 376 57 0 4 rfl
  refine YC.mkB [some (.ref 376), some (yI v), some (yI u)] kn202 rfl rfl ?_
  have hF : Fr wGv m m := Fr.rf
  refine y_aload 1 c202_0 rfl rfl rfl ?_
  refine y_getR 4 c202_1 rfl kf376_52 ?_
  refine y_iconst 6 c202_4 rfl ?_
  refine y_aload 7 c202_6 rfl rfl rfl ?_
  refine y_getX 10 (m 376 54) c202_7 rfl kf376_54 rfl ?_
  refine y_iconst 11 c202_10 rfl ?_
  refine y_isub 12 c202_11 rfl ?_
  refine y_imul 13 c202_12 rfl ?_
  refine y_iload 14 c202_13 rfl rfl ?_
  refine y_iadd 15 c202_14 rfl ?_
  refine y_iload 16 c202_15 rfl rfl ?_
  refine y_iastore 17 c202_16 rfl ka411 (by omega) (y_nar0 _) ?_
  have hT13243 := hT.up 411 (((48 * ((m 376 54) - 1)) + v).toNat) u 0 30 rfl (by omega)
  have hF13244 := hF.up 411 (((48 * ((m 376 54) - 1)) + v).toNat) u rfl
  refine y_iload 18 c202_17 rfl rfl ?_
  refine y_if 40 21 c202_18 rfl rfl (yz_le (by omega)) (fun hb13245 => ?_) (fun hb13245 => ?_)
  · exact y_retU c202_40 ⟨rfl, hT13243, hF13244, (VX.up1e (w := m 376 51) hV (rfl) (by omega))⟩
  · refine y_aload 22 c202_21 rfl rfl rfl ?_
    refine y_getR 25 c202_22 rfl kf376_48 ?_
    refine y_iconst 27 c202_25 rfl ?_
    refine y_iload 28 c202_27 rfl rfl ?_
    refine y_imul 29 c202_28 rfl ?_
    refine y_aload 30 c202_29 rfl rfl rfl ?_
    refine y_getR 33 c202_30 rfl kf376_49 ?_
    refine y_iload 34 c202_33 rfl rfl ?_
    refine y_iconst 35 c202_34 rfl ?_
    refine y_isub 36 c202_35 rfl ?_
    refine y_iaT 37 0 11 c202_36 rfl ka409 (by omega) hT13243 rfl (fun v13246 hv13246 gv13246 => ?_)
    refine y_iadd 38 c202_37 rfl ?_
    refine y_iconst 39 c202_38 rfl ?_
    refine y_iastore 40 c202_39 rfl ka408 (by omega) (y_nar1 (by omega)) ?_
    have hT13247 := hT13243.up 408 (((12 * v) + v13246).toNat) 1 0 1 rfl (by omega)
    have hF13248 := hF13244.up 408 (((12 * v) + v13246).toNat) 1 rfl
    exact y_retU c202_40 ⟨rfl, hT13247, hF13248, (VX.na (VX.up1e (w := m 376 51) hV (rfl) (by omega)) (by decide))⟩
set_option maxRecDepth 100000 in
theorem t205_1 {L : Nat} {xs : Nat → Int32} {d nn : Nat} {m : yM} {v : Int} (hT : Ty gT m) (hV : VX 1 m) (hf : 1 ≤ m 376 54) (hv : 0 ≤ v ∧ v ≤ 47) : YC (gZ L xs) d 205 [.ref 376, yI v] m nn (qP m nn (fun r => 0 ≤ r ∧ r ≤ m 376 51)) := by
  have tb383 := hT.atp 383 1 0 6 rfl
  have tb384 := hT.atp 384 1 0 10 rfl
  have tb388 := hT.atp 388 1 0 12 rfl
  have tb390 := hT.atp 390 1 0 125 rfl
  have tm51 := hT.atp 376 51 0 30 rfl
  have tm54 := hT.atp 376 54 0 4 rfl
  have tm55 := hT.atp 376 55 0 124 rfl
  have tm56 := hT.atp 376 56 0 201 rfl
  have tm57 := hT.atp 376 57 0 4 rfl
  refine YC.mkB [some (.ref 376), some (yI v)] kn205 rfl rfl ?_
  refine y_aload 1 c205_0 rfl rfl rfl ?_
  refine y_getR 4 c205_1 rfl kf376_52 ?_
  refine y_iconst 6 c205_4 rfl ?_
  refine y_aload 7 c205_6 rfl rfl rfl ?_
  refine y_getX 10 (m 376 54) c205_7 rfl kf376_54 rfl ?_
  refine y_iconst 11 c205_10 rfl ?_
  refine y_isub 12 c205_11 rfl ?_
  refine y_imul 13 c205_12 rfl ?_
  refine y_iload 14 c205_13 rfl rfl ?_
  refine y_iadd 15 c205_14 rfl ?_
  refine y_iaT 16 0 30 c205_15 rfl ka411 (by omega) hT rfl (fun v13249 hv13249 gv13249 => ?_)
  exact y_retP c205_16 (y_fit0 _) ⟨by omega, by rw [← hv13249]; exact hV.1 _ (by omega)⟩
set_option maxRecDepth 100000 in
theorem t206_1 {L : Nat} {xs : Nat → Int32} {d nn : Nat} {m : yM} {v : Int} (hT : Ty gT m) (hn : m 376 18 = 1) (hG : GQ 1 m) (hV : VX 1 m) (hv : 1 ≤ v ∧ v ≤ m 376 51) : YC (gZ L xs) d 206 [.ref 376, yI v] m nn (qP m nn (fun r => -1 ≤ r ∧ r < m 383 1)) := by
  have tb383 := hT.atp 383 1 0 6 rfl
  have tb384 := hT.atp 384 1 0 10 rfl
  have tb388 := hT.atp 388 1 0 12 rfl
  have tb390 := hT.atp 390 1 0 125 rfl
  have tm51 := hT.atp 376 51 0 30 rfl
  have tm54 := hT.atp 376 54 0 4 rfl
  have tm55 := hT.atp 376 55 0 124 rfl
  have tm56 := hT.atp 376 56 0 201 rfl
  have tm57 := hT.atp 376 57 0 4 rfl
  refine YC.mkB [some (.ref 376), some (yI v)] kn206 rfl rfl ?_
  refine y_aload 1 c206_0 rfl rfl rfl ?_
  refine y_getR 4 c206_1 rfl kf376_37 ?_
  refine y_iconst 6 c206_4 rfl ?_
  refine y_aload 7 c206_6 rfl rfl rfl ?_
  refine y_getX 10 (m 376 18) c206_7 rfl kf376_18 rfl ?_
  have tb13250 := hT.atp 376 18 0 1 rfl
  refine y_top 1 (by omega) ?_
  refine y_imul 11 c206_10 rfl ?_
  refine y_top 12 (by decide) ?_
  refine y_aload 12 c206_11 rfl rfl rfl ?_
  refine y_getR 15 c206_12 rfl kf376_49 ?_
  refine y_iload 16 c206_15 rfl rfl ?_
  refine y_iconst 17 c206_16 rfl ?_
  refine y_isub 18 c206_17 rfl ?_
  refine y_iaT 19 0 11 c206_18 rfl ka409 (by omega) hT rfl (fun v13251 hv13251 gv13251 => ?_)
  have gv13251_ : v13251 < m 388 1 := by rw [← hv13251]; exact hV.2.2 _ (by omega)
  refine y_iadd 20 c206_19 rfl ?_
  refine y_iaT 21 ((-2147483648)) 2147483647 c206_20 rfl ka400 (by omega) hT rfl (fun v13252 hv13252 gv13252 => ?_)
  have gv13252_ : -1 ≤ v13252 ∧ v13252 < m 383 1 := by have h0 := hG.2.2.2.2.2.1 v13251.toNat (by omega); rw [show 12 * 1 + v13251.toNat = (12 + v13251).toNat by omega, hv13252] at h0; exact h0
  exact y_retP c206_21 (y_fit0 _) (by omega)
set_option maxRecDepth 100000 in
theorem t201_1 {L : Nat} {xs : Nat → Int32} {d nn : Nat} {m : yM} {s : Int} (hT : Ty gT m) (hV : VX 1 m) (hs : 0 ≤ s ∧ s < m 388 1) : YC (gZ L xs) d 201 [.ref 376, yI s] m nn (qI (fun r m' n' => n' = nn ∧ Ty gT m' ∧ Fr wMk m m' ∧ (0 ≤ r ∧ r ≤ m' 376 51) ∧ (m' 376 57 = m 376 57 ∨ m' 376 57 = 4) ∧ VX 1 m')) := by
  have tb383 := hT.atp 383 1 0 6 rfl
  have tb384 := hT.atp 384 1 0 10 rfl
  have tb388 := hT.atp 388 1 0 12 rfl
  have tb390 := hT.atp 390 1 0 125 rfl
  have tm51 := hT.atp 376 51 0 30 rfl
  have tm54 := hT.atp 376 54 0 4 rfl
  have tm55 := hT.atp 376 55 0 124 rfl
  have tm56 := hT.atp 376 56 0 201 rfl
  have tm57 := hT.atp 376 57 0 4 rfl
  refine YC.mkB [some (.ref 376), some (yI s), none] kn201 rfl rfl ?_
  have hF : Fr wMk m m := Fr.rf
  refine y_aload 1 c201_0 rfl rfl rfl ?_
  refine y_getX 4 (m 376 51) c201_1 rfl kf376_51 rfl ?_
  refine y_iconst 6 c201_4 rfl ?_
  refine y_icmp 16 9 c201_6 rfl rfl (yc_ne (by omega) (by omega)) (fun hb13253 => ?_) (fun hb13253 => ?_)
  · refine y_aload 17 c201_16 rfl rfl rfl ?_
    refine y_getR 20 c201_17 rfl kf376_49 ?_
    refine y_aload 21 c201_20 rfl rfl rfl ?_
    refine y_getX 24 (m 376 51) c201_21 rfl kf376_51 rfl ?_
    refine y_iload 25 c201_24 rfl rfl ?_
    refine y_iastore 26 c201_25 rfl ka409 (by omega) (y_nar0 _) ?_
    have hT13254 := hT.up 409 ((m 376 51).toNat) s 0 11 rfl (by omega)
    have hF13255 := hF.up 409 ((m 376 51).toNat) s rfl
    refine y_iconst 27 c201_26 rfl ?_
    refine y_istore 28 c201_27 rfl rfl ?_
    have es13256 : (yup m 409 ((m 376 51).toNat) s) 376 51 = m 376 51 := rfl
    refine t201a hT13254 (by omega) (fun z2 mz hTmz hFmz z1 z0 => ?_) 8 0 _ (by omega) (by omega) hT13254 Fr.rf (fun q hq => rfl) (fun q h1 h2 => by omega)
    have hF13257 := hF13255.tr hFmz (wRo_wMk rfl)
    refine y_aload 56 c201_55 rfl rfl rfl ?_
    refine y_dup 57 c201_56 rfl rfl ?_
    refine y_getX 60 (m 376 51) c201_57 rfl kf376_51 ((hFmz 376 51 rfl).trans (yup_na (by decide))) ?_
    refine y_iconst 61 c201_60 rfl ?_
    refine y_iadd 62 c201_61 rfl ?_
    refine y_putI 65 c201_62 rfl kf376_51 (y_fit0 _) ?_
    have hT13258 := hTmz.up 376 51 ((m 376 51) + 1) 0 30 rfl (by omega)
    have hF13259 := hF13257.up 376 51 ((m 376 51) + 1) rfl
    refine y_aload 66 c201_65 rfl rfl rfl ?_
    refine y_getX 69 ((m 376 51) + 1) c201_66 rfl kf376_51 rfl ?_
    have es13260 : (yup mz 376 51 ((m 376 51) + 1)) 376 51 = (m 376 51) + 1 := rfl
    have es13261 : (yup mz 376 51 ((m 376 51) + 1)) 376 54 = m 376 54 := ((yup_nk (by decide)).trans ((hFmz 376 54 rfl).trans (yup_na (by decide))))
    have es13262 : (yup mz 376 51 ((m 376 51) + 1)) 376 57 = m 376 57 := ((yup_nk (by decide)).trans ((hFmz 376 57 rfl).trans (yup_na (by decide))))
    have es13263 : (yup mz 376 51 ((m 376 51) + 1)) 388 1 = m 388 1 := ((yup_na (by decide)).trans ((hFmz 388 1 rfl).trans (yup_na (by decide))))
    have eo : (yup m 409 ((m 376 51).toNat) s) 376 51 = m 376 51 := yup_na (by decide)
    rw [eo] at z1 z0
    exact y_retI c201_69 (y_fit0 _) ⟨rfl, hT13258, hF13259, by omega, by omega, VX.mk (m' := yup mz 376 51 ((m 376 51) + 1)) hV (by omega) (by omega) (by omega) (by omega) (fun q => ((yup_na (by decide)).trans ((hFmz 411 q rfl).trans (yup_na (by decide))))) (fun q hq => (yup_na (by decide)).trans ((z1 q hq).trans (yup_na (by decide)))) (fun q h1 h2 => (yup_na (by decide)).trans (z0 q h1 h2)) (fun q hq => (yup_na (by decide)).trans ((hFmz 409 q rfl).trans (yup_nk hq))) (by rw [show (yup mz 376 51 ((m 376 51) + 1)) 409 (m 376 51).toNat = s from (yup_na (by decide)).trans ((hFmz 409 _ rfl).trans (yup_eq _ _ _ _))]; omega)⟩
  · refine y_aload 10 c201_9 rfl rfl rfl ?_
    refine y_iconst 11 c201_10 rfl ?_
    refine y_putI 14 c201_11 rfl kf376_57 (y_fit0 _) ?_
    have hT13264 := hT.up 376 57 4 0 4 rfl (by omega)
    have hF13265 := hF.up 376 57 4 rfl
    refine y_iconst 15 c201_14 rfl ?_
    have es13266 : (yup m 376 57 4) 376 51 = m 376 51 := rfl
    have es13267 : (yup m 376 57 4) 376 54 = m 376 54 := rfl
    have es13268 : (yup m 376 57 4) 376 57 = 4 := rfl
    have es13269 : (yup m 376 57 4) 388 1 = m 388 1 := rfl
    exact y_retI c201_15 (y_fit0 _) ⟨rfl, hT13264, hF13265, by omega, by omega, (VX.sc hV (by decide))⟩
end
section
/-! CONTRACTS: the model, a run. Printed by wip/whole/gen9g.py -/
set_option maxRecDepth 100000 in
theorem t203_0 {L : Nat} {xs : Nat → Int32} {d nn : Nat} {m : yM} {k e f g h : Int} (hT : Ty gT m) (hn : m 376 18 = 0) (hG : GQ 0 m) (hV : VX 0 m) (hk : 0 ≤ k ∧ k < m 384 0) (he : 0 ≤ e ∧ e ≤ m 376 51) (hf : 0 ≤ f ∧ f ≤ m 376 51) (hg : 0 ≤ g ∧ g ≤ m 376 51) (hh : 0 ≤ h ∧ h ≤ 124) : YC (gZ L xs) (d + 1) 203 [.ref 376, yI k, yI e, yI f, yI g, yI h] m nn (qU (fun m' n' => n' = nn ∧ Ty gT m' ∧ Fr wEn m m' ∧ VX 0 m' ∧ ((m' 376 57 = 4 ∧ m' 376 54 = m 376 54) ∨ (m' 376 57 = m 376 57 ∧ m' 376 54 = m 376 54 + 1 ∧ m' 376 55 < m 390 0 ∧ m' 412 (m 376 54).toNat = h)) ∧ ∀ q, q ≠ (m 376 54).toNat → m' 412 q = m 412 q)) := by
  have tb383 := hT.atp 383 0 0 6 rfl
  have tb384 := hT.atp 384 0 0 10 rfl
  have tb388 := hT.atp 388 0 0 12 rfl
  have tb390 := hT.atp 390 0 0 125 rfl
  have tm51 := hT.atp 376 51 0 30 rfl
  have tm54 := hT.atp 376 54 0 4 rfl
  have tm55 := hT.atp 376 55 0 124 rfl
  have tm56 := hT.atp 376 56 0 201 rfl
  have tm57 := hT.atp 376 57 0 4 rfl
  have g90 : m 390 0 ≤ 100 := hG.2.2.2.2.2.2.2.2.2.2.1
  refine YC.mkB [some (.ref 376), some (yI k), some (yI e), some (yI f), some (yI g), some (yI h), none] kn203 rfl rfl ?_
  have hF : Fr wEn m m := Fr.rf
  refine y_aload 1 c203_0 rfl rfl rfl ?_
  refine y_getX 4 (m 376 54) c203_1 rfl kf376_54 rfl ?_
  refine y_iconst 5 c203_4 rfl ?_
  refine y_icmp 14 8 c203_5 rfl rfl (yc_ne (by omega) (by omega)) (fun hb13173 => ?_) (fun hb13173 => ?_)
  · refine y_aload 15 c203_14 rfl rfl rfl ?_
    refine y_getR 18 c203_15 rfl kf376_53 ?_
    refine y_aload 19 c203_18 rfl rfl rfl ?_
    refine y_getX 22 (m 376 54) c203_19 rfl kf376_54 rfl ?_
    refine y_iload 24 c203_22 rfl rfl ?_
    refine y_iastore 25 c203_24 rfl ka412 (by omega) (y_nar0 _) ?_
    have hT13174 := hT.up 412 ((m 376 54).toNat) h 0 124 rfl (by omega)
    have hF13175 := hF.up 412 ((m 376 54).toNat) h rfl
    refine y_aload 26 c203_25 rfl rfl rfl ?_
    refine y_dup 27 c203_26 rfl rfl ?_
    refine y_getX 30 (m 376 54) c203_27 rfl kf376_54 rfl ?_
    refine y_iconst 31 c203_30 rfl ?_
    refine y_iadd 32 c203_31 rfl ?_
    refine y_putI 35 c203_32 rfl kf376_54 (y_fit0 _) ?_
    have hT13176 := hT13174.up 376 54 ((m 376 54) + 1) 0 4 rfl (by omega)
    have hF13177 := hF13175.up 376 54 ((m 376 54) + 1) rfl
    refine y_iconst 36 c203_35 rfl ?_
    refine y_istore 38 c203_36 rfl rfl ?_
    have es13178 : (yup (yup m 412 ((m 376 54).toNat) h) 376 54 ((m 376 54) + 1)) 376 54 = (m 376 54) + 1 := rfl
    have es13179 : (yup (yup m 412 ((m 376 54).toNat) h) 376 54 ((m 376 54) + 1)) 376 51 = m 376 51 := rfl
    refine t203a hT13176 (by omega) (fun z6 mz hTmz hFmz z1 z0 => ?_) 48 0 _ (by omega) (by omega) hT13176 Fr.rf (fun q hq => rfl) (fun q h1 h2 => by omega)
    have hF13180 := hF13177.tr hFmz (wRo_wEn rfl)
    have eo : (yup (yup m 412 ((m 376 54).toNat) h) 376 54 ((m 376 54) + 1)) 376 54 = m 376 54 + 1 := yup_eq _ _ _ _
    rw [show 48 * ((yup (yup m 412 ((m 376 54).toNat) h) 376 54 ((m 376 54) + 1)) 376 54 - 1) = 48 * m 376 54 by omega] at z1 z0
    have hVz : VX 0 mz := VX.ent hV (by omega) ((hFmz 376 54 rfl).trans eo) (hFmz 376 51 rfl) (hFmz 388 0 rfl) (fun q hq => z1 q hq) (fun q h1 h2 => z0 q h1 h2) (fun q => hFmz 410 q rfl) (fun q => hFmz 409 q rfl)
    have hmx := hG.2.2.2.1 k.toNat (by omega)
    refine y_aload 70 c203_69 rfl rfl rfl ?_
    refine y_getR 73 c203_70 rfl kf376_35 ?_
    refine y_iconst 75 c203_73 rfl ?_
    refine y_aload 76 c203_75 rfl rfl rfl ?_
    refine y_getX 79 (m 376 18) c203_76 rfl kf376_18 ((hFmz 376 18 rfl).trans ((yup_nk (by decide)).trans (yup_na (by decide)))) ?_
    have tb13181 := hT.atp 376 18 0 1 rfl
    refine y_top 0 (by omega) ?_
    refine y_imul 80 c203_79 rfl ?_
    refine y_top 0 (by decide) ?_
    refine y_iload 81 c203_80 rfl rfl ?_
    refine y_iadd 82 c203_81 rfl ?_
    refine y_iaT 83 0 46 c203_82 rfl ka398 (by omega) hTmz rfl (fun v13182 hv13182 gv13182 => ?_)
    have gv13182_ : m 398 (10 * 0 + k.toNat) = v13182 := by rw [show 10 * 0 + k.toNat = (0 + k).toNat by omega]; exact (((hFmz 398 _ rfl).trans ((yup_na (by decide)).trans (yup_na (by decide))))).symm.trans hv13182
    refine y_istore 85 c203_83 rfl rfl ?_
    refine y_aload 86 c203_85 rfl rfl rfl ?_
    refine y_iload 88 c203_86 rfl rfl ?_
    refine y_iconst 89 c203_88 rfl ?_
    refine y_iadd 90 c203_89 rfl ?_
    refine y_iload 91 c203_90 rfl rfl ?_
    have es13184 : mz 376 51 = m 376 51 := ((hFmz 376 51 rfl).trans ((yup_nk (by decide)).trans (yup_na (by decide))))
    have es13185 : mz 376 54 = (m 376 54) + 1 := ((hFmz 376 54 rfl).trans (yup_eq _ _ _ _))
    have es13186 : mz 376 18 = m 376 18 := ((hFmz 376 18 rfl).trans ((yup_nk (by decide)).trans (yup_na (by decide))))
    have hVc : VX 0 mz := hVz
    refine y_callUB 94 [.ref 376, yI (v13182 + 1), yI e] [] c203_91 rfl rfl rfl rfl rfl (ycanO km202 ko376) (t202_0 hTmz hVc (by omega) (by omega) (by omega)) (fun mq13183 nq13183 hq13183 => ?_)
    obtain ⟨rfl, hTq13183, hFq13183, hVq13183⟩ := hq13183
    have hF13187 := hF13180.tr hFq13183 wGv_wEn
    refine y_aload 95 c203_94 rfl rfl rfl ?_
    refine y_getR 98 c203_95 rfl kf376_34 ?_
    refine y_iconst 100 c203_98 rfl ?_
    refine y_aload 101 c203_100 rfl rfl rfl ?_
    refine y_getX 104 (m 376 18) c203_101 rfl kf376_18 ((hFq13183 376 18 rfl).trans ((hFmz 376 18 rfl).trans ((yup_nk (by decide)).trans (yup_na (by decide))))) ?_
    refine y_top 0 (by omega) ?_
    refine y_imul 105 c203_104 rfl ?_
    refine y_top 0 (by decide) ?_
    refine y_iload 106 c203_105 rfl rfl ?_
    refine y_iadd 107 c203_106 rfl ?_
    refine y_iaT 108 0 2 c203_107 rfl ka397 (by omega) hTq13183 rfl (fun v13188 hv13188 gv13188 => ?_)
    have gv13188_ : m 397 (10 * 0 + k.toNat) = v13188 := by rw [show 10 * 0 + k.toNat = (0 + k).toNat by omega]; exact (((hFq13183 397 _ rfl).trans ((hFmz 397 _ rfl).trans ((yup_na (by decide)).trans (yup_na (by decide)))))).symm.trans hv13188
    refine y_if 120 111 c203_108 rfl rfl (yz_le (by omega)) (fun hb13189 => ?_) (fun hb13189 => ?_)
    · refine y_aload 121 c203_120 rfl rfl rfl ?_
      refine y_getR 124 c203_121 rfl kf376_34 ?_
      refine y_iconst 126 c203_124 rfl ?_
      refine y_aload 127 c203_126 rfl rfl rfl ?_
      refine y_getX 130 (m 376 18) c203_127 rfl kf376_18 ((hFq13183 376 18 rfl).trans ((hFmz 376 18 rfl).trans ((yup_nk (by decide)).trans (yup_na (by decide))))) ?_
      refine y_top 0 (by omega) ?_
      refine y_imul 131 c203_130 rfl ?_
      refine y_top 0 (by decide) ?_
      refine y_iload 132 c203_131 rfl rfl ?_
      refine y_iadd 133 c203_132 rfl ?_
      refine y_iaT 134 0 2 c203_133 rfl ka397 (by omega) hTq13183 rfl (fun v13190 hv13190 gv13190 => ?_)
      have gv13190_ : m 397 (10 * 0 + k.toNat) = v13190 := by rw [show 10 * 0 + k.toNat = (0 + k).toNat by omega]; exact (((hFq13183 397 _ rfl).trans ((hFmz 397 _ rfl).trans ((yup_na (by decide)).trans (yup_na (by decide)))))).symm.trans hv13190
      refine y_iconst 135 c203_134 rfl ?_
      refine y_icmp 148 138 c203_135 rfl rfl (yc_le (by omega) (by omega)) (fun hb13191 => ?_) (fun hb13191 => ?_)
      · refine y_aload 149 c203_148 rfl rfl rfl ?_
        refine y_aload 150 c203_149 rfl rfl rfl ?_
        refine y_getR 153 c203_150 rfl kf376_36 ?_
        refine y_iconst 155 c203_153 rfl ?_
        refine y_aload 156 c203_155 rfl rfl rfl ?_
        refine y_getX 159 (m 376 18) c203_156 rfl kf376_18 ((hFq13183 376 18 rfl).trans ((hFmz 376 18 rfl).trans ((yup_nk (by decide)).trans (yup_na (by decide))))) ?_
        refine y_top 0 (by omega) ?_
        refine y_imul 160 c203_159 rfl ?_
        refine y_top 0 (by decide) ?_
        refine y_iload 161 c203_160 rfl rfl ?_
        refine y_iadd 162 c203_161 rfl ?_
        refine y_iaT 163 0 125 c203_162 rfl ka399 (by omega) hTq13183 rfl (fun v13192 hv13192 gv13192 => ?_)
        have gv13192_ : m 399 (10 * 0 + k.toNat) = v13192 := by rw [show 10 * 0 + k.toNat = (0 + k).toNat by omega]; exact (((hFq13183 399 _ rfl).trans ((hFmz 399 _ rfl).trans ((yup_na (by decide)).trans (yup_na (by decide)))))).symm.trans hv13192
        refine y_putI 166 c203_163 rfl kf376_55 (y_fit0 _) ?_
        have hT13193 := hTq13183.up 376 55 v13192 0 124 rfl (by omega)
        have hF13194 := hF13187.up 376 55 v13192 rfl
        have es13195 : (yup mq13183 376 55 v13192) 376 54 = (m 376 54) + 1 := ((yup_nk (by decide)).trans ((hFq13183 376 54 rfl).trans ((hFmz 376 54 rfl).trans (yup_eq _ _ _ _))))
        have es13196 : (yup mq13183 376 55 v13192) 376 55 = v13192 := rfl
        have es13197 : (yup mq13183 376 55 v13192) 376 57 = m 376 57 := ((yup_nk (by decide)).trans ((hFq13183 376 57 rfl).trans ((hFmz 376 57 rfl).trans ((yup_nk (by decide)).trans (yup_na (by decide))))))
        have es13198 : (yup mq13183 376 55 v13192) 376 51 = m 376 51 := ((yup_nk (by decide)).trans ((hFq13183 376 51 rfl).trans ((hFmz 376 51 rfl).trans ((yup_nk (by decide)).trans (yup_na (by decide))))))
        have e12 : (yup mq13183 376 55 v13192) 412 (m 376 54).toNat = h := ((yup_na (by decide)).trans ((hFq13183 412 _ rfl).trans ((hFmz 412 _ rfl).trans ((yup_na (by decide)).trans (yup_eq _ _ _ _)))))
        exact y_retU c203_166 ⟨rfl, hT13193, hF13194, (VX.sc hVq13183 (by decide)), by omega, fun q hq => ((yup_na (by decide)).trans ((hFq13183 412 _ rfl).trans ((hFmz 412 _ rfl).trans ((yup_na (by decide)).trans (yup_nk hq)))))⟩
      · refine y_aload 139 c203_138 rfl rfl rfl ?_
        refine y_iload 141 c203_139 rfl rfl ?_
        refine y_iconst 142 c203_141 rfl ?_
        refine y_iadd 143 c203_142 rfl ?_
        refine y_iload 145 c203_143 rfl rfl ?_
        have es13200 : mq13183 376 51 = m 376 51 := ((hFq13183 376 51 rfl).trans ((hFmz 376 51 rfl).trans ((yup_nk (by decide)).trans (yup_na (by decide)))))
        have es13201 : mq13183 376 54 = (m 376 54) + 1 := ((hFq13183 376 54 rfl).trans ((hFmz 376 54 rfl).trans (yup_eq _ _ _ _)))
        have es13202 : mq13183 376 18 = m 376 18 := ((hFq13183 376 18 rfl).trans ((hFmz 376 18 rfl).trans ((yup_nk (by decide)).trans (yup_na (by decide)))))
        have hVc : VX 0 mq13183 := hVq13183
        refine y_callUB 148 [.ref 376, yI (v13182 + 3), yI g] [] c203_145 rfl rfl rfl rfl rfl (ycanO km202 ko376) (t202_0 hTq13183 hVc (by omega) (by omega) (by omega)) (fun mq13199 nq13199 hq13199 => ?_)
        obtain ⟨rfl, hTq13199, hFq13199, hVq13199⟩ := hq13199
        have hF13203 := hF13187.tr hFq13199 wGv_wEn
        refine y_aload 149 c203_148 rfl rfl rfl ?_
        refine y_aload 150 c203_149 rfl rfl rfl ?_
        refine y_getR 153 c203_150 rfl kf376_36 ?_
        refine y_iconst 155 c203_153 rfl ?_
        refine y_aload 156 c203_155 rfl rfl rfl ?_
        refine y_getX 159 (m 376 18) c203_156 rfl kf376_18 ((hFq13199 376 18 rfl).trans ((hFq13183 376 18 rfl).trans ((hFmz 376 18 rfl).trans ((yup_nk (by decide)).trans (yup_na (by decide)))))) ?_
        refine y_top 0 (by omega) ?_
        refine y_imul 160 c203_159 rfl ?_
        refine y_top 0 (by decide) ?_
        refine y_iload 161 c203_160 rfl rfl ?_
        refine y_iadd 162 c203_161 rfl ?_
        refine y_iaT 163 0 125 c203_162 rfl ka399 (by omega) hTq13199 rfl (fun v13204 hv13204 gv13204 => ?_)
        have gv13204_ : m 399 (10 * 0 + k.toNat) = v13204 := by rw [show 10 * 0 + k.toNat = (0 + k).toNat by omega]; exact (((hFq13199 399 _ rfl).trans ((hFq13183 399 _ rfl).trans ((hFmz 399 _ rfl).trans ((yup_na (by decide)).trans (yup_na (by decide))))))).symm.trans hv13204
        refine y_putI 166 c203_163 rfl kf376_55 (y_fit0 _) ?_
        have hT13205 := hTq13199.up 376 55 v13204 0 124 rfl (by omega)
        have hF13206 := hF13203.up 376 55 v13204 rfl
        have es13207 : (yup mq13199 376 55 v13204) 376 54 = (m 376 54) + 1 := ((yup_nk (by decide)).trans ((hFq13199 376 54 rfl).trans ((hFq13183 376 54 rfl).trans ((hFmz 376 54 rfl).trans (yup_eq _ _ _ _)))))
        have es13208 : (yup mq13199 376 55 v13204) 376 55 = v13204 := rfl
        have es13209 : (yup mq13199 376 55 v13204) 376 57 = m 376 57 := ((yup_nk (by decide)).trans ((hFq13199 376 57 rfl).trans ((hFq13183 376 57 rfl).trans ((hFmz 376 57 rfl).trans ((yup_nk (by decide)).trans (yup_na (by decide)))))))
        have es13210 : (yup mq13199 376 55 v13204) 376 51 = m 376 51 := ((yup_nk (by decide)).trans ((hFq13199 376 51 rfl).trans ((hFq13183 376 51 rfl).trans ((hFmz 376 51 rfl).trans ((yup_nk (by decide)).trans (yup_na (by decide)))))))
        have e12 : (yup mq13199 376 55 v13204) 412 (m 376 54).toNat = h := ((yup_na (by decide)).trans ((hFq13199 412 _ rfl).trans ((hFq13183 412 _ rfl).trans ((hFmz 412 _ rfl).trans ((yup_na (by decide)).trans (yup_eq _ _ _ _))))))
        exact y_retU c203_166 ⟨rfl, hT13205, hF13206, (VX.sc hVq13199 (by decide)), by omega, fun q hq => ((yup_na (by decide)).trans ((hFq13199 412 _ rfl).trans ((hFq13183 412 _ rfl).trans ((hFmz 412 _ rfl).trans ((yup_na (by decide)).trans (yup_nk hq))))))⟩
    · refine y_aload 112 c203_111 rfl rfl rfl ?_
      refine y_iload 114 c203_112 rfl rfl ?_
      refine y_iconst 115 c203_114 rfl ?_
      refine y_iadd 116 c203_115 rfl ?_
      refine y_iload 117 c203_116 rfl rfl ?_
      have es13212 : mq13183 376 51 = m 376 51 := ((hFq13183 376 51 rfl).trans ((hFmz 376 51 rfl).trans ((yup_nk (by decide)).trans (yup_na (by decide)))))
      have es13213 : mq13183 376 54 = (m 376 54) + 1 := ((hFq13183 376 54 rfl).trans ((hFmz 376 54 rfl).trans (yup_eq _ _ _ _)))
      have es13214 : mq13183 376 18 = m 376 18 := ((hFq13183 376 18 rfl).trans ((hFmz 376 18 rfl).trans ((yup_nk (by decide)).trans (yup_na (by decide)))))
      have hVc : VX 0 mq13183 := hVq13183
      refine y_callUB 120 [.ref 376, yI (v13182 + 2), yI f] [] c203_117 rfl rfl rfl rfl rfl (ycanO km202 ko376) (t202_0 hTq13183 hVc (by omega) (by omega) (by omega)) (fun mq13211 nq13211 hq13211 => ?_)
      obtain ⟨rfl, hTq13211, hFq13211, hVq13211⟩ := hq13211
      have hF13215 := hF13187.tr hFq13211 wGv_wEn
      refine y_aload 121 c203_120 rfl rfl rfl ?_
      refine y_getR 124 c203_121 rfl kf376_34 ?_
      refine y_iconst 126 c203_124 rfl ?_
      refine y_aload 127 c203_126 rfl rfl rfl ?_
      refine y_getX 130 (m 376 18) c203_127 rfl kf376_18 ((hFq13211 376 18 rfl).trans ((hFq13183 376 18 rfl).trans ((hFmz 376 18 rfl).trans ((yup_nk (by decide)).trans (yup_na (by decide)))))) ?_
      refine y_top 0 (by omega) ?_
      refine y_imul 131 c203_130 rfl ?_
      refine y_top 0 (by decide) ?_
      refine y_iload 132 c203_131 rfl rfl ?_
      refine y_iadd 133 c203_132 rfl ?_
      refine y_iaT 134 0 2 c203_133 rfl ka397 (by omega) hTq13211 rfl (fun v13216 hv13216 gv13216 => ?_)
      have gv13216_ : m 397 (10 * 0 + k.toNat) = v13216 := by rw [show 10 * 0 + k.toNat = (0 + k).toNat by omega]; exact (((hFq13211 397 _ rfl).trans ((hFq13183 397 _ rfl).trans ((hFmz 397 _ rfl).trans ((yup_na (by decide)).trans (yup_na (by decide))))))).symm.trans hv13216
      refine y_iconst 135 c203_134 rfl ?_
      refine y_icmp 148 138 c203_135 rfl rfl (yc_le (by omega) (by omega)) (fun hb13217 => ?_) (fun hb13217 => ?_)
      · refine y_aload 149 c203_148 rfl rfl rfl ?_
        refine y_aload 150 c203_149 rfl rfl rfl ?_
        refine y_getR 153 c203_150 rfl kf376_36 ?_
        refine y_iconst 155 c203_153 rfl ?_
        refine y_aload 156 c203_155 rfl rfl rfl ?_
        refine y_getX 159 (m 376 18) c203_156 rfl kf376_18 ((hFq13211 376 18 rfl).trans ((hFq13183 376 18 rfl).trans ((hFmz 376 18 rfl).trans ((yup_nk (by decide)).trans (yup_na (by decide)))))) ?_
        refine y_top 0 (by omega) ?_
        refine y_imul 160 c203_159 rfl ?_
        refine y_top 0 (by decide) ?_
        refine y_iload 161 c203_160 rfl rfl ?_
        refine y_iadd 162 c203_161 rfl ?_
        refine y_iaT 163 0 125 c203_162 rfl ka399 (by omega) hTq13211 rfl (fun v13218 hv13218 gv13218 => ?_)
        have gv13218_ : m 399 (10 * 0 + k.toNat) = v13218 := by rw [show 10 * 0 + k.toNat = (0 + k).toNat by omega]; exact (((hFq13211 399 _ rfl).trans ((hFq13183 399 _ rfl).trans ((hFmz 399 _ rfl).trans ((yup_na (by decide)).trans (yup_na (by decide))))))).symm.trans hv13218
        refine y_putI 166 c203_163 rfl kf376_55 (y_fit0 _) ?_
        have hT13219 := hTq13211.up 376 55 v13218 0 124 rfl (by omega)
        have hF13220 := hF13215.up 376 55 v13218 rfl
        have es13221 : (yup mq13211 376 55 v13218) 376 54 = (m 376 54) + 1 := ((yup_nk (by decide)).trans ((hFq13211 376 54 rfl).trans ((hFq13183 376 54 rfl).trans ((hFmz 376 54 rfl).trans (yup_eq _ _ _ _)))))
        have es13222 : (yup mq13211 376 55 v13218) 376 55 = v13218 := rfl
        have es13223 : (yup mq13211 376 55 v13218) 376 57 = m 376 57 := ((yup_nk (by decide)).trans ((hFq13211 376 57 rfl).trans ((hFq13183 376 57 rfl).trans ((hFmz 376 57 rfl).trans ((yup_nk (by decide)).trans (yup_na (by decide)))))))
        have es13224 : (yup mq13211 376 55 v13218) 376 51 = m 376 51 := ((yup_nk (by decide)).trans ((hFq13211 376 51 rfl).trans ((hFq13183 376 51 rfl).trans ((hFmz 376 51 rfl).trans ((yup_nk (by decide)).trans (yup_na (by decide)))))))
        have e12 : (yup mq13211 376 55 v13218) 412 (m 376 54).toNat = h := ((yup_na (by decide)).trans ((hFq13211 412 _ rfl).trans ((hFq13183 412 _ rfl).trans ((hFmz 412 _ rfl).trans ((yup_na (by decide)).trans (yup_eq _ _ _ _))))))
        exact y_retU c203_166 ⟨rfl, hT13219, hF13220, (VX.sc hVq13211 (by decide)), by omega, fun q hq => ((yup_na (by decide)).trans ((hFq13211 412 _ rfl).trans ((hFq13183 412 _ rfl).trans ((hFmz 412 _ rfl).trans ((yup_na (by decide)).trans (yup_nk hq))))))⟩
      · refine y_aload 139 c203_138 rfl rfl rfl ?_
        refine y_iload 141 c203_139 rfl rfl ?_
        refine y_iconst 142 c203_141 rfl ?_
        refine y_iadd 143 c203_142 rfl ?_
        refine y_iload 145 c203_143 rfl rfl ?_
        have es13226 : mq13211 376 51 = m 376 51 := ((hFq13211 376 51 rfl).trans ((hFq13183 376 51 rfl).trans ((hFmz 376 51 rfl).trans ((yup_nk (by decide)).trans (yup_na (by decide))))))
        have es13227 : mq13211 376 54 = (m 376 54) + 1 := ((hFq13211 376 54 rfl).trans ((hFq13183 376 54 rfl).trans ((hFmz 376 54 rfl).trans (yup_eq _ _ _ _))))
        have es13228 : mq13211 376 18 = m 376 18 := ((hFq13211 376 18 rfl).trans ((hFq13183 376 18 rfl).trans ((hFmz 376 18 rfl).trans ((yup_nk (by decide)).trans (yup_na (by decide))))))
        have hVc : VX 0 mq13211 := hVq13211
        refine y_callUB 148 [.ref 376, yI (v13182 + 3), yI g] [] c203_145 rfl rfl rfl rfl rfl (ycanO km202 ko376) (t202_0 hTq13211 hVc (by omega) (by omega) (by omega)) (fun mq13225 nq13225 hq13225 => ?_)
        obtain ⟨rfl, hTq13225, hFq13225, hVq13225⟩ := hq13225
        have hF13229 := hF13215.tr hFq13225 wGv_wEn
        refine y_aload 149 c203_148 rfl rfl rfl ?_
        refine y_aload 150 c203_149 rfl rfl rfl ?_
        refine y_getR 153 c203_150 rfl kf376_36 ?_
        refine y_iconst 155 c203_153 rfl ?_
        refine y_aload 156 c203_155 rfl rfl rfl ?_
        refine y_getX 159 (m 376 18) c203_156 rfl kf376_18 ((hFq13225 376 18 rfl).trans ((hFq13211 376 18 rfl).trans ((hFq13183 376 18 rfl).trans ((hFmz 376 18 rfl).trans ((yup_nk (by decide)).trans (yup_na (by decide))))))) ?_
        refine y_top 0 (by omega) ?_
        refine y_imul 160 c203_159 rfl ?_
        refine y_top 0 (by decide) ?_
        refine y_iload 161 c203_160 rfl rfl ?_
        refine y_iadd 162 c203_161 rfl ?_
        refine y_iaT 163 0 125 c203_162 rfl ka399 (by omega) hTq13225 rfl (fun v13230 hv13230 gv13230 => ?_)
        have gv13230_ : m 399 (10 * 0 + k.toNat) = v13230 := by rw [show 10 * 0 + k.toNat = (0 + k).toNat by omega]; exact (((hFq13225 399 _ rfl).trans ((hFq13211 399 _ rfl).trans ((hFq13183 399 _ rfl).trans ((hFmz 399 _ rfl).trans ((yup_na (by decide)).trans (yup_na (by decide)))))))).symm.trans hv13230
        refine y_putI 166 c203_163 rfl kf376_55 (y_fit0 _) ?_
        have hT13231 := hTq13225.up 376 55 v13230 0 124 rfl (by omega)
        have hF13232 := hF13229.up 376 55 v13230 rfl
        have es13233 : (yup mq13225 376 55 v13230) 376 54 = (m 376 54) + 1 := ((yup_nk (by decide)).trans ((hFq13225 376 54 rfl).trans ((hFq13211 376 54 rfl).trans ((hFq13183 376 54 rfl).trans ((hFmz 376 54 rfl).trans (yup_eq _ _ _ _))))))
        have es13234 : (yup mq13225 376 55 v13230) 376 55 = v13230 := rfl
        have es13235 : (yup mq13225 376 55 v13230) 376 57 = m 376 57 := ((yup_nk (by decide)).trans ((hFq13225 376 57 rfl).trans ((hFq13211 376 57 rfl).trans ((hFq13183 376 57 rfl).trans ((hFmz 376 57 rfl).trans ((yup_nk (by decide)).trans (yup_na (by decide))))))))
        have es13236 : (yup mq13225 376 55 v13230) 376 51 = m 376 51 := ((yup_nk (by decide)).trans ((hFq13225 376 51 rfl).trans ((hFq13211 376 51 rfl).trans ((hFq13183 376 51 rfl).trans ((hFmz 376 51 rfl).trans ((yup_nk (by decide)).trans (yup_na (by decide))))))))
        have e12 : (yup mq13225 376 55 v13230) 412 (m 376 54).toNat = h := ((yup_na (by decide)).trans ((hFq13225 412 _ rfl).trans ((hFq13211 412 _ rfl).trans ((hFq13183 412 _ rfl).trans ((hFmz 412 _ rfl).trans ((yup_na (by decide)).trans (yup_eq _ _ _ _)))))))
        exact y_retU c203_166 ⟨rfl, hT13231, hF13232, (VX.sc hVq13225 (by decide)), by omega, fun q hq => ((yup_na (by decide)).trans ((hFq13225 412 _ rfl).trans ((hFq13211 412 _ rfl).trans ((hFq13183 412 _ rfl).trans ((hFmz 412 _ rfl).trans ((yup_na (by decide)).trans (yup_nk hq)))))))⟩
  · refine y_aload 9 c203_8 rfl rfl rfl ?_
    refine y_iconst 10 c203_9 rfl ?_
    refine y_putI 13 c203_10 rfl kf376_57 (y_fit0 _) ?_
    have hT13237 := hT.up 376 57 4 0 4 rfl (by omega)
    have hF13238 := hF.up 376 57 4 rfl
    have es13239 : (yup m 376 57 4) 376 54 = m 376 54 := rfl
    have es13240 : (yup m 376 57 4) 376 55 = m 376 55 := rfl
    have es13241 : (yup m 376 57 4) 376 57 = 4 := rfl
    have es13242 : (yup m 376 57 4) 376 51 = m 376 51 := rfl
    exact y_retU c203_13 ⟨rfl, hT13237, hF13238, (VX.sc hV (by decide)), by omega, fun q hq => (yup_na (by decide))⟩
set_option maxRecDepth 100000 in
theorem t203_1 {L : Nat} {xs : Nat → Int32} {d nn : Nat} {m : yM} {k e f g h : Int} (hT : Ty gT m) (hn : m 376 18 = 1) (hG : GQ 1 m) (hV : VX 1 m) (hk : 0 ≤ k ∧ k < m 384 1) (he : 0 ≤ e ∧ e ≤ m 376 51) (hf : 0 ≤ f ∧ f ≤ m 376 51) (hg : 0 ≤ g ∧ g ≤ m 376 51) (hh : 0 ≤ h ∧ h ≤ 124) : YC (gZ L xs) (d + 1) 203 [.ref 376, yI k, yI e, yI f, yI g, yI h] m nn (qU (fun m' n' => n' = nn ∧ Ty gT m' ∧ Fr wEn m m' ∧ VX 1 m' ∧ ((m' 376 57 = 4 ∧ m' 376 54 = m 376 54) ∨ (m' 376 57 = m 376 57 ∧ m' 376 54 = m 376 54 + 1 ∧ m' 376 55 < m 390 1 ∧ m' 412 (m 376 54).toNat = h)) ∧ ∀ q, q ≠ (m 376 54).toNat → m' 412 q = m 412 q)) := by
  have tb383 := hT.atp 383 1 0 6 rfl
  have tb384 := hT.atp 384 1 0 10 rfl
  have tb388 := hT.atp 388 1 0 12 rfl
  have tb390 := hT.atp 390 1 0 125 rfl
  have tm51 := hT.atp 376 51 0 30 rfl
  have tm54 := hT.atp 376 54 0 4 rfl
  have tm55 := hT.atp 376 55 0 124 rfl
  have tm56 := hT.atp 376 56 0 201 rfl
  have tm57 := hT.atp 376 57 0 4 rfl
  have g90 : m 390 1 ≤ 100 := hG.2.2.2.2.2.2.2.2.2.2.1
  refine YC.mkB [some (.ref 376), some (yI k), some (yI e), some (yI f), some (yI g), some (yI h), none] kn203 rfl rfl ?_
  have hF : Fr wEn m m := Fr.rf
  refine y_aload 1 c203_0 rfl rfl rfl ?_
  refine y_getX 4 (m 376 54) c203_1 rfl kf376_54 rfl ?_
  refine y_iconst 5 c203_4 rfl ?_
  refine y_icmp 14 8 c203_5 rfl rfl (yc_ne (by omega) (by omega)) (fun hb13270 => ?_) (fun hb13270 => ?_)
  · refine y_aload 15 c203_14 rfl rfl rfl ?_
    refine y_getR 18 c203_15 rfl kf376_53 ?_
    refine y_aload 19 c203_18 rfl rfl rfl ?_
    refine y_getX 22 (m 376 54) c203_19 rfl kf376_54 rfl ?_
    refine y_iload 24 c203_22 rfl rfl ?_
    refine y_iastore 25 c203_24 rfl ka412 (by omega) (y_nar0 _) ?_
    have hT13271 := hT.up 412 ((m 376 54).toNat) h 0 124 rfl (by omega)
    have hF13272 := hF.up 412 ((m 376 54).toNat) h rfl
    refine y_aload 26 c203_25 rfl rfl rfl ?_
    refine y_dup 27 c203_26 rfl rfl ?_
    refine y_getX 30 (m 376 54) c203_27 rfl kf376_54 rfl ?_
    refine y_iconst 31 c203_30 rfl ?_
    refine y_iadd 32 c203_31 rfl ?_
    refine y_putI 35 c203_32 rfl kf376_54 (y_fit0 _) ?_
    have hT13273 := hT13271.up 376 54 ((m 376 54) + 1) 0 4 rfl (by omega)
    have hF13274 := hF13272.up 376 54 ((m 376 54) + 1) rfl
    refine y_iconst 36 c203_35 rfl ?_
    refine y_istore 38 c203_36 rfl rfl ?_
    have es13275 : (yup (yup m 412 ((m 376 54).toNat) h) 376 54 ((m 376 54) + 1)) 376 54 = (m 376 54) + 1 := rfl
    have es13276 : (yup (yup m 412 ((m 376 54).toNat) h) 376 54 ((m 376 54) + 1)) 376 51 = m 376 51 := rfl
    refine t203a hT13273 (by omega) (fun z6 mz hTmz hFmz z1 z0 => ?_) 48 0 _ (by omega) (by omega) hT13273 Fr.rf (fun q hq => rfl) (fun q h1 h2 => by omega)
    have hF13277 := hF13274.tr hFmz (wRo_wEn rfl)
    have eo : (yup (yup m 412 ((m 376 54).toNat) h) 376 54 ((m 376 54) + 1)) 376 54 = m 376 54 + 1 := yup_eq _ _ _ _
    rw [show 48 * ((yup (yup m 412 ((m 376 54).toNat) h) 376 54 ((m 376 54) + 1)) 376 54 - 1) = 48 * m 376 54 by omega] at z1 z0
    have hVz : VX 1 mz := VX.ent hV (by omega) ((hFmz 376 54 rfl).trans eo) (hFmz 376 51 rfl) (hFmz 388 1 rfl) (fun q hq => z1 q hq) (fun q h1 h2 => z0 q h1 h2) (fun q => hFmz 410 q rfl) (fun q => hFmz 409 q rfl)
    have hmx := hG.2.2.2.1 k.toNat (by omega)
    refine y_aload 70 c203_69 rfl rfl rfl ?_
    refine y_getR 73 c203_70 rfl kf376_35 ?_
    refine y_iconst 75 c203_73 rfl ?_
    refine y_aload 76 c203_75 rfl rfl rfl ?_
    refine y_getX 79 (m 376 18) c203_76 rfl kf376_18 ((hFmz 376 18 rfl).trans ((yup_nk (by decide)).trans (yup_na (by decide)))) ?_
    have tb13278 := hT.atp 376 18 0 1 rfl
    refine y_top 1 (by omega) ?_
    refine y_imul 80 c203_79 rfl ?_
    refine y_top 10 (by decide) ?_
    refine y_iload 81 c203_80 rfl rfl ?_
    refine y_iadd 82 c203_81 rfl ?_
    refine y_iaT 83 0 46 c203_82 rfl ka398 (by omega) hTmz rfl (fun v13279 hv13279 gv13279 => ?_)
    have gv13279_ : m 398 (10 * 1 + k.toNat) = v13279 := by rw [show 10 * 1 + k.toNat = (10 + k).toNat by omega]; exact (((hFmz 398 _ rfl).trans ((yup_na (by decide)).trans (yup_na (by decide))))).symm.trans hv13279
    refine y_istore 85 c203_83 rfl rfl ?_
    refine y_aload 86 c203_85 rfl rfl rfl ?_
    refine y_iload 88 c203_86 rfl rfl ?_
    refine y_iconst 89 c203_88 rfl ?_
    refine y_iadd 90 c203_89 rfl ?_
    refine y_iload 91 c203_90 rfl rfl ?_
    have es13281 : mz 376 51 = m 376 51 := ((hFmz 376 51 rfl).trans ((yup_nk (by decide)).trans (yup_na (by decide))))
    have es13282 : mz 376 54 = (m 376 54) + 1 := ((hFmz 376 54 rfl).trans (yup_eq _ _ _ _))
    have es13283 : mz 376 18 = m 376 18 := ((hFmz 376 18 rfl).trans ((yup_nk (by decide)).trans (yup_na (by decide))))
    have hVc : VX 1 mz := hVz
    refine y_callUB 94 [.ref 376, yI (v13279 + 1), yI e] [] c203_91 rfl rfl rfl rfl rfl (ycanO km202 ko376) (t202_1 hTmz hVc (by omega) (by omega) (by omega)) (fun mq13280 nq13280 hq13280 => ?_)
    obtain ⟨rfl, hTq13280, hFq13280, hVq13280⟩ := hq13280
    have hF13284 := hF13277.tr hFq13280 wGv_wEn
    refine y_aload 95 c203_94 rfl rfl rfl ?_
    refine y_getR 98 c203_95 rfl kf376_34 ?_
    refine y_iconst 100 c203_98 rfl ?_
    refine y_aload 101 c203_100 rfl rfl rfl ?_
    refine y_getX 104 (m 376 18) c203_101 rfl kf376_18 ((hFq13280 376 18 rfl).trans ((hFmz 376 18 rfl).trans ((yup_nk (by decide)).trans (yup_na (by decide))))) ?_
    refine y_top 1 (by omega) ?_
    refine y_imul 105 c203_104 rfl ?_
    refine y_top 10 (by decide) ?_
    refine y_iload 106 c203_105 rfl rfl ?_
    refine y_iadd 107 c203_106 rfl ?_
    refine y_iaT 108 0 2 c203_107 rfl ka397 (by omega) hTq13280 rfl (fun v13285 hv13285 gv13285 => ?_)
    have gv13285_ : m 397 (10 * 1 + k.toNat) = v13285 := by rw [show 10 * 1 + k.toNat = (10 + k).toNat by omega]; exact (((hFq13280 397 _ rfl).trans ((hFmz 397 _ rfl).trans ((yup_na (by decide)).trans (yup_na (by decide)))))).symm.trans hv13285
    refine y_if 120 111 c203_108 rfl rfl (yz_le (by omega)) (fun hb13286 => ?_) (fun hb13286 => ?_)
    · refine y_aload 121 c203_120 rfl rfl rfl ?_
      refine y_getR 124 c203_121 rfl kf376_34 ?_
      refine y_iconst 126 c203_124 rfl ?_
      refine y_aload 127 c203_126 rfl rfl rfl ?_
      refine y_getX 130 (m 376 18) c203_127 rfl kf376_18 ((hFq13280 376 18 rfl).trans ((hFmz 376 18 rfl).trans ((yup_nk (by decide)).trans (yup_na (by decide))))) ?_
      refine y_top 1 (by omega) ?_
      refine y_imul 131 c203_130 rfl ?_
      refine y_top 10 (by decide) ?_
      refine y_iload 132 c203_131 rfl rfl ?_
      refine y_iadd 133 c203_132 rfl ?_
      refine y_iaT 134 0 2 c203_133 rfl ka397 (by omega) hTq13280 rfl (fun v13287 hv13287 gv13287 => ?_)
      have gv13287_ : m 397 (10 * 1 + k.toNat) = v13287 := by rw [show 10 * 1 + k.toNat = (10 + k).toNat by omega]; exact (((hFq13280 397 _ rfl).trans ((hFmz 397 _ rfl).trans ((yup_na (by decide)).trans (yup_na (by decide)))))).symm.trans hv13287
      refine y_iconst 135 c203_134 rfl ?_
      refine y_icmp 148 138 c203_135 rfl rfl (yc_le (by omega) (by omega)) (fun hb13288 => ?_) (fun hb13288 => ?_)
      · refine y_aload 149 c203_148 rfl rfl rfl ?_
        refine y_aload 150 c203_149 rfl rfl rfl ?_
        refine y_getR 153 c203_150 rfl kf376_36 ?_
        refine y_iconst 155 c203_153 rfl ?_
        refine y_aload 156 c203_155 rfl rfl rfl ?_
        refine y_getX 159 (m 376 18) c203_156 rfl kf376_18 ((hFq13280 376 18 rfl).trans ((hFmz 376 18 rfl).trans ((yup_nk (by decide)).trans (yup_na (by decide))))) ?_
        refine y_top 1 (by omega) ?_
        refine y_imul 160 c203_159 rfl ?_
        refine y_top 10 (by decide) ?_
        refine y_iload 161 c203_160 rfl rfl ?_
        refine y_iadd 162 c203_161 rfl ?_
        refine y_iaT 163 0 125 c203_162 rfl ka399 (by omega) hTq13280 rfl (fun v13289 hv13289 gv13289 => ?_)
        have gv13289_ : m 399 (10 * 1 + k.toNat) = v13289 := by rw [show 10 * 1 + k.toNat = (10 + k).toNat by omega]; exact (((hFq13280 399 _ rfl).trans ((hFmz 399 _ rfl).trans ((yup_na (by decide)).trans (yup_na (by decide)))))).symm.trans hv13289
        refine y_putI 166 c203_163 rfl kf376_55 (y_fit0 _) ?_
        have hT13290 := hTq13280.up 376 55 v13289 0 124 rfl (by omega)
        have hF13291 := hF13284.up 376 55 v13289 rfl
        have es13292 : (yup mq13280 376 55 v13289) 376 54 = (m 376 54) + 1 := ((yup_nk (by decide)).trans ((hFq13280 376 54 rfl).trans ((hFmz 376 54 rfl).trans (yup_eq _ _ _ _))))
        have es13293 : (yup mq13280 376 55 v13289) 376 55 = v13289 := rfl
        have es13294 : (yup mq13280 376 55 v13289) 376 57 = m 376 57 := ((yup_nk (by decide)).trans ((hFq13280 376 57 rfl).trans ((hFmz 376 57 rfl).trans ((yup_nk (by decide)).trans (yup_na (by decide))))))
        have es13295 : (yup mq13280 376 55 v13289) 376 51 = m 376 51 := ((yup_nk (by decide)).trans ((hFq13280 376 51 rfl).trans ((hFmz 376 51 rfl).trans ((yup_nk (by decide)).trans (yup_na (by decide))))))
        have e12 : (yup mq13280 376 55 v13289) 412 (m 376 54).toNat = h := ((yup_na (by decide)).trans ((hFq13280 412 _ rfl).trans ((hFmz 412 _ rfl).trans ((yup_na (by decide)).trans (yup_eq _ _ _ _)))))
        exact y_retU c203_166 ⟨rfl, hT13290, hF13291, (VX.sc hVq13280 (by decide)), by omega, fun q hq => ((yup_na (by decide)).trans ((hFq13280 412 _ rfl).trans ((hFmz 412 _ rfl).trans ((yup_na (by decide)).trans (yup_nk hq)))))⟩
      · refine y_aload 139 c203_138 rfl rfl rfl ?_
        refine y_iload 141 c203_139 rfl rfl ?_
        refine y_iconst 142 c203_141 rfl ?_
        refine y_iadd 143 c203_142 rfl ?_
        refine y_iload 145 c203_143 rfl rfl ?_
        have es13297 : mq13280 376 51 = m 376 51 := ((hFq13280 376 51 rfl).trans ((hFmz 376 51 rfl).trans ((yup_nk (by decide)).trans (yup_na (by decide)))))
        have es13298 : mq13280 376 54 = (m 376 54) + 1 := ((hFq13280 376 54 rfl).trans ((hFmz 376 54 rfl).trans (yup_eq _ _ _ _)))
        have es13299 : mq13280 376 18 = m 376 18 := ((hFq13280 376 18 rfl).trans ((hFmz 376 18 rfl).trans ((yup_nk (by decide)).trans (yup_na (by decide)))))
        have hVc : VX 1 mq13280 := hVq13280
        refine y_callUB 148 [.ref 376, yI (v13279 + 3), yI g] [] c203_145 rfl rfl rfl rfl rfl (ycanO km202 ko376) (t202_1 hTq13280 hVc (by omega) (by omega) (by omega)) (fun mq13296 nq13296 hq13296 => ?_)
        obtain ⟨rfl, hTq13296, hFq13296, hVq13296⟩ := hq13296
        have hF13300 := hF13284.tr hFq13296 wGv_wEn
        refine y_aload 149 c203_148 rfl rfl rfl ?_
        refine y_aload 150 c203_149 rfl rfl rfl ?_
        refine y_getR 153 c203_150 rfl kf376_36 ?_
        refine y_iconst 155 c203_153 rfl ?_
        refine y_aload 156 c203_155 rfl rfl rfl ?_
        refine y_getX 159 (m 376 18) c203_156 rfl kf376_18 ((hFq13296 376 18 rfl).trans ((hFq13280 376 18 rfl).trans ((hFmz 376 18 rfl).trans ((yup_nk (by decide)).trans (yup_na (by decide)))))) ?_
        refine y_top 1 (by omega) ?_
        refine y_imul 160 c203_159 rfl ?_
        refine y_top 10 (by decide) ?_
        refine y_iload 161 c203_160 rfl rfl ?_
        refine y_iadd 162 c203_161 rfl ?_
        refine y_iaT 163 0 125 c203_162 rfl ka399 (by omega) hTq13296 rfl (fun v13301 hv13301 gv13301 => ?_)
        have gv13301_ : m 399 (10 * 1 + k.toNat) = v13301 := by rw [show 10 * 1 + k.toNat = (10 + k).toNat by omega]; exact (((hFq13296 399 _ rfl).trans ((hFq13280 399 _ rfl).trans ((hFmz 399 _ rfl).trans ((yup_na (by decide)).trans (yup_na (by decide))))))).symm.trans hv13301
        refine y_putI 166 c203_163 rfl kf376_55 (y_fit0 _) ?_
        have hT13302 := hTq13296.up 376 55 v13301 0 124 rfl (by omega)
        have hF13303 := hF13300.up 376 55 v13301 rfl
        have es13304 : (yup mq13296 376 55 v13301) 376 54 = (m 376 54) + 1 := ((yup_nk (by decide)).trans ((hFq13296 376 54 rfl).trans ((hFq13280 376 54 rfl).trans ((hFmz 376 54 rfl).trans (yup_eq _ _ _ _)))))
        have es13305 : (yup mq13296 376 55 v13301) 376 55 = v13301 := rfl
        have es13306 : (yup mq13296 376 55 v13301) 376 57 = m 376 57 := ((yup_nk (by decide)).trans ((hFq13296 376 57 rfl).trans ((hFq13280 376 57 rfl).trans ((hFmz 376 57 rfl).trans ((yup_nk (by decide)).trans (yup_na (by decide)))))))
        have es13307 : (yup mq13296 376 55 v13301) 376 51 = m 376 51 := ((yup_nk (by decide)).trans ((hFq13296 376 51 rfl).trans ((hFq13280 376 51 rfl).trans ((hFmz 376 51 rfl).trans ((yup_nk (by decide)).trans (yup_na (by decide)))))))
        have e12 : (yup mq13296 376 55 v13301) 412 (m 376 54).toNat = h := ((yup_na (by decide)).trans ((hFq13296 412 _ rfl).trans ((hFq13280 412 _ rfl).trans ((hFmz 412 _ rfl).trans ((yup_na (by decide)).trans (yup_eq _ _ _ _))))))
        exact y_retU c203_166 ⟨rfl, hT13302, hF13303, (VX.sc hVq13296 (by decide)), by omega, fun q hq => ((yup_na (by decide)).trans ((hFq13296 412 _ rfl).trans ((hFq13280 412 _ rfl).trans ((hFmz 412 _ rfl).trans ((yup_na (by decide)).trans (yup_nk hq))))))⟩
    · refine y_aload 112 c203_111 rfl rfl rfl ?_
      refine y_iload 114 c203_112 rfl rfl ?_
      refine y_iconst 115 c203_114 rfl ?_
      refine y_iadd 116 c203_115 rfl ?_
      refine y_iload 117 c203_116 rfl rfl ?_
      have es13309 : mq13280 376 51 = m 376 51 := ((hFq13280 376 51 rfl).trans ((hFmz 376 51 rfl).trans ((yup_nk (by decide)).trans (yup_na (by decide)))))
      have es13310 : mq13280 376 54 = (m 376 54) + 1 := ((hFq13280 376 54 rfl).trans ((hFmz 376 54 rfl).trans (yup_eq _ _ _ _)))
      have es13311 : mq13280 376 18 = m 376 18 := ((hFq13280 376 18 rfl).trans ((hFmz 376 18 rfl).trans ((yup_nk (by decide)).trans (yup_na (by decide)))))
      have hVc : VX 1 mq13280 := hVq13280
      refine y_callUB 120 [.ref 376, yI (v13279 + 2), yI f] [] c203_117 rfl rfl rfl rfl rfl (ycanO km202 ko376) (t202_1 hTq13280 hVc (by omega) (by omega) (by omega)) (fun mq13308 nq13308 hq13308 => ?_)
      obtain ⟨rfl, hTq13308, hFq13308, hVq13308⟩ := hq13308
      have hF13312 := hF13284.tr hFq13308 wGv_wEn
      refine y_aload 121 c203_120 rfl rfl rfl ?_
      refine y_getR 124 c203_121 rfl kf376_34 ?_
      refine y_iconst 126 c203_124 rfl ?_
      refine y_aload 127 c203_126 rfl rfl rfl ?_
      refine y_getX 130 (m 376 18) c203_127 rfl kf376_18 ((hFq13308 376 18 rfl).trans ((hFq13280 376 18 rfl).trans ((hFmz 376 18 rfl).trans ((yup_nk (by decide)).trans (yup_na (by decide)))))) ?_
      refine y_top 1 (by omega) ?_
      refine y_imul 131 c203_130 rfl ?_
      refine y_top 10 (by decide) ?_
      refine y_iload 132 c203_131 rfl rfl ?_
      refine y_iadd 133 c203_132 rfl ?_
      refine y_iaT 134 0 2 c203_133 rfl ka397 (by omega) hTq13308 rfl (fun v13313 hv13313 gv13313 => ?_)
      have gv13313_ : m 397 (10 * 1 + k.toNat) = v13313 := by rw [show 10 * 1 + k.toNat = (10 + k).toNat by omega]; exact (((hFq13308 397 _ rfl).trans ((hFq13280 397 _ rfl).trans ((hFmz 397 _ rfl).trans ((yup_na (by decide)).trans (yup_na (by decide))))))).symm.trans hv13313
      refine y_iconst 135 c203_134 rfl ?_
      refine y_icmp 148 138 c203_135 rfl rfl (yc_le (by omega) (by omega)) (fun hb13314 => ?_) (fun hb13314 => ?_)
      · refine y_aload 149 c203_148 rfl rfl rfl ?_
        refine y_aload 150 c203_149 rfl rfl rfl ?_
        refine y_getR 153 c203_150 rfl kf376_36 ?_
        refine y_iconst 155 c203_153 rfl ?_
        refine y_aload 156 c203_155 rfl rfl rfl ?_
        refine y_getX 159 (m 376 18) c203_156 rfl kf376_18 ((hFq13308 376 18 rfl).trans ((hFq13280 376 18 rfl).trans ((hFmz 376 18 rfl).trans ((yup_nk (by decide)).trans (yup_na (by decide)))))) ?_
        refine y_top 1 (by omega) ?_
        refine y_imul 160 c203_159 rfl ?_
        refine y_top 10 (by decide) ?_
        refine y_iload 161 c203_160 rfl rfl ?_
        refine y_iadd 162 c203_161 rfl ?_
        refine y_iaT 163 0 125 c203_162 rfl ka399 (by omega) hTq13308 rfl (fun v13315 hv13315 gv13315 => ?_)
        have gv13315_ : m 399 (10 * 1 + k.toNat) = v13315 := by rw [show 10 * 1 + k.toNat = (10 + k).toNat by omega]; exact (((hFq13308 399 _ rfl).trans ((hFq13280 399 _ rfl).trans ((hFmz 399 _ rfl).trans ((yup_na (by decide)).trans (yup_na (by decide))))))).symm.trans hv13315
        refine y_putI 166 c203_163 rfl kf376_55 (y_fit0 _) ?_
        have hT13316 := hTq13308.up 376 55 v13315 0 124 rfl (by omega)
        have hF13317 := hF13312.up 376 55 v13315 rfl
        have es13318 : (yup mq13308 376 55 v13315) 376 54 = (m 376 54) + 1 := ((yup_nk (by decide)).trans ((hFq13308 376 54 rfl).trans ((hFq13280 376 54 rfl).trans ((hFmz 376 54 rfl).trans (yup_eq _ _ _ _)))))
        have es13319 : (yup mq13308 376 55 v13315) 376 55 = v13315 := rfl
        have es13320 : (yup mq13308 376 55 v13315) 376 57 = m 376 57 := ((yup_nk (by decide)).trans ((hFq13308 376 57 rfl).trans ((hFq13280 376 57 rfl).trans ((hFmz 376 57 rfl).trans ((yup_nk (by decide)).trans (yup_na (by decide)))))))
        have es13321 : (yup mq13308 376 55 v13315) 376 51 = m 376 51 := ((yup_nk (by decide)).trans ((hFq13308 376 51 rfl).trans ((hFq13280 376 51 rfl).trans ((hFmz 376 51 rfl).trans ((yup_nk (by decide)).trans (yup_na (by decide)))))))
        have e12 : (yup mq13308 376 55 v13315) 412 (m 376 54).toNat = h := ((yup_na (by decide)).trans ((hFq13308 412 _ rfl).trans ((hFq13280 412 _ rfl).trans ((hFmz 412 _ rfl).trans ((yup_na (by decide)).trans (yup_eq _ _ _ _))))))
        exact y_retU c203_166 ⟨rfl, hT13316, hF13317, (VX.sc hVq13308 (by decide)), by omega, fun q hq => ((yup_na (by decide)).trans ((hFq13308 412 _ rfl).trans ((hFq13280 412 _ rfl).trans ((hFmz 412 _ rfl).trans ((yup_na (by decide)).trans (yup_nk hq))))))⟩
      · refine y_aload 139 c203_138 rfl rfl rfl ?_
        refine y_iload 141 c203_139 rfl rfl ?_
        refine y_iconst 142 c203_141 rfl ?_
        refine y_iadd 143 c203_142 rfl ?_
        refine y_iload 145 c203_143 rfl rfl ?_
        have es13323 : mq13308 376 51 = m 376 51 := ((hFq13308 376 51 rfl).trans ((hFq13280 376 51 rfl).trans ((hFmz 376 51 rfl).trans ((yup_nk (by decide)).trans (yup_na (by decide))))))
        have es13324 : mq13308 376 54 = (m 376 54) + 1 := ((hFq13308 376 54 rfl).trans ((hFq13280 376 54 rfl).trans ((hFmz 376 54 rfl).trans (yup_eq _ _ _ _))))
        have es13325 : mq13308 376 18 = m 376 18 := ((hFq13308 376 18 rfl).trans ((hFq13280 376 18 rfl).trans ((hFmz 376 18 rfl).trans ((yup_nk (by decide)).trans (yup_na (by decide))))))
        have hVc : VX 1 mq13308 := hVq13308
        refine y_callUB 148 [.ref 376, yI (v13279 + 3), yI g] [] c203_145 rfl rfl rfl rfl rfl (ycanO km202 ko376) (t202_1 hTq13308 hVc (by omega) (by omega) (by omega)) (fun mq13322 nq13322 hq13322 => ?_)
        obtain ⟨rfl, hTq13322, hFq13322, hVq13322⟩ := hq13322
        have hF13326 := hF13312.tr hFq13322 wGv_wEn
        refine y_aload 149 c203_148 rfl rfl rfl ?_
        refine y_aload 150 c203_149 rfl rfl rfl ?_
        refine y_getR 153 c203_150 rfl kf376_36 ?_
        refine y_iconst 155 c203_153 rfl ?_
        refine y_aload 156 c203_155 rfl rfl rfl ?_
        refine y_getX 159 (m 376 18) c203_156 rfl kf376_18 ((hFq13322 376 18 rfl).trans ((hFq13308 376 18 rfl).trans ((hFq13280 376 18 rfl).trans ((hFmz 376 18 rfl).trans ((yup_nk (by decide)).trans (yup_na (by decide))))))) ?_
        refine y_top 1 (by omega) ?_
        refine y_imul 160 c203_159 rfl ?_
        refine y_top 10 (by decide) ?_
        refine y_iload 161 c203_160 rfl rfl ?_
        refine y_iadd 162 c203_161 rfl ?_
        refine y_iaT 163 0 125 c203_162 rfl ka399 (by omega) hTq13322 rfl (fun v13327 hv13327 gv13327 => ?_)
        have gv13327_ : m 399 (10 * 1 + k.toNat) = v13327 := by rw [show 10 * 1 + k.toNat = (10 + k).toNat by omega]; exact (((hFq13322 399 _ rfl).trans ((hFq13308 399 _ rfl).trans ((hFq13280 399 _ rfl).trans ((hFmz 399 _ rfl).trans ((yup_na (by decide)).trans (yup_na (by decide)))))))).symm.trans hv13327
        refine y_putI 166 c203_163 rfl kf376_55 (y_fit0 _) ?_
        have hT13328 := hTq13322.up 376 55 v13327 0 124 rfl (by omega)
        have hF13329 := hF13326.up 376 55 v13327 rfl
        have es13330 : (yup mq13322 376 55 v13327) 376 54 = (m 376 54) + 1 := ((yup_nk (by decide)).trans ((hFq13322 376 54 rfl).trans ((hFq13308 376 54 rfl).trans ((hFq13280 376 54 rfl).trans ((hFmz 376 54 rfl).trans (yup_eq _ _ _ _))))))
        have es13331 : (yup mq13322 376 55 v13327) 376 55 = v13327 := rfl
        have es13332 : (yup mq13322 376 55 v13327) 376 57 = m 376 57 := ((yup_nk (by decide)).trans ((hFq13322 376 57 rfl).trans ((hFq13308 376 57 rfl).trans ((hFq13280 376 57 rfl).trans ((hFmz 376 57 rfl).trans ((yup_nk (by decide)).trans (yup_na (by decide))))))))
        have es13333 : (yup mq13322 376 55 v13327) 376 51 = m 376 51 := ((yup_nk (by decide)).trans ((hFq13322 376 51 rfl).trans ((hFq13308 376 51 rfl).trans ((hFq13280 376 51 rfl).trans ((hFmz 376 51 rfl).trans ((yup_nk (by decide)).trans (yup_na (by decide))))))))
        have e12 : (yup mq13322 376 55 v13327) 412 (m 376 54).toNat = h := ((yup_na (by decide)).trans ((hFq13322 412 _ rfl).trans ((hFq13308 412 _ rfl).trans ((hFq13280 412 _ rfl).trans ((hFmz 412 _ rfl).trans ((yup_na (by decide)).trans (yup_eq _ _ _ _)))))))
        exact y_retU c203_166 ⟨rfl, hT13328, hF13329, (VX.sc hVq13322 (by decide)), by omega, fun q hq => ((yup_na (by decide)).trans ((hFq13322 412 _ rfl).trans ((hFq13308 412 _ rfl).trans ((hFq13280 412 _ rfl).trans ((hFmz 412 _ rfl).trans ((yup_na (by decide)).trans (yup_nk hq)))))))⟩
  · refine y_aload 9 c203_8 rfl rfl rfl ?_
    refine y_iconst 10 c203_9 rfl ?_
    refine y_putI 13 c203_10 rfl kf376_57 (y_fit0 _) ?_
    have hT13334 := hT.up 376 57 4 0 4 rfl (by omega)
    have hF13335 := hF.up 376 57 4 rfl
    have es13336 : (yup m 376 57 4) 376 54 = m 376 54 := rfl
    have es13337 : (yup m 376 57 4) 376 55 = m 376 55 := rfl
    have es13338 : (yup m 376 57 4) 376 57 = 4 := rfl
    have es13339 : (yup m 376 57 4) 376 51 = m 376 51 := rfl
    exact y_retU c203_13 ⟨rfl, hT13334, hF13335, (VX.sc hV (by decide)), by omega, fun q hq => (yup_na (by decide))⟩
end
