/-! CONTRACTS: the model, run. Printed by wip/whole/gen9i.py -/
set_option maxRecDepth 100000 in
theorem t211e_0 {L : Nat} {xs : Nat → Int32} {d nn : Nat} {m0 mi : yM} (hTi : Ty gT mi) (hF0 : Fr wML m0 mi) (hM : MI mi) (hx : mi 376 57 ≠ 0 ∨ mi 376 54 = 0) {x1 : Option Value} : YW (gZ L xs) 211 (d + 6) 83 [some (.ref 376), x1] [] mi nn (qMd nn m0) := by
  have t7 := hTi.atp 376 57 0 4 rfl
  have t4 := hTi.atp 376 54 0 4 rfl
  have t6 := hTi.atp 376 56 0 201 rfl
  refine y_aload 84 c211_83 rfl rfl rfl ?_
  refine y_getX 87 (mi 376 57) c211_84 rfl kf376_57 rfl ?_
  refine y_if 104 90 c211_87 rfl rfl (yz_ne (by omega)) (fun hb14297 => ?_) (fun hb14297 => ?_)
  · refine y_aload 105 c211_104 rfl rfl rfl ?_
    refine y_getX 108 (mi 376 57) c211_105 rfl kf376_57 rfl ?_
    refine y_if 118 111 c211_108 rfl rfl (yz_ne (by omega)) (fun hb14298 => ?_) (fun hb14298 => ?_)
    · refine y_iconst 119 c211_118 rfl ?_
      exact y_ireturn c211_119 (y_fit0 _) ⟨_, rfl, rfl, hF0, hM⟩
    · exfalso; omega
  · refine y_aload 91 c211_90 rfl rfl rfl ?_
    refine y_getX 94 (mi 376 54) c211_91 rfl kf376_54 rfl ?_
    refine y_if 104 97 c211_94 rfl rfl (yz_le (by omega)) (fun hb14299 => ?_) (fun hb14299 => ?_)
    · refine y_aload 105 c211_104 rfl rfl rfl ?_
      refine y_getX 108 (mi 376 57) c211_105 rfl kf376_57 rfl ?_
      refine y_top 0 (by omega) ?_
      refine y_if 118 111 c211_108 rfl rfl (yz_ne (by omega)) (fun hb14300 => ?_) (fun hb14300 => ?_)
      · exfalso; omega
      · refine y_aload 112 c211_111 rfl rfl rfl ?_
        refine y_getX 115 (mi 376 56) c211_112 rfl kf376_56 rfl ?_
        refine y_goto 119 c211_115 rfl ?_
        exact y_ireturn c211_119 (y_fit0 _) ⟨_, rfl, rfl, hF0, hM⟩
    · exfalso; omega
set_option maxRecDepth 100000 in
theorem t211a_0 {L : Nat} {xs : Nat → Int32} {d nn : Nat} {m : yM} {m0 : yM} (hT : Ty gT m) (hn : m 376 18 = 0) (hG : GQ 0 m) (hF0 : Fr wML m0 m) (h19 : m 376 19 = 1) {x1 : Option Value} : ∀ (k : Nat) (mi : yM), MR 0 mi = k → Ty gT mi → Fr wRn m mi → VX 0 mi → RN 0 mi → YW (gZ L xs) 211 (d + 6) 83 [some (.ref 376), x1] [] mi nn (qMd nn m0) := by
  intro k
  induction k using Nat.strongRecOn with
  | ind k ih =>
    intro mi hk hTi hFi hVi hRi
    have t7 := hTi.atp 376 57 0 4 rfl
    have t4 := hTi.atp 376 54 0 4 rfl
    have e18 : mi 376 18 = m 376 18 := hFi 376 18 rfl
    have hr1 := hRi.1
    have hr3 := hRi.2.2.1
    refine y_aload 84 c211_83 rfl rfl rfl ?_
    refine y_getX 87 (mi 376 57) c211_84 rfl kf376_57 rfl ?_
    refine y_if 104 90 c211_87 rfl rfl (yz_ne (by omega)) (fun hb14301 => ?_) (fun hb14301 => ?_)
    · exfalso; omega
    · refine y_aload 91 c211_90 rfl rfl rfl ?_
      refine y_getX 94 (mi 376 54) c211_91 rfl kf376_54 rfl ?_
      refine y_if 104 97 c211_94 rfl rfl (yz_le (by omega)) (fun hb14302 => ?_) (fun hb14302 => ?_)
      · exfalso; omega
      · refine y_aload 98 c211_97 rfl rfl rfl ?_
        refine y_callUB 101 [.ref 376] [] c211_98 rfl rfl rfl rfl rfl (ycanO km210 ko376) (t210_0 hTi (by omega) (hG.fr hT (by decide) (fun a q ha => hFi a q (wRn_G a q ha))) hVi hRi) (fun mq14303 nq14303 hq14303 => ?_)
        obtain ⟨rfl, hTq14303, hFq14303, hVq14303, hq14303⟩ := hq14303
        have hFn := hFi.tr hFq14303 (fun _ _ e => e)
        have hMn : MI mq14303 := ⟨hTq14303, Or.inr (Or.inl ⟨(hFn 376 18 rfl).trans hn, hG.fr hT (by decide) (fun a q ha => hFn a q (wRn_G a q ha))⟩)⟩
        refine y_goto 83 c211_101 rfl ?_
        rcases hq14303 with z | z | z
        · exact t211e_0 hTq14303 (hF0.tr hFn wRn_wML) hMn (Or.inl z)
        · exact t211e_0 hTq14303 (hF0.tr hFn wRn_wML) hMn (Or.inr z)
        · have tl := hTq14303.atp 376 55 0 124 rfl
          have hl := rk_lo (p := 0) (m := mq14303) (o := mq14303 376 55) (by omega)
          have t56 := hTq14303.atp 376 56 0 201 rfl
          have t54 := hTq14303.atp 376 54 0 4 rfl
          have hm0 : 0 ≤ MR 0 mq14303 := by unfold MR; omega
          exact ih (MR 0 mq14303).toNat (by omega) _ (by omega) hTq14303 hFn hVq14303 z.1
theorem wRo8_wRn : ∀ a q, (wRo 408) a q = true → wRn a q = true := by
  intro a q e; simp [wRo] at e; simp [wRn]; omega
set_option maxRecDepth 100000 in
theorem t211_0 {L : Nat} {xs : Nat → Int32} {d nn : Nat} {m : yM} (hT : Ty gT m) (hn : m 376 18 = 0) (hI : m 376 19 = 0 ∨ GQ 0 m) (hMI : MI m) : YC (gZ L xs) (d + 6) 211 [.ref 376] m nn (qMd nn m) := by
  have tb383 := hT.atp 383 0 0 6 rfl
  have tb384 := hT.atp 384 0 0 10 rfl
  have tb385 := hT.atp 385 0 0 8 rfl
  have tb386 := hT.atp 386 0 0 12 rfl
  have tb387 := hT.atp 387 0 0 8 rfl
  have tb388 := hT.atp 388 0 0 12 rfl
  have tb389 := hT.atp 389 0 0 48 rfl
  have tb390 := hT.atp 390 0 0 125 rfl
  have t19 := hT.atp 376 19 0 1 rfl
  refine YC.mkB [some (.ref 376), none] kn211 rfl rfl ?_
  have hF : Fr wRn m m := Fr.rf
  refine y_aload 1 c211_0 rfl rfl rfl ?_
  refine y_aload 2 c211_1 rfl rfl rfl ?_
  refine y_getX 5 (m 376 19) c211_2 rfl kf376_19 rfl ?_
  refine y_if 19 8 c211_5 rfl rfl (yz_eq (by omega)) (fun hb14304 => ?_) (fun hb14304 => ?_)
  · refine y_iconst 20 c211_19 rfl ?_
    refine y_inlB 23 [.ref 376, yI 0] [] [some (.ref 376), some (yI 0)] c211_20 rfl rfl rfl rfl rfl (ycanO km162 ko376) kn162 rfl rfl ?_
    refine y_aload 1 c162_0 rfl rfl rfl ?_
    refine y_aload 2 c162_1 rfl rfl rfl ?_
    refine y_getX 5 (m 376 19) c162_2 rfl kf376_19 rfl ?_
    refine y_top 0 (by omega) ?_
    refine y_if 16 8 c162_5 rfl rfl (yz_eq (by omega)) (fun hb14305 => ?_) (fun hb14305 => ?_)
    · refine y_iconst 17 c162_16 rfl ?_
      refine y_iconst 18 c162_17 rfl ?_
      refine y_inlB 21 [.ref 376, yI 0, yI 1] [] [some (.ref 376), some (yI 0), some (yI 1)] c162_18 rfl rfl rfl rfl rfl (ycanO km23 ko376) kn23 rfl rfl ?_
      refine y_aload 1 c23_0 rfl rfl rfl ?_
      refine y_iload 2 c23_1 rfl rfl ?_
      refine y_if 9 5 c23_2 rfl rfl (yz_eq (by omega)) (fun hb14306 => ?_) (fun hb14306 => ?_)
      · refine y_iload 10 c23_9 rfl rfl ?_
        refine y_putI 13 c23_10 rfl kf376_57 (y_fit0 _) ?_
        have hT14307 := hT.up 376 57 1 0 4 rfl (by omega)
        have hF14308 := hF.up 376 57 1 rfl
        refine y_iload 14 c23_13 rfl rfl ?_
        refine y_ireturnK c23_14 (y_fit1 (by omega)) ?_
        refine y_ireturnK c162_21 (y_fit1 (by omega)) ?_
        refine y_if 28 26 c211_23 rfl rfl (yz_ne (by omega)) (fun hb14309 => ?_) (fun hb14309 => ?_)
        · exfalso; omega
        · refine y_iconst 27 c211_26 rfl ?_
          exact y_ireturn c211_27 (y_fit0 _) ⟨_, rfl, rfl, Fr.rf.tr hF14308 wRn_wML, hMI.fr hT14307 (fun a q ha => (yup_ne (by rintro ⟨rfl, rfl⟩; simp [vGq] at ha)))⟩
      · exfalso; omega
    · exfalso; omega
  · have hG := hI.resolve_left (by omega)
    have g83 := hG.2.2.2.2.2.2.2.2.2.1
    have g88 := hG.2.2.2.2.2.2.2.2.1
    have g90 : m 390 0 ≤ 100 := hG.2.2.2.2.2.2.2.2.2.2.1
    refine y_aload 9 c211_8 rfl rfl rfl ?_
    have tb14311 := hT.atp 376 18 0 1 rfl
    have hUc := hG.2.2.2.2.1
    refine y_callP 12 [.ref 376] [.ref 376] c211_9 rfl rfl rfl rfl rfl (ycanO km143 ko376) (t143x_0 hT (by omega) hUc (by omega)) (fun r14310 hr14310 => ?_)
    have gr14310 : -1 ≤ r14310 ∧ r14310 < m 384 0 := by
      rcases hr14310 with z | z
      · exact ⟨by have := z.1.1; omega, z.1.2.1⟩
      · omega
    have hs1 : 0 ≤ r14310 → SG 0 m r14310 := fun h0 => hr14310.resolve_right (by rintro ⟨h1, -⟩; omega)
    refine y_if 19 15 c211_12 rfl rfl (yz_lt (by omega)) (fun hb14312 => ?_) (fun hb14312 => ?_)
    · refine y_iconst 20 c211_19 rfl ?_
      refine y_inlB 23 [.ref 376, yI 0] [] [some (.ref 376), some (yI 0)] c211_20 rfl rfl rfl rfl rfl (ycanO km162 ko376) kn162 rfl rfl ?_
      refine y_aload 1 c162_0 rfl rfl rfl ?_
      refine y_aload 2 c162_1 rfl rfl rfl ?_
      refine y_getX 5 (m 376 19) c162_2 rfl kf376_19 rfl ?_
      refine y_top 1 (by omega) ?_
      refine y_if 16 8 c162_5 rfl rfl (yz_eq (by omega)) (fun hb14313 => ?_) (fun hb14313 => ?_)
      · exfalso; omega
      · refine y_iload 9 c162_8 rfl rfl ?_
        refine y_if 16 12 c162_9 rfl rfl (yz_eq (by omega)) (fun hb14314 => ?_) (fun hb14314 => ?_)
        · refine y_iconst 17 c162_16 rfl ?_
          refine y_iconst 18 c162_17 rfl ?_
          refine y_inlB 21 [.ref 376, yI 0, yI 1] [] [some (.ref 376), some (yI 0), some (yI 1)] c162_18 rfl rfl rfl rfl rfl (ycanO km23 ko376) kn23 rfl rfl ?_
          refine y_aload 1 c23_0 rfl rfl rfl ?_
          refine y_iload 2 c23_1 rfl rfl ?_
          refine y_if 9 5 c23_2 rfl rfl (yz_eq (by omega)) (fun hb14315 => ?_) (fun hb14315 => ?_)
          · refine y_iload 10 c23_9 rfl rfl ?_
            refine y_putI 13 c23_10 rfl kf376_57 (y_fit0 _) ?_
            have hT14316 := hT.up 376 57 1 0 4 rfl (by omega)
            have hF14317 := hF.up 376 57 1 rfl
            refine y_iload 14 c23_13 rfl rfl ?_
            refine y_ireturnK c23_14 (y_fit1 (by omega)) ?_
            refine y_ireturnK c162_21 (y_fit1 (by omega)) ?_
            refine y_if 28 26 c211_23 rfl rfl (yz_ne (by omega)) (fun hb14318 => ?_) (fun hb14318 => ?_)
            · exfalso; omega
            · refine y_iconst 27 c211_26 rfl ?_
              exact y_ireturn c211_27 (y_fit0 _) ⟨_, rfl, rfl, Fr.rf.tr hF14317 wRn_wML, hMI.fr hT14316 (fun a q ha => (yup_ne (by rintro ⟨rfl, rfl⟩; simp [vGq] at ha)))⟩
          · exfalso; omega
        · exfalso; omega
    · refine y_iconst 16 c211_15 rfl ?_
      refine y_goto 20 c211_16 rfl ?_
      refine y_inlB 23 [.ref 376, yI 1] [] [some (.ref 376), some (yI 1)] c211_20 rfl rfl rfl rfl rfl (ycanO km162 ko376) kn162 rfl rfl ?_
      refine y_aload 1 c162_0 rfl rfl rfl ?_
      refine y_aload 2 c162_1 rfl rfl rfl ?_
      refine y_getX 5 (m 376 19) c162_2 rfl kf376_19 rfl ?_
      refine y_top 1 (by omega) ?_
      refine y_if 16 8 c162_5 rfl rfl (yz_eq (by omega)) (fun hb14319 => ?_) (fun hb14319 => ?_)
      · exfalso; omega
      · refine y_iload 9 c162_8 rfl rfl ?_
        refine y_if 16 12 c162_9 rfl rfl (yz_eq (by omega)) (fun hb14320 => ?_) (fun hb14320 => ?_)
        · exfalso; omega
        · refine y_iconst 13 c162_12 rfl ?_
          refine y_goto 17 c162_13 rfl ?_
          refine y_iconst 18 c162_17 rfl ?_
          refine y_inlB 21 [.ref 376, yI 1, yI 1] [] [some (.ref 376), some (yI 1), some (yI 1)] c162_18 rfl rfl rfl rfl rfl (ycanO km23 ko376) kn23 rfl rfl ?_
          refine y_aload 1 c23_0 rfl rfl rfl ?_
          refine y_iload 2 c23_1 rfl rfl ?_
          refine y_if 9 5 c23_2 rfl rfl (yz_eq (by omega)) (fun hb14321 => ?_) (fun hb14321 => ?_)
          · exfalso; omega
          · refine y_iconst 6 c23_5 rfl ?_
            refine y_goto 10 c23_6 rfl ?_
            refine y_putI 13 c23_10 rfl kf376_57 (y_fit0 _) ?_
            have hT14322 := hT.up 376 57 0 0 4 rfl (by omega)
            have hF14323 := hF.up 376 57 0 rfl
            refine y_iload 14 c23_13 rfl rfl ?_
            refine y_ireturnK c23_14 (y_fit1 (by omega)) ?_
            refine y_ireturnK c162_21 (y_fit1 (by omega)) ?_
            refine y_if 28 26 c211_23 rfl rfl (yz_ne (by omega)) (fun hb14324 => ?_) (fun hb14324 => ?_)
            · refine y_iconst 29 c211_28 rfl ?_
              refine y_istore 30 c211_29 rfl rfl ?_
              refine t211s hT14322 (fun z1 mz hTmz hFmz => ?_) 576 0 _ (by omega) (by omega) hT14322 Fr.rf
              have hF14325 := hF14323.tr hFmz wRo8_wRn
              refine y_aload 51 c211_50 rfl rfl rfl ?_
              refine y_iconst 52 c211_51 rfl ?_
              refine y_putI 55 c211_52 rfl kf376_51 (y_fit0 _) ?_
              have hT14326 := hTmz.up 376 51 0 0 30 rfl (by omega)
              have hF14327 := hF14325.up 376 51 0 rfl
              refine y_aload 56 c211_55 rfl rfl rfl ?_
              refine y_iconst 57 c211_56 rfl ?_
              refine y_putI 60 c211_57 rfl kf376_54 (y_fit0 _) ?_
              have hT14328 := hT14326.up 376 54 0 0 4 rfl (by omega)
              have hF14329 := hF14327.up 376 54 0 rfl
              refine y_aload 61 c211_60 rfl rfl rfl ?_
              refine y_iconst 62 c211_61 rfl ?_
              refine y_putI 65 c211_62 rfl kf376_56 (y_fit0 _) ?_
              have hT14330 := hT14328.up 376 56 0 0 201 rfl (by omega)
              have hF14331 := hF14329.up 376 56 0 rfl
              have es14332 : (yup (yup (yup mz 376 51 0) 376 54 0) 376 56 0) 376 51 = 0 := rfl
              have es14333 : (yup (yup (yup mz 376 51 0) 376 54 0) 376 56 0) 376 54 = 0 := rfl
              have hV0 : VX 0 (yup (yup (yup mz 376 51 0) 376 54 0) 376 56 0) := ⟨fun q hq => by omega, fun q hq => by omega, fun q hq => by omega⟩
              obtain ⟨ms, hms⟩ : ∃ ms : yM, ms = yup (yup (yup mz 376 51 0) 376 54 0) 376 56 0 := ⟨_, rfl⟩
              have hTs : Ty gT ms := hms ▸ hT14330
              have hFs : Fr wRn m ms := hms ▸ hF14331
              have hVs : VX 0 ms := hms ▸ hV0
              have es51 : ms 376 51 = 0 := by rw [hms]; first | rfl | exact rfl
              have es54 : ms 376 54 = 0 := by rw [hms]; first | rfl | exact rfl
              have es56 : ms 376 56 = 0 := by rw [hms]; first | rfl | exact rfl
              have es57 : ms 376 57 = 0 := by rw [hms]; exact ((yup_nk (by decide)).trans ((yup_nk (by decide)).trans ((yup_nk (by decide)).trans ((hFmz 376 57 rfl).trans (yup_eq _ _ _ _)))))
              rw [← hms]
              refine y_aload 66 c211_65 rfl rfl rfl ?_
              refine y_iconst 67 c211_66 rfl ?_
              have tb14335 := hTs.atp 376 51 0 30 rfl
              have tb14336 := hTs.atp 376 54 0 4 rfl
              have es14337 : ms 376 18 = m 376 18 := (hFs 376 18 rfl)
              have es14338 : ms 388 0 = m 388 0 := (hFs 388 0 rfl)
              have tb14339 := hTs.atp 376 57 0 4 rfl
              have hVc : VX 0 ms := hVs
              refine y_callIB 70 [.ref 376, yI 0] [] c211_67 rfl rfl rfl rfl rfl (ycanO km201 ko376) (t201_0 hTs hVc (by omega)) (fun rq14334 mq14334 nq14334 hq14334 => ?_)
              obtain ⟨rfl, hTq14334, hFq14334, hq14334, hcq14334, hVq14334⟩ := hq14334
              have hF14340 := hFs.tr hFq14334 wMk_wRn
              refine y_istore 71 c211_70 rfl rfl ?_
              refine y_aload 72 c211_71 rfl rfl rfl ?_
              refine y_aload 73 c211_72 rfl rfl rfl ?_
              have es14342 : mq14334 376 18 = m 376 18 := ((hFq14334 376 18 rfl).trans (hFs 376 18 rfl))
              have es14343 : mq14334 383 0 = m 383 0 := ((hFq14334 383 0 rfl).trans (hFs 383 0 rfl))
              have es14344 : mq14334 384 0 = m 384 0 := ((hFq14334 384 0 rfl).trans (hFs 384 0 rfl))
              have hUc : UX 0 mq14334 (mq14334 383 0) := by rw [show mq14334 383 0 = m 383 0 from ((hFq14334 383 0 rfl).trans (hFs 383 0 rfl))]; exact hG.2.2.2.2.1.fr (fun q => ((hFq14334 392 q rfl).trans (hFs 392 q rfl)))
              refine y_callP 76 [.ref 376] [.ref 376] c211_73 rfl rfl rfl rfl rfl (ycanO km143 ko376) (t143x_0 hTq14334 (by omega) hUc (by omega)) (fun r14341 hr14341 => ?_)
              have gr14341 : -1 ≤ r14341 ∧ r14341 < mq14334 384 0 := by
                rcases hr14341 with z | z
                · exact ⟨by have := z.1.1; omega, z.1.2.1⟩
                · omega
              have hs2 : SG 0 mq14334 r14310 := (hs1 (by omega)).fr (((hFq14334 384 0 rfl).trans (hFs 384 0 rfl))) (fun q => ((hFq14334 395 q rfl).trans (hFs 395 q rfl))) (fun q => ((hFq14334 396 q rfl).trans (hFs 396 q rfl))) (fun q => ((hFq14334 397 q rfl).trans (hFs 397 q rfl)))
              have hs3 : SG 0 mq14334 r14341 := hr14341.resolve_right (fun h1 => h1.2 _ hs2)
              have hs4 := hs3.1.1
              have hs5 := hs3.1.2.1
              refine y_iload 77 c211_76 rfl rfl ?_
              refine y_iconst 78 c211_77 rfl ?_
              refine y_iconst 79 c211_78 rfl ?_
              refine y_iconst 80 c211_79 rfl ?_
              have tb14346 := hTq14334.atp 376 51 0 30 rfl
              have es14347 : mq14334 376 54 = ms 376 54 := (hFq14334 376 54 rfl)
              have es14348 : mq14334 376 18 = m 376 18 := ((hFq14334 376 18 rfl).trans (hFs 376 18 rfl))
              have es14349 : mq14334 384 0 = m 384 0 := ((hFq14334 384 0 rfl).trans (hFs 384 0 rfl))
              have es14350 : mq14334 390 0 = m 390 0 := ((hFq14334 390 0 rfl).trans (hFs 390 0 rfl))
              have tb14351 := hTq14334.atp 376 57 0 4 rfl
              have es14352 : mq14334 376 55 = ms 376 55 := (hFq14334 376 55 rfl)
              have tb14353 := hTs.atp 376 55 0 124 rfl
              have es14354 : mq14334 376 56 = ms 376 56 := (hFq14334 376 56 rfl)
              have tb14355 := hTs.atp 376 56 0 201 rfl
              have hVc : VX 0 mq14334 := hVq14334
              refine y_callUB 83 [.ref 376, yI r14341, yI rq14334, yI 0, yI 0, yI 0] [] c211_80 rfl rfl rfl rfl rfl (ycanO km203 ko376) (t203_0 hTq14334 (by omega) (hG.fr hT (by decide) (fun a q ha => hF14340 a q (wRn_G a q ha))) hVc (by omega) (by omega) (by omega) (by omega) (by omega)) (fun mq14345 nq14345 hq14345 => ?_)
              obtain ⟨rfl, hTq14345, hFq14345, hVq14345, hq14345, hqq14345⟩ := hq14345
              have hF14356 := hF14340.tr hFq14345 wEn_wRn
              have tb14357 := hTq14345.atp 376 54 0 4 rfl
              have tb14358 := hTq14345.atp 376 55 0 124 rfl
              have es14359 : mq14345 376 56 = ms 376 56 := ((hFq14345 376 56 rfl).trans (hFq14334 376 56 rfl))
              have tb14360 := hTq14345.atp 376 57 0 4 rfl
              have es14361 : mq14345 390 0 = m 390 0 := ((hFq14345 390 0 rfl).trans ((hFq14334 390 0 rfl).trans (hFs 390 0 rfl)))
              have hMn : MI mq14345 := ⟨hTq14345, Or.inr (Or.inl ⟨(hF14356 376 18 rfl).trans hn, hG.fr hT (by decide) (fun a q ha => hF14356 a q (wRn_G a q ha))⟩)⟩
              have tc := hTq14345.atp 376 57 0 4 rfl
              by_cases hz : mq14345 376 57 = 0
              · have hR : RN 0 mq14345 := ⟨by omega, by omega, hz, by omega, fun f h1 h2 => by omega⟩
                have tl := hTq14345.atp 376 55 0 124 rfl
                have hl := rk_lo (p := 0) (m := mq14345) (o := mq14345 376 55) (by omega)
                have t56 := hTq14345.atp 376 56 0 201 rfl
                have t54 := hTq14345.atp 376 54 0 4 rfl
                have hm0 : 0 ≤ MR 0 mq14345 := by unfold MR; omega
                exact t211a_0 hT hn hG Fr.rf (by omega) (MR 0 mq14345).toNat _ (by omega) hTq14345 hF14356 hVq14345 hR
              · exact t211e_0 hTq14345 (Fr.rf.tr hF14356 wRn_wML) hMn (Or.inl hz)
            · exfalso; omega
set_option maxRecDepth 100000 in
theorem t211a_1 {L : Nat} {xs : Nat → Int32} {d nn : Nat} {m : yM} {m0 : yM} (hT : Ty gT m) (hn : m 376 18 = 1) (hG : GQ 1 m) (hF0 : Fr wML m0 m) (h19 : m 376 19 = 1) {x1 : Option Value} : ∀ (k : Nat) (mi : yM), MR 1 mi = k → Ty gT mi → Fr wRn m mi → VX 1 mi → RN 1 mi → YW (gZ L xs) 211 (d + 6) 83 [some (.ref 376), x1] [] mi nn (qMd nn m0) := by
  intro k
  induction k using Nat.strongRecOn with
  | ind k ih =>
    intro mi hk hTi hFi hVi hRi
    have t7 := hTi.atp 376 57 0 4 rfl
    have t4 := hTi.atp 376 54 0 4 rfl
    have e18 : mi 376 18 = m 376 18 := hFi 376 18 rfl
    have hr1 := hRi.1
    have hr3 := hRi.2.2.1
    refine y_aload 84 c211_83 rfl rfl rfl ?_
    refine y_getX 87 (mi 376 57) c211_84 rfl kf376_57 rfl ?_
    refine y_if 104 90 c211_87 rfl rfl (yz_ne (by omega)) (fun hb14382 => ?_) (fun hb14382 => ?_)
    · exfalso; omega
    · refine y_aload 91 c211_90 rfl rfl rfl ?_
      refine y_getX 94 (mi 376 54) c211_91 rfl kf376_54 rfl ?_
      refine y_if 104 97 c211_94 rfl rfl (yz_le (by omega)) (fun hb14383 => ?_) (fun hb14383 => ?_)
      · exfalso; omega
      · refine y_aload 98 c211_97 rfl rfl rfl ?_
        refine y_callUB 101 [.ref 376] [] c211_98 rfl rfl rfl rfl rfl (ycanO km210 ko376) (t210_1 hTi (by omega) (hG.fr hT (by decide) (fun a q ha => hFi a q (wRn_G a q ha))) hVi hRi) (fun mq14384 nq14384 hq14384 => ?_)
        obtain ⟨rfl, hTq14384, hFq14384, hVq14384, hq14384⟩ := hq14384
        have hFn := hFi.tr hFq14384 (fun _ _ e => e)
        have hMn : MI mq14384 := ⟨hTq14384, Or.inr (Or.inr ⟨(hFn 376 18 rfl).trans hn, hG.fr hT (by decide) (fun a q ha => hFn a q (wRn_G a q ha))⟩)⟩
        refine y_goto 83 c211_101 rfl ?_
        rcases hq14384 with z | z | z
        · exact t211e_0 hTq14384 (hF0.tr hFn wRn_wML) hMn (Or.inl z)
        · exact t211e_0 hTq14384 (hF0.tr hFn wRn_wML) hMn (Or.inr z)
        · have tl := hTq14384.atp 376 55 0 124 rfl
          have hl := rk_lo (p := 1) (m := mq14384) (o := mq14384 376 55) (by omega)
          have t56 := hTq14384.atp 376 56 0 201 rfl
          have t54 := hTq14384.atp 376 54 0 4 rfl
          have hm0 : 0 ≤ MR 1 mq14384 := by unfold MR; omega
          exact ih (MR 1 mq14384).toNat (by omega) _ (by omega) hTq14384 hFn hVq14384 z.1
set_option maxRecDepth 100000 in
theorem t211_1 {L : Nat} {xs : Nat → Int32} {d nn : Nat} {m : yM} (hT : Ty gT m) (hn : m 376 18 = 1) (hI : m 376 19 = 0 ∨ GQ 1 m) (hMI : MI m) : YC (gZ L xs) (d + 6) 211 [.ref 376] m nn (qMd nn m) := by
  have tb383 := hT.atp 383 1 0 6 rfl
  have tb384 := hT.atp 384 1 0 10 rfl
  have tb385 := hT.atp 385 1 0 8 rfl
  have tb386 := hT.atp 386 1 0 12 rfl
  have tb387 := hT.atp 387 1 0 8 rfl
  have tb388 := hT.atp 388 1 0 12 rfl
  have tb389 := hT.atp 389 1 0 48 rfl
  have tb390 := hT.atp 390 1 0 125 rfl
  have t19 := hT.atp 376 19 0 1 rfl
  refine YC.mkB [some (.ref 376), none] kn211 rfl rfl ?_
  have hF : Fr wRn m m := Fr.rf
  refine y_aload 1 c211_0 rfl rfl rfl ?_
  refine y_aload 2 c211_1 rfl rfl rfl ?_
  refine y_getX 5 (m 376 19) c211_2 rfl kf376_19 rfl ?_
  refine y_if 19 8 c211_5 rfl rfl (yz_eq (by omega)) (fun hb14385 => ?_) (fun hb14385 => ?_)
  · refine y_iconst 20 c211_19 rfl ?_
    refine y_inlB 23 [.ref 376, yI 0] [] [some (.ref 376), some (yI 0)] c211_20 rfl rfl rfl rfl rfl (ycanO km162 ko376) kn162 rfl rfl ?_
    refine y_aload 1 c162_0 rfl rfl rfl ?_
    refine y_aload 2 c162_1 rfl rfl rfl ?_
    refine y_getX 5 (m 376 19) c162_2 rfl kf376_19 rfl ?_
    refine y_top 0 (by omega) ?_
    refine y_if 16 8 c162_5 rfl rfl (yz_eq (by omega)) (fun hb14386 => ?_) (fun hb14386 => ?_)
    · refine y_iconst 17 c162_16 rfl ?_
      refine y_iconst 18 c162_17 rfl ?_
      refine y_inlB 21 [.ref 376, yI 0, yI 1] [] [some (.ref 376), some (yI 0), some (yI 1)] c162_18 rfl rfl rfl rfl rfl (ycanO km23 ko376) kn23 rfl rfl ?_
      refine y_aload 1 c23_0 rfl rfl rfl ?_
      refine y_iload 2 c23_1 rfl rfl ?_
      refine y_if 9 5 c23_2 rfl rfl (yz_eq (by omega)) (fun hb14387 => ?_) (fun hb14387 => ?_)
      · refine y_iload 10 c23_9 rfl rfl ?_
        refine y_putI 13 c23_10 rfl kf376_57 (y_fit0 _) ?_
        have hT14388 := hT.up 376 57 1 0 4 rfl (by omega)
        have hF14389 := hF.up 376 57 1 rfl
        refine y_iload 14 c23_13 rfl rfl ?_
        refine y_ireturnK c23_14 (y_fit1 (by omega)) ?_
        refine y_ireturnK c162_21 (y_fit1 (by omega)) ?_
        refine y_if 28 26 c211_23 rfl rfl (yz_ne (by omega)) (fun hb14390 => ?_) (fun hb14390 => ?_)
        · exfalso; omega
        · refine y_iconst 27 c211_26 rfl ?_
          exact y_ireturn c211_27 (y_fit0 _) ⟨_, rfl, rfl, Fr.rf.tr hF14389 wRn_wML, hMI.fr hT14388 (fun a q ha => (yup_ne (by rintro ⟨rfl, rfl⟩; simp [vGq] at ha)))⟩
      · exfalso; omega
    · exfalso; omega
  · have hG := hI.resolve_left (by omega)
    have g83 := hG.2.2.2.2.2.2.2.2.2.1
    have g88 := hG.2.2.2.2.2.2.2.2.1
    have g90 : m 390 1 ≤ 100 := hG.2.2.2.2.2.2.2.2.2.2.1
    refine y_aload 9 c211_8 rfl rfl rfl ?_
    have tb14392 := hT.atp 376 18 0 1 rfl
    have hUc := hG.2.2.2.2.1
    refine y_callP 12 [.ref 376] [.ref 376] c211_9 rfl rfl rfl rfl rfl (ycanO km143 ko376) (t143x_1 hT (by omega) hUc (by omega)) (fun r14391 hr14391 => ?_)
    have gr14391 : -1 ≤ r14391 ∧ r14391 < m 384 1 := by
      rcases hr14391 with z | z
      · exact ⟨by have := z.1.1; omega, z.1.2.1⟩
      · omega
    have hs1 : 0 ≤ r14391 → SG 1 m r14391 := fun h0 => hr14391.resolve_right (by rintro ⟨h1, -⟩; omega)
    refine y_if 19 15 c211_12 rfl rfl (yz_lt (by omega)) (fun hb14393 => ?_) (fun hb14393 => ?_)
    · refine y_iconst 20 c211_19 rfl ?_
      refine y_inlB 23 [.ref 376, yI 0] [] [some (.ref 376), some (yI 0)] c211_20 rfl rfl rfl rfl rfl (ycanO km162 ko376) kn162 rfl rfl ?_
      refine y_aload 1 c162_0 rfl rfl rfl ?_
      refine y_aload 2 c162_1 rfl rfl rfl ?_
      refine y_getX 5 (m 376 19) c162_2 rfl kf376_19 rfl ?_
      refine y_top 1 (by omega) ?_
      refine y_if 16 8 c162_5 rfl rfl (yz_eq (by omega)) (fun hb14394 => ?_) (fun hb14394 => ?_)
      · exfalso; omega
      · refine y_iload 9 c162_8 rfl rfl ?_
        refine y_if 16 12 c162_9 rfl rfl (yz_eq (by omega)) (fun hb14395 => ?_) (fun hb14395 => ?_)
        · refine y_iconst 17 c162_16 rfl ?_
          refine y_iconst 18 c162_17 rfl ?_
          refine y_inlB 21 [.ref 376, yI 0, yI 1] [] [some (.ref 376), some (yI 0), some (yI 1)] c162_18 rfl rfl rfl rfl rfl (ycanO km23 ko376) kn23 rfl rfl ?_
          refine y_aload 1 c23_0 rfl rfl rfl ?_
          refine y_iload 2 c23_1 rfl rfl ?_
          refine y_if 9 5 c23_2 rfl rfl (yz_eq (by omega)) (fun hb14396 => ?_) (fun hb14396 => ?_)
          · refine y_iload 10 c23_9 rfl rfl ?_
            refine y_putI 13 c23_10 rfl kf376_57 (y_fit0 _) ?_
            have hT14397 := hT.up 376 57 1 0 4 rfl (by omega)
            have hF14398 := hF.up 376 57 1 rfl
            refine y_iload 14 c23_13 rfl rfl ?_
            refine y_ireturnK c23_14 (y_fit1 (by omega)) ?_
            refine y_ireturnK c162_21 (y_fit1 (by omega)) ?_
            refine y_if 28 26 c211_23 rfl rfl (yz_ne (by omega)) (fun hb14399 => ?_) (fun hb14399 => ?_)
            · exfalso; omega
            · refine y_iconst 27 c211_26 rfl ?_
              exact y_ireturn c211_27 (y_fit0 _) ⟨_, rfl, rfl, Fr.rf.tr hF14398 wRn_wML, hMI.fr hT14397 (fun a q ha => (yup_ne (by rintro ⟨rfl, rfl⟩; simp [vGq] at ha)))⟩
          · exfalso; omega
        · exfalso; omega
    · refine y_iconst 16 c211_15 rfl ?_
      refine y_goto 20 c211_16 rfl ?_
      refine y_inlB 23 [.ref 376, yI 1] [] [some (.ref 376), some (yI 1)] c211_20 rfl rfl rfl rfl rfl (ycanO km162 ko376) kn162 rfl rfl ?_
      refine y_aload 1 c162_0 rfl rfl rfl ?_
      refine y_aload 2 c162_1 rfl rfl rfl ?_
      refine y_getX 5 (m 376 19) c162_2 rfl kf376_19 rfl ?_
      refine y_top 1 (by omega) ?_
      refine y_if 16 8 c162_5 rfl rfl (yz_eq (by omega)) (fun hb14400 => ?_) (fun hb14400 => ?_)
      · exfalso; omega
      · refine y_iload 9 c162_8 rfl rfl ?_
        refine y_if 16 12 c162_9 rfl rfl (yz_eq (by omega)) (fun hb14401 => ?_) (fun hb14401 => ?_)
        · exfalso; omega
        · refine y_iconst 13 c162_12 rfl ?_
          refine y_goto 17 c162_13 rfl ?_
          refine y_iconst 18 c162_17 rfl ?_
          refine y_inlB 21 [.ref 376, yI 1, yI 1] [] [some (.ref 376), some (yI 1), some (yI 1)] c162_18 rfl rfl rfl rfl rfl (ycanO km23 ko376) kn23 rfl rfl ?_
          refine y_aload 1 c23_0 rfl rfl rfl ?_
          refine y_iload 2 c23_1 rfl rfl ?_
          refine y_if 9 5 c23_2 rfl rfl (yz_eq (by omega)) (fun hb14402 => ?_) (fun hb14402 => ?_)
          · exfalso; omega
          · refine y_iconst 6 c23_5 rfl ?_
            refine y_goto 10 c23_6 rfl ?_
            refine y_putI 13 c23_10 rfl kf376_57 (y_fit0 _) ?_
            have hT14403 := hT.up 376 57 0 0 4 rfl (by omega)
            have hF14404 := hF.up 376 57 0 rfl
            refine y_iload 14 c23_13 rfl rfl ?_
            refine y_ireturnK c23_14 (y_fit1 (by omega)) ?_
            refine y_ireturnK c162_21 (y_fit1 (by omega)) ?_
            refine y_if 28 26 c211_23 rfl rfl (yz_ne (by omega)) (fun hb14405 => ?_) (fun hb14405 => ?_)
            · refine y_iconst 29 c211_28 rfl ?_
              refine y_istore 30 c211_29 rfl rfl ?_
              refine t211s hT14403 (fun z1 mz hTmz hFmz => ?_) 576 0 _ (by omega) (by omega) hT14403 Fr.rf
              have hF14406 := hF14404.tr hFmz wRo8_wRn
              refine y_aload 51 c211_50 rfl rfl rfl ?_
              refine y_iconst 52 c211_51 rfl ?_
              refine y_putI 55 c211_52 rfl kf376_51 (y_fit0 _) ?_
              have hT14407 := hTmz.up 376 51 0 0 30 rfl (by omega)
              have hF14408 := hF14406.up 376 51 0 rfl
              refine y_aload 56 c211_55 rfl rfl rfl ?_
              refine y_iconst 57 c211_56 rfl ?_
              refine y_putI 60 c211_57 rfl kf376_54 (y_fit0 _) ?_
              have hT14409 := hT14407.up 376 54 0 0 4 rfl (by omega)
              have hF14410 := hF14408.up 376 54 0 rfl
              refine y_aload 61 c211_60 rfl rfl rfl ?_
              refine y_iconst 62 c211_61 rfl ?_
              refine y_putI 65 c211_62 rfl kf376_56 (y_fit0 _) ?_
              have hT14411 := hT14409.up 376 56 0 0 201 rfl (by omega)
              have hF14412 := hF14410.up 376 56 0 rfl
              have es14413 : (yup (yup (yup mz 376 51 0) 376 54 0) 376 56 0) 376 51 = 0 := rfl
              have es14414 : (yup (yup (yup mz 376 51 0) 376 54 0) 376 56 0) 376 54 = 0 := rfl
              have hV0 : VX 1 (yup (yup (yup mz 376 51 0) 376 54 0) 376 56 0) := ⟨fun q hq => by omega, fun q hq => by omega, fun q hq => by omega⟩
              obtain ⟨ms, hms⟩ : ∃ ms : yM, ms = yup (yup (yup mz 376 51 0) 376 54 0) 376 56 0 := ⟨_, rfl⟩
              have hTs : Ty gT ms := hms ▸ hT14411
              have hFs : Fr wRn m ms := hms ▸ hF14412
              have hVs : VX 1 ms := hms ▸ hV0
              have es51 : ms 376 51 = 0 := by rw [hms]; first | rfl | exact rfl
              have es54 : ms 376 54 = 0 := by rw [hms]; first | rfl | exact rfl
              have es56 : ms 376 56 = 0 := by rw [hms]; first | rfl | exact rfl
              have es57 : ms 376 57 = 0 := by rw [hms]; exact ((yup_nk (by decide)).trans ((yup_nk (by decide)).trans ((yup_nk (by decide)).trans ((hFmz 376 57 rfl).trans (yup_eq _ _ _ _)))))
              rw [← hms]
              refine y_aload 66 c211_65 rfl rfl rfl ?_
              refine y_iconst 67 c211_66 rfl ?_
              have tb14416 := hTs.atp 376 51 0 30 rfl
              have tb14417 := hTs.atp 376 54 0 4 rfl
              have es14418 : ms 376 18 = m 376 18 := (hFs 376 18 rfl)
              have es14419 : ms 388 1 = m 388 1 := (hFs 388 1 rfl)
              have tb14420 := hTs.atp 376 57 0 4 rfl
              have hVc : VX 1 ms := hVs
              refine y_callIB 70 [.ref 376, yI 0] [] c211_67 rfl rfl rfl rfl rfl (ycanO km201 ko376) (t201_1 hTs hVc (by omega)) (fun rq14415 mq14415 nq14415 hq14415 => ?_)
              obtain ⟨rfl, hTq14415, hFq14415, hq14415, hcq14415, hVq14415⟩ := hq14415
              have hF14421 := hFs.tr hFq14415 wMk_wRn
              refine y_istore 71 c211_70 rfl rfl ?_
              refine y_aload 72 c211_71 rfl rfl rfl ?_
              refine y_aload 73 c211_72 rfl rfl rfl ?_
              have es14423 : mq14415 376 18 = m 376 18 := ((hFq14415 376 18 rfl).trans (hFs 376 18 rfl))
              have es14424 : mq14415 383 1 = m 383 1 := ((hFq14415 383 1 rfl).trans (hFs 383 1 rfl))
              have es14425 : mq14415 384 1 = m 384 1 := ((hFq14415 384 1 rfl).trans (hFs 384 1 rfl))
              have hUc : UX 1 mq14415 (mq14415 383 1) := by rw [show mq14415 383 1 = m 383 1 from ((hFq14415 383 1 rfl).trans (hFs 383 1 rfl))]; exact hG.2.2.2.2.1.fr (fun q => ((hFq14415 392 q rfl).trans (hFs 392 q rfl)))
              refine y_callP 76 [.ref 376] [.ref 376] c211_73 rfl rfl rfl rfl rfl (ycanO km143 ko376) (t143x_1 hTq14415 (by omega) hUc (by omega)) (fun r14422 hr14422 => ?_)
              have gr14422 : -1 ≤ r14422 ∧ r14422 < mq14415 384 1 := by
                rcases hr14422 with z | z
                · exact ⟨by have := z.1.1; omega, z.1.2.1⟩
                · omega
              have hs2 : SG 1 mq14415 r14391 := (hs1 (by omega)).fr (((hFq14415 384 1 rfl).trans (hFs 384 1 rfl))) (fun q => ((hFq14415 395 q rfl).trans (hFs 395 q rfl))) (fun q => ((hFq14415 396 q rfl).trans (hFs 396 q rfl))) (fun q => ((hFq14415 397 q rfl).trans (hFs 397 q rfl)))
              have hs3 : SG 1 mq14415 r14422 := hr14422.resolve_right (fun h1 => h1.2 _ hs2)
              have hs4 := hs3.1.1
              have hs5 := hs3.1.2.1
              refine y_iload 77 c211_76 rfl rfl ?_
              refine y_iconst 78 c211_77 rfl ?_
              refine y_iconst 79 c211_78 rfl ?_
              refine y_iconst 80 c211_79 rfl ?_
              have tb14427 := hTq14415.atp 376 51 0 30 rfl
              have es14428 : mq14415 376 54 = ms 376 54 := (hFq14415 376 54 rfl)
              have es14429 : mq14415 376 18 = m 376 18 := ((hFq14415 376 18 rfl).trans (hFs 376 18 rfl))
              have es14430 : mq14415 384 1 = m 384 1 := ((hFq14415 384 1 rfl).trans (hFs 384 1 rfl))
              have es14431 : mq14415 390 1 = m 390 1 := ((hFq14415 390 1 rfl).trans (hFs 390 1 rfl))
              have tb14432 := hTq14415.atp 376 57 0 4 rfl
              have es14433 : mq14415 376 55 = ms 376 55 := (hFq14415 376 55 rfl)
              have tb14434 := hTs.atp 376 55 0 124 rfl
              have es14435 : mq14415 376 56 = ms 376 56 := (hFq14415 376 56 rfl)
              have tb14436 := hTs.atp 376 56 0 201 rfl
              have hVc : VX 1 mq14415 := hVq14415
              refine y_callUB 83 [.ref 376, yI r14422, yI rq14415, yI 0, yI 0, yI 0] [] c211_80 rfl rfl rfl rfl rfl (ycanO km203 ko376) (t203_1 hTq14415 (by omega) (hG.fr hT (by decide) (fun a q ha => hF14421 a q (wRn_G a q ha))) hVc (by omega) (by omega) (by omega) (by omega) (by omega)) (fun mq14426 nq14426 hq14426 => ?_)
              obtain ⟨rfl, hTq14426, hFq14426, hVq14426, hq14426, hqq14426⟩ := hq14426
              have hF14437 := hF14421.tr hFq14426 wEn_wRn
              have tb14438 := hTq14426.atp 376 54 0 4 rfl
              have tb14439 := hTq14426.atp 376 55 0 124 rfl
              have es14440 : mq14426 376 56 = ms 376 56 := ((hFq14426 376 56 rfl).trans (hFq14415 376 56 rfl))
              have tb14441 := hTq14426.atp 376 57 0 4 rfl
              have es14442 : mq14426 390 1 = m 390 1 := ((hFq14426 390 1 rfl).trans ((hFq14415 390 1 rfl).trans (hFs 390 1 rfl)))
              have hMn : MI mq14426 := ⟨hTq14426, Or.inr (Or.inr ⟨(hF14437 376 18 rfl).trans hn, hG.fr hT (by decide) (fun a q ha => hF14437 a q (wRn_G a q ha))⟩)⟩
              have tc := hTq14426.atp 376 57 0 4 rfl
              by_cases hz : mq14426 376 57 = 0
              · have hR : RN 1 mq14426 := ⟨by omega, by omega, hz, by omega, fun f h1 h2 => by omega⟩
                have tl := hTq14426.atp 376 55 0 124 rfl
                have hl := rk_lo (p := 1) (m := mq14426) (o := mq14426 376 55) (by omega)
                have t56 := hTq14426.atp 376 56 0 201 rfl
                have t54 := hTq14426.atp 376 54 0 4 rfl
                have hm0 : 0 ≤ MR 1 mq14426 := by unfold MR; omega
                exact t211a_1 hT hn hG Fr.rf (by omega) (MR 1 mq14426).toNat _ (by omega) hTq14426 hF14437 hVq14426 hR
              · exact t211e_0 hTq14426 (Fr.rf.tr hF14437 wRn_wML) hMn (Or.inl hz)
            · exfalso; omega
