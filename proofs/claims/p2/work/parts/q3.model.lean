/-! CONTRACTS: the model, run. Printed by wip/whole/gen9i.py -/
set_option maxRecDepth 100000 in
theorem t211e_0 {L : Nat} {xs : Nat → Int32} {d nn : Nat} {m : yM} {m0 mi : yM} (hTi : Ty gT mi) (hF0 : Fr wML m0 mi) (hM : MI mi) (hx : mi 376 57 ≠ 0 ∨ mi 376 54 = 0) {x1 : Option Value} : YW (gZ L xs) 211 (d + 6) 83 [some (.ref 376), x1] [] mi nn (qMd nn m0) := by
  have t7 := hTi.atp 376 57 0 4 rfl
  have t4 := hTi.atp 376 54 0 4 rfl
  have t6 := hTi.atp 376 56 0 201 rfl
  refine y_aload 84 c211_83 rfl rfl rfl ?_
  refine y_getX 87 (mi 376 57) c211_84 rfl kf376_57 rfl ?_
  refine y_if 104 90 c211_87 rfl rfl (yz_ne (by omega)) (fun hb14298 => ?_) (fun hb14298 => ?_)
  · refine y_aload 105 c211_104 rfl rfl rfl ?_
    refine y_getX 108 (mi 376 57) c211_105 rfl kf376_57 rfl ?_
    refine y_if 118 111 c211_108 rfl rfl (yz_ne (by omega)) (fun hb14299 => ?_) (fun hb14299 => ?_)
    · refine y_iconst 119 c211_118 rfl ?_
      exact y_ireturn c211_119 (y_fit0 _) ⟨_, rfl, rfl, hF0, hM⟩
    · exfalso; omega
  · refine y_aload 91 c211_90 rfl rfl rfl ?_
    refine y_getX 94 (mi 376 54) c211_91 rfl kf376_54 rfl ?_
    refine y_if 104 97 c211_94 rfl rfl (yz_le (by omega)) (fun hb14300 => ?_) (fun hb14300 => ?_)
    · refine y_aload 105 c211_104 rfl rfl rfl ?_
      refine y_getX 108 (mi 376 57) c211_105 rfl kf376_57 rfl ?_
      refine y_top 0 (by omega) ?_
      refine y_if 118 111 c211_108 rfl rfl (yz_ne (by omega)) (fun hb14301 => ?_) (fun hb14301 => ?_)
      · exfalso; omega
      · refine y_aload 112 c211_111 rfl rfl rfl ?_
        refine y_getX 115 (mi 376 56) c211_112 rfl kf376_56 rfl ?_
        refine y_goto 119 c211_115 rfl ?_
        exact y_ireturn c211_119 (y_fit0 _) ⟨_, rfl, rfl, hF0, hM⟩
    · exfalso; omega
set_option maxRecDepth 100000 in
theorem t211a_0 {L : Nat} {xs : Nat → Int32} {d nn : Nat} {m : yM} {m0 : yM} (hT : Ty gT m) (hn : m 376 18 = 0) (hG : GQ 0 m) (hF0 : Fr wML m0 m) (h19 : m 376 19 = 1) {x1 : Option Value} : ∀ (k : Nat) (mi : yM), MR 0 mi = k → Ty gT mi → Fr wRn m mi → VX 0 mi → RN 0 mi → YW (gZ L xs) 211 (d + 6) 83 [some (.ref 376), x1] [] mi nn (qMd nn m0) := by
  intro k
  induction k using Nat.strongRecOn with
  | ind k ih =>
    intro mi hk hTi hFi hVi hRi
    have t7 := hTi.atp 376 57 0 4 rfl
    have t4 := hTi.atp 376 54 0 4 rfl
    have e18 : mi 376 18 = m 376 18 := hFi 376 18 rfl
    have hr1 := hRi.1
    have hr3 := hRi.2.2.1
    refine y_aload 84 c211_83 rfl rfl rfl ?_
    refine y_getX 87 (mi 376 57) c211_84 rfl kf376_57 rfl ?_
    refine y_if 104 90 c211_87 rfl rfl (yz_ne (by omega)) (fun hb14302 => ?_) (fun hb14302 => ?_)
    · exfalso; omega
    · refine y_aload 91 c211_90 rfl rfl rfl ?_
      refine y_getX 94 (mi 376 54) c211_91 rfl kf376_54 rfl ?_
      refine y_if 104 97 c211_94 rfl rfl (yz_le (by omega)) (fun hb14303 => ?_) (fun hb14303 => ?_)
      · exfalso; omega
      · refine y_aload 98 c211_97 rfl rfl rfl ?_
        refine y_callUB 101 [.ref 376] [] c211_98 rfl rfl rfl rfl rfl (ycanO km210 ko376) (t210_0 hTi (by omega) (hG.fr hT (by decide) (fun a q ha => hFi a q (wRn_G a q ha))) hVi hRi) (fun mq14304 nq14304 hq14304 => ?_)
        obtain ⟨rfl, hTq14304, hFq14304, hVq14304, hq14304⟩ := hq14304
        have hFn := hFi.tr hFq14304 (fun _ _ e => e)
        have hMn : MI mq14304 := ⟨hTq14304, Or.inr (Or.inl ⟨(hFn 376 18 rfl).trans hn, hG.fr hT (by decide) (fun a q ha => hFn a q (wRn_G a q ha))⟩)⟩
        refine y_goto 83 c211_101 rfl ?_
        rcases hq14304 with z | z | z
        · exact t211e_0 hTq14304 (hF0.tr hFn wRn_wML) hMn (Or.inl z)
        · exact t211e_0 hTq14304 (hF0.tr hFn wRn_wML) hMn (Or.inr z)
        · have tl := hTq14304.atp 376 55 0 124 rfl
          have hl := rk_lo (p := 0) (m := mq14304) (o := mq14304 376 55) (by omega)
          have t56 := hTq14304.atp 376 56 0 201 rfl
          have t54 := hTq14304.atp 376 54 0 4 rfl
          have hm0 : 0 ≤ MR 0 mq14304 := by unfold MR; omega
          exact ih (MR 0 mq14304).toNat (by omega) _ (by omega) hTq14304 hFn hVq14304 z.1
theorem wRo8_wRn : ∀ a q, (wRo 408) a q = true → wRn a q = true := by
  intro a q e; simp [wRo] at e; simp [wRn]; omega
set_option maxRecDepth 100000 in
theorem t211_0 {L : Nat} {xs : Nat → Int32} {d nn : Nat} {m : yM} (hT : Ty gT m) (hn : m 376 18 = 0) (hI : m 376 19 = 0 ∨ GQ 0 m) (hMI : MI m) : YC (gZ L xs) (d + 6) 211 [.ref 376] m nn (qMd nn m) := by
  have tb383 := hT.atp 383 0 0 6 rfl
  have tb384 := hT.atp 384 0 0 10 rfl
  have tb385 := hT.atp 385 0 0 8 rfl
  have tb386 := hT.atp 386 0 0 12 rfl
  have tb387 := hT.atp 387 0 0 8 rfl
  have tb388 := hT.atp 388 0 0 12 rfl
  have tb389 := hT.atp 389 0 0 48 rfl
  have tb390 := hT.atp 390 0 0 125 rfl
  have t19 := hT.atp 376 19 0 1 rfl
  refine YC.mkB [some (.ref 376), none] kn211 rfl rfl ?_
  have hF : Fr wRn m m := Fr.rf
  refine y_aload 1 c211_0 rfl rfl rfl ?_
  refine y_aload 2 c211_1 rfl rfl rfl ?_
  refine y_getX 5 (m 376 19) c211_2 rfl kf376_19 rfl ?_
  refine y_if 19 8 c211_5 rfl rfl (yz_eq (by omega)) (fun hb14305 => ?_) (fun hb14305 => ?_)
  · refine y_iconst 20 c211_19 rfl ?_
    refine y_inlB 23 [.ref 376, yI 0] [] [some (.ref 376), some (yI 0)] c211_20 rfl rfl rfl rfl rfl (ycanO km162 ko376) kn162 rfl rfl ?_
    refine y_aload 1 c162_0 rfl rfl rfl ?_
    refine y_aload 2 c162_1 rfl rfl rfl ?_
    refine y_getX 5 (m 376 19) c162_2 rfl kf376_19 rfl ?_
    refine y_top 0 (by omega) ?_
    refine y_if 16 8 c162_5 rfl rfl (yz_eq (by omega)) (fun hb14306 => ?_) (fun hb14306 => ?_)
    · refine y_iconst 17 c162_16 rfl ?_
      refine y_iconst 18 c162_17 rfl ?_
      refine y_inlB 21 [.ref 376, yI 0, yI 1] [] [some (.ref 376), some (yI 0), some (yI 1)] c162_18 rfl rfl rfl rfl rfl (ycanO km23 ko376) kn23 rfl rfl ?_
      refine y_aload 1 c23_0 rfl rfl rfl ?_
      refine y_iload 2 c23_1 rfl rfl ?_
      refine y_if 9 5 c23_2 rfl rfl (yz_eq (by omega)) (fun hb14307 => ?_) (fun hb14307 => ?_)
      · refine y_iload 10 c23_9 rfl rfl ?_
        refine y_putI 13 c23_10 rfl kf376_57 (y_fit0 _) ?_
        have hT14308 := hT.up 376 57 1 0 4 rfl (by omega)
        have hF14309 := hF.up 376 57 1 rfl
        refine y_iload 14 c23_13 rfl rfl ?_
        refine y_ireturnK c23_14 (y_fit1 (by omega)) ?_
        refine y_ireturnK c162_21 (y_fit1 (by omega)) ?_
        refine y_if 28 26 c211_23 rfl rfl (yz_ne (by omega)) (fun hb14310 => ?_) (fun hb14310 => ?_)
        · exfalso; omega
        · refine y_iconst 27 c211_26 rfl ?_
          exact y_ireturn c211_27 (y_fit0 _) ⟨_, rfl, rfl, Fr.rf.tr hF14309 wRn_wML, hMI.fr hT14308 (fun a q ha => (yup_ne (by rintro ⟨rfl, rfl⟩; simp [vGq] at ha)))⟩
      · exfalso; omega
    · exfalso; omega
  · have hG := hI.resolve_left (by omega)
    have g83 := hG.2.2.2.2.2.2.2.2.2.1
    have g88 := hG.2.2.2.2.2.2.2.2.1
    have g90 : m 390 0 ≤ 100 := hG.2.2.2.2.2.2.2.2.2.2.1
    refine y_aload 9 c211_8 rfl rfl rfl ?_
    have tb14312 := hT.atp 376 18 0 1 rfl
    have hUc := hG.2.2.2.2.1
    refine y_callP 12 [.ref 376] [.ref 376] c211_9 rfl rfl rfl rfl rfl (ycanO km143 ko376) (t143x_0 hT (by omega) hUc (by omega)) (fun r14311 hr14311 => ?_)
    have hs1 : 0 ≤ r14311 → SG 0 m r14311 := fun h0 => hr14311.resolve_right (by rintro ⟨h1, -⟩; omega)
    refine y_if 19 15 c211_12 rfl rfl (yz_lt (by omega)) (fun hb14313 => ?_) (fun hb14313 => ?_)
    · refine y_iconst 20 c211_19 rfl ?_
      refine y_inlB 23 [.ref 376, yI 0] [] [some (.ref 376), some (yI 0)] c211_20 rfl rfl rfl rfl rfl (ycanO km162 ko376) kn162 rfl rfl ?_
      refine y_aload 1 c162_0 rfl rfl rfl ?_
      refine y_aload 2 c162_1 rfl rfl rfl ?_
      refine y_getX 5 (m 376 19) c162_2 rfl kf376_19 rfl ?_
      refine y_top 1 (by omega) ?_
      refine y_if 16 8 c162_5 rfl rfl (yz_eq (by omega)) (fun hb14314 => ?_) (fun hb14314 => ?_)
      · exfalso; omega
      · refine y_iload 9 c162_8 rfl rfl ?_
        refine y_if 16 12 c162_9 rfl rfl (yz_eq (by omega)) (fun hb14315 => ?_) (fun hb14315 => ?_)
        · refine y_iconst 17 c162_16 rfl ?_
          refine y_iconst 18 c162_17 rfl ?_
          refine y_inlB 21 [.ref 376, yI 0, yI 1] [] [some (.ref 376), some (yI 0), some (yI 1)] c162_18 rfl rfl rfl rfl rfl (ycanO km23 ko376) kn23 rfl rfl ?_
          refine y_aload 1 c23_0 rfl rfl rfl ?_
          refine y_iload 2 c23_1 rfl rfl ?_
          refine y_if 9 5 c23_2 rfl rfl (yz_eq (by omega)) (fun hb14316 => ?_) (fun hb14316 => ?_)
          · refine y_iload 10 c23_9 rfl rfl ?_
            refine y_putI 13 c23_10 rfl kf376_57 (y_fit0 _) ?_
            have hT14317 := hT.up 376 57 1 0 4 rfl (by omega)
            have hF14318 := hF.up 376 57 1 rfl
            refine y_iload 14 c23_13 rfl rfl ?_
            refine y_ireturnK c23_14 (y_fit1 (by omega)) ?_
            refine y_ireturnK c162_21 (y_fit1 (by omega)) ?_
            refine y_if 28 26 c211_23 rfl rfl (yz_ne (by omega)) (fun hb14319 => ?_) (fun hb14319 => ?_)
            · exfalso; omega
            · refine y_iconst 27 c211_26 rfl ?_
              exact y_ireturn c211_27 (y_fit0 _) ⟨_, rfl, rfl, Fr.rf.tr hF14318 wRn_wML, hMI.fr hT14317 (fun a q ha => (yup_ne (by rintro ⟨rfl, rfl⟩; simp [vGq] at ha)))⟩
          · exfalso; omega
        · exfalso; omega
    · refine y_iconst 16 c211_15 rfl ?_
      refine y_goto 20 c211_16 rfl ?_
      refine y_inlB 23 [.ref 376, yI 1] [] [some (.ref 376), some (yI 1)] c211_20 rfl rfl rfl rfl rfl (ycanO km162 ko376) kn162 rfl rfl ?_
      refine y_aload 1 c162_0 rfl rfl rfl ?_
      refine y_aload 2 c162_1 rfl rfl rfl ?_
      refine y_getX 5 (m 376 19) c162_2 rfl kf376_19 rfl ?_
      refine y_top 1 (by omega) ?_
      refine y_if 16 8 c162_5 rfl rfl (yz_eq (by omega)) (fun hb14320 => ?_) (fun hb14320 => ?_)
      · exfalso; omega
      · refine y_iload 9 c162_8 rfl rfl ?_
        refine y_if 16 12 c162_9 rfl rfl (yz_eq (by omega)) (fun hb14321 => ?_) (fun hb14321 => ?_)
        · exfalso; omega
        · refine y_iconst 13 c162_12 rfl ?_
          refine y_goto 17 c162_13 rfl ?_
          refine y_iconst 18 c162_17 rfl ?_
          refine y_inlB 21 [.ref 376, yI 1, yI 1] [] [some (.ref 376), some (yI 1), some (yI 1)] c162_18 rfl rfl rfl rfl rfl (ycanO km23 ko376) kn23 rfl rfl ?_
          refine y_aload 1 c23_0 rfl rfl rfl ?_
          refine y_iload 2 c23_1 rfl rfl ?_
          refine y_if 9 5 c23_2 rfl rfl (yz_eq (by omega)) (fun hb14322 => ?_) (fun hb14322 => ?_)
          · exfalso; omega
          · refine y_iconst 6 c23_5 rfl ?_
            refine y_goto 10 c23_6 rfl ?_
            refine y_putI 13 c23_10 rfl kf376_57 (y_fit0 _) ?_
            have hT14323 := hT.up 376 57 0 0 4 rfl (by omega)
            have hF14324 := hF.up 376 57 0 rfl
            refine y_iload 14 c23_13 rfl rfl ?_
            refine y_ireturnK c23_14 (y_fit1 (by omega)) ?_
            refine y_ireturnK c162_21 (y_fit1 (by omega)) ?_
            refine y_if 28 26 c211_23 rfl rfl (yz_ne (by omega)) (fun hb14325 => ?_) (fun hb14325 => ?_)
            · refine y_iconst 29 c211_28 rfl ?_
              refine y_istore 30 c211_29 rfl rfl ?_
              refine t211s hT14323 (fun z1 mz hTmz hFmz => ?_) 576 0 _ (by omega) (by omega) hT14323 Fr.rf
              have hF14326 := hF14324.tr hFmz wRo8_wRn
              refine y_aload 51 c211_50 rfl rfl rfl ?_
              refine y_iconst 52 c211_51 rfl ?_
              refine y_putI 55 c211_52 rfl kf376_51 (y_fit0 _) ?_
              have hT14327 := hTmz.up 376 51 0 0 30 rfl (by omega)
              have hF14328 := hF14326.up 376 51 0 rfl
              refine y_aload 56 c211_55 rfl rfl rfl ?_
              refine y_iconst 57 c211_56 rfl ?_
              refine y_putI 60 c211_57 rfl kf376_54 (y_fit0 _) ?_
              have hT14329 := hT14327.up 376 54 0 0 4 rfl (by omega)
              have hF14330 := hF14328.up 376 54 0 rfl
              refine y_aload 61 c211_60 rfl rfl rfl ?_
              refine y_iconst 62 c211_61 rfl ?_
              refine y_putI 65 c211_62 rfl kf376_56 (y_fit0 _) ?_
              have hT14331 := hT14329.up 376 56 0 0 201 rfl (by omega)
              have hF14332 := hF14330.up 376 56 0 rfl
              have es14333 : (yup (yup (yup mz 376 51 0) 376 54 0) 376 56 0) 376 51 = 0 := rfl
              have es14334 : (yup (yup (yup mz 376 51 0) 376 54 0) 376 56 0) 376 54 = 0 := rfl
              have hV0 : VX 0 (yup (yup (yup mz 376 51 0) 376 54 0) 376 56 0) := ⟨fun q hq => by omega, fun q hq => by omega, fun q hq => by omega⟩
              obtain ⟨ms, hms⟩ : ∃ ms : yM, ms = yup (yup (yup mz 376 51 0) 376 54 0) 376 56 0 := ⟨_, rfl⟩
              have hTs : Ty gT ms := hms ▸ hT14331
              have hFs : Fr wRn m ms := hms ▸ hF14332
              have hVs : VX 0 ms := hms ▸ hV0
              have es51 : ms 376 51 = 0 := by rw [hms]; first | rfl | exact rfl
              have es54 : ms 376 54 = 0 := by rw [hms]; first | rfl | exact rfl
              have es56 : ms 376 56 = 0 := by rw [hms]; first | rfl | exact rfl
              have es57 : ms 376 57 = 0 := by rw [hms]; exact ((yup_nk (by decide)).trans ((yup_nk (by decide)).trans ((yup_nk (by decide)).trans ((hFmz 376 57 rfl).trans (yup_eq _ _ _ _)))))
              rw [← hms]
              refine y_aload 66 c211_65 rfl rfl rfl ?_
              refine y_iconst 67 c211_66 rfl ?_
              have tb14336 := hTs.atp 376 51 0 30 rfl
              have tb14337 := hTs.atp 376 54 0 4 rfl
              have es14338 : ms 376 18 = m 376 18 := (hFs 376 18 rfl)
              have es14339 : ms 388 0 = m 388 0 := (hFs 388 0 rfl)
              have tb14340 := hTs.atp 376 57 0 4 rfl
              have hVc : VX 0 ms := hVs
              refine y_callIB 70 [.ref 376, yI 0] [] c211_67 rfl rfl rfl rfl rfl (ycanO km201 ko376) (t201_0 hTs hVc (by omega)) (fun rq14335 mq14335 nq14335 hq14335 => ?_)
              obtain ⟨rfl, hTq14335, hFq14335, hq14335, hcq14335, hVq14335⟩ := hq14335
              have hF14341 := hFs.tr hFq14335 wMk_wRn
              refine y_istore 71 c211_70 rfl rfl ?_
              refine y_aload 72 c211_71 rfl rfl rfl ?_
              refine y_aload 73 c211_72 rfl rfl rfl ?_
              have es14343 : mq14335 376 18 = m 376 18 := ((hFq14335 376 18 rfl).trans (hFs 376 18 rfl))
              have es14344 : mq14335 383 0 = m 383 0 := ((hFq14335 383 0 rfl).trans (hFs 383 0 rfl))
              have es14345 : mq14335 384 0 = m 384 0 := ((hFq14335 384 0 rfl).trans (hFs 384 0 rfl))
              have hUc : UX 0 mq14335 (mq14335 383 0) := by rw [show mq14335 383 0 = m 383 0 from ((hFq14335 383 0 rfl).trans (hFs 383 0 rfl))]; exact hG.2.2.2.2.1.fr (fun q => ((hFq14335 392 q rfl).trans (hFs 392 q rfl)))
              refine y_callP 76 [.ref 376] [.ref 376] c211_73 rfl rfl rfl rfl rfl (ycanO km143 ko376) (t143x_0 hTq14335 (by omega) hUc (by omega)) (fun r14342 hr14342 => ?_)
              have hs2 : SG 0 mq14335 r14311 := (hs1 (by omega)).fr (((hFq14335 384 0 rfl).trans (hFs 384 0 rfl))) (fun q => ((hFq14335 395 q rfl).trans (hFs 395 q rfl))) (fun q => ((hFq14335 396 q rfl).trans (hFs 396 q rfl))) (fun q => ((hFq14335 397 q rfl).trans (hFs 397 q rfl)))
              have hs3 : SG 0 mq14335 r14342 := hr14342.resolve_right (fun h1 => h1.2 _ hs2)
              have hs4 := hs3.1.1
              have hs5 := hs3.1.2.1
              refine y_iload 77 c211_76 rfl rfl ?_
              refine y_iconst 78 c211_77 rfl ?_
              refine y_iconst 79 c211_78 rfl ?_
              refine y_iconst 80 c211_79 rfl ?_
              have tb14347 := hTq14335.atp 376 51 0 30 rfl
              have es14348 : mq14335 376 54 = ms 376 54 := (hFq14335 376 54 rfl)
              have es14349 : mq14335 376 18 = m 376 18 := ((hFq14335 376 18 rfl).trans (hFs 376 18 rfl))
              have es14350 : mq14335 384 0 = m 384 0 := ((hFq14335 384 0 rfl).trans (hFs 384 0 rfl))
              have es14351 : mq14335 390 0 = m 390 0 := ((hFq14335 390 0 rfl).trans (hFs 390 0 rfl))
              have tb14352 := hTq14335.atp 376 57 0 4 rfl
              have es14353 : mq14335 376 55 = ms 376 55 := (hFq14335 376 55 rfl)
              have tb14354 := hTs.atp 376 55 0 124 rfl
              have es14355 : mq14335 376 56 = ms 376 56 := (hFq14335 376 56 rfl)
              have tb14356 := hTs.atp 376 56 0 201 rfl
              have hVc : VX 0 mq14335 := hVq14335
              refine y_callUB 83 [.ref 376, yI r14342, yI rq14335, yI 0, yI 0, yI 0] [] c211_80 rfl rfl rfl rfl rfl (ycanO km203 ko376) (t203_0 hTq14335 (by omega) (hG.fr hT (by decide) (fun a q ha => hF14341 a q (wRn_G a q ha))) hVc (by omega) (by omega) (by omega) (by omega) (by omega)) (fun mq14346 nq14346 hq14346 => ?_)
              obtain ⟨rfl, hTq14346, hFq14346, hVq14346, hq14346, hqq14346⟩ := hq14346
              have hF14357 := hF14341.tr hFq14346 wEn_wRn
              have tb14358 := hTq14346.atp 376 54 0 4 rfl
              have tb14359 := hTq14346.atp 376 55 0 124 rfl
              have es14360 : mq14346 376 56 = ms 376 56 := ((hFq14346 376 56 rfl).trans (hFq14335 376 56 rfl))
              have tb14361 := hTq14346.atp 376 57 0 4 rfl
              have es14362 : mq14346 390 0 = m 390 0 := ((hFq14346 390 0 rfl).trans ((hFq14335 390 0 rfl).trans (hFs 390 0 rfl)))
              have hMn : MI mq14346 := ⟨hTq14346, Or.inr (Or.inl ⟨(hF14357 376 18 rfl).trans hn, hG.fr hT (by decide) (fun a q ha => hF14357 a q (wRn_G a q ha))⟩)⟩
              have tc := hTq14346.atp 376 57 0 4 rfl
              by_cases hz : mq14346 376 57 = 0
              · have hR : RN 0 mq14346 := ⟨by omega, by omega, hz, by omega, fun f h1 h2 => by omega⟩
                have tl := hTq14346.atp 376 55 0 124 rfl
                have hl := rk_lo (p := 0) (m := mq14346) (o := mq14346 376 55) (by omega)
                have t56 := hTq14346.atp 376 56 0 201 rfl
                have t54 := hTq14346.atp 376 54 0 4 rfl
                have hm0 : 0 ≤ MR 0 mq14346 := by unfold MR; omega
                exact t211a_0 hT hn hG Fr.rf (by omega) (MR 0 mq14346).toNat _ (by omega) hTq14346 hF14357 hVq14346 hR
              · exact t211e_0 hTq14346 (Fr.rf.tr hF14357 wRn_wML) hMn (Or.inl hz)
            · exfalso; omega
set_option maxRecDepth 100000 in
theorem t211a_1 {L : Nat} {xs : Nat → Int32} {d nn : Nat} {m : yM} {m0 : yM} (hT : Ty gT m) (hn : m 376 18 = 1) (hG : GQ 1 m) (hF0 : Fr wML m0 m) (h19 : m 376 19 = 1) {x1 : Option Value} : ∀ (k : Nat) (mi : yM), MR 1 mi = k → Ty gT mi → Fr wRn m mi → VX 1 mi → RN 1 mi → YW (gZ L xs) 211 (d + 6) 83 [some (.ref 376), x1] [] mi nn (qMd nn m0) := by
  intro k
  induction k using Nat.strongRecOn with
  | ind k ih =>
    intro mi hk hTi hFi hVi hRi
    have t7 := hTi.atp 376 57 0 4 rfl
    have t4 := hTi.atp 376 54 0 4 rfl
    have e18 : mi 376 18 = m 376 18 := hFi 376 18 rfl
    have hr1 := hRi.1
    have hr3 := hRi.2.2.1
    refine y_aload 84 c211_83 rfl rfl rfl ?_
    refine y_getX 87 (mi 376 57) c211_84 rfl kf376_57 rfl ?_
    refine y_if 104 90 c211_87 rfl rfl (yz_ne (by omega)) (fun hb14384 => ?_) (fun hb14384 => ?_)
    · exfalso; omega
    · refine y_aload 91 c211_90 rfl rfl rfl ?_
      refine y_getX 94 (mi 376 54) c211_91 rfl kf376_54 rfl ?_
      refine y_if 104 97 c211_94 rfl rfl (yz_le (by omega)) (fun hb14385 => ?_) (fun hb14385 => ?_)
      · exfalso; omega
      · refine y_aload 98 c211_97 rfl rfl rfl ?_
        refine y_callUB 101 [.ref 376] [] c211_98 rfl rfl rfl rfl rfl (ycanO km210 ko376) (t210_1 hTi (by omega) (hG.fr hT (by decide) (fun a q ha => hFi a q (wRn_G a q ha))) hVi hRi) (fun mq14386 nq14386 hq14386 => ?_)
        obtain ⟨rfl, hTq14386, hFq14386, hVq14386, hq14386⟩ := hq14386
        have hFn := hFi.tr hFq14386 (fun _ _ e => e)
        have hMn : MI mq14386 := ⟨hTq14386, Or.inr (Or.inr ⟨(hFn 376 18 rfl).trans hn, hG.fr hT (by decide) (fun a q ha => hFn a q (wRn_G a q ha))⟩)⟩
        refine y_goto 83 c211_101 rfl ?_
        rcases hq14386 with z | z | z
        · exact t211e_0 hTq14386 (hF0.tr hFn wRn_wML) hMn (Or.inl z)
        · exact t211e_0 hTq14386 (hF0.tr hFn wRn_wML) hMn (Or.inr z)
        · have tl := hTq14386.atp 376 55 0 124 rfl
          have hl := rk_lo (p := 1) (m := mq14386) (o := mq14386 376 55) (by omega)
          have t56 := hTq14386.atp 376 56 0 201 rfl
          have t54 := hTq14386.atp 376 54 0 4 rfl
          have hm0 : 0 ≤ MR 1 mq14386 := by unfold MR; omega
          exact ih (MR 1 mq14386).toNat (by omega) _ (by omega) hTq14386 hFn hVq14386 z.1
set_option maxRecDepth 100000 in
theorem t211_1 {L : Nat} {xs : Nat → Int32} {d nn : Nat} {m : yM} (hT : Ty gT m) (hn : m 376 18 = 1) (hI : m 376 19 = 0 ∨ GQ 1 m) (hMI : MI m) : YC (gZ L xs) (d + 6) 211 [.ref 376] m nn (qMd nn m) := by
  have tb383 := hT.atp 383 1 0 6 rfl
  have tb384 := hT.atp 384 1 0 10 rfl
  have tb385 := hT.atp 385 1 0 8 rfl
  have tb386 := hT.atp 386 1 0 12 rfl
  have tb387 := hT.atp 387 1 0 8 rfl
  have tb388 := hT.atp 388 1 0 12 rfl
  have tb389 := hT.atp 389 1 0 48 rfl
  have tb390 := hT.atp 390 1 0 125 rfl
  have t19 := hT.atp 376 19 0 1 rfl
  refine YC.mkB [some (.ref 376), none] kn211 rfl rfl ?_
  have hF : Fr wRn m m := Fr.rf
  refine y_aload 1 c211_0 rfl rfl rfl ?_
  refine y_aload 2 c211_1 rfl rfl rfl ?_
  refine y_getX 5 (m 376 19) c211_2 rfl kf376_19 rfl ?_
  refine y_if 19 8 c211_5 rfl rfl (yz_eq (by omega)) (fun hb14387 => ?_) (fun hb14387 => ?_)
  · refine y_iconst 20 c211_19 rfl ?_
    refine y_inlB 23 [.ref 376, yI 0] [] [some (.ref 376), some (yI 0)] c211_20 rfl rfl rfl rfl rfl (ycanO km162 ko376) kn162 rfl rfl ?_
    refine y_aload 1 c162_0 rfl rfl rfl ?_
    refine y_aload 2 c162_1 rfl rfl rfl ?_
    refine y_getX 5 (m 376 19) c162_2 rfl kf376_19 rfl ?_
    refine y_top 0 (by omega) ?_
    refine y_if 16 8 c162_5 rfl rfl (yz_eq (by omega)) (fun hb14388 => ?_) (fun hb14388 => ?_)
    · refine y_iconst 17 c162_16 rfl ?_
      refine y_iconst 18 c162_17 rfl ?_
      refine y_inlB 21 [.ref 376, yI 0, yI 1] [] [some (.ref 376), some (yI 0), some (yI 1)] c162_18 rfl rfl rfl rfl rfl (ycanO km23 ko376) kn23 rfl rfl ?_
      refine y_aload 1 c23_0 rfl rfl rfl ?_
      refine y_iload 2 c23_1 rfl rfl ?_
      refine y_if 9 5 c23_2 rfl rfl (yz_eq (by omega)) (fun hb14389 => ?_) (fun hb14389 => ?_)
      · refine y_iload 10 c23_9 rfl rfl ?_
        refine y_putI 13 c23_10 rfl kf376_57 (y_fit0 _) ?_
        have hT14390 := hT.up 376 57 1 0 4 rfl (by omega)
        have hF14391 := hF.up 376 57 1 rfl
        refine y_iload 14 c23_13 rfl rfl ?_
        refine y_ireturnK c23_14 (y_fit1 (by omega)) ?_
        refine y_ireturnK c162_21 (y_fit1 (by omega)) ?_
        refine y_if 28 26 c211_23 rfl rfl (yz_ne (by omega)) (fun hb14392 => ?_) (fun hb14392 => ?_)
        · exfalso; omega
        · refine y_iconst 27 c211_26 rfl ?_
          exact y_ireturn c211_27 (y_fit0 _) ⟨_, rfl, rfl, Fr.rf.tr hF14391 wRn_wML, hMI.fr hT14390 (fun a q ha => (yup_ne (by rintro ⟨rfl, rfl⟩; simp [vGq] at ha)))⟩
      · exfalso; omega
    · exfalso; omega
  · have hG := hI.resolve_left (by omega)
    have g83 := hG.2.2.2.2.2.2.2.2.2.1
    have g88 := hG.2.2.2.2.2.2.2.2.1
    have g90 : m 390 1 ≤ 100 := hG.2.2.2.2.2.2.2.2.2.2.1
    refine y_aload 9 c211_8 rfl rfl rfl ?_
    have tb14394 := hT.atp 376 18 0 1 rfl
    have hUc := hG.2.2.2.2.1
    refine y_callP 12 [.ref 376] [.ref 376] c211_9 rfl rfl rfl rfl rfl (ycanO km143 ko376) (t143x_1 hT (by omega) hUc (by omega)) (fun r14393 hr14393 => ?_)
    have hs1 : 0 ≤ r14393 → SG 1 m r14393 := fun h0 => hr14393.resolve_right (by rintro ⟨h1, -⟩; omega)
    refine y_if 19 15 c211_12 rfl rfl (yz_lt (by omega)) (fun hb14395 => ?_) (fun hb14395 => ?_)
    · refine y_iconst 20 c211_19 rfl ?_
      refine y_inlB 23 [.ref 376, yI 0] [] [some (.ref 376), some (yI 0)] c211_20 rfl rfl rfl rfl rfl (ycanO km162 ko376) kn162 rfl rfl ?_
      refine y_aload 1 c162_0 rfl rfl rfl ?_
      refine y_aload 2 c162_1 rfl rfl rfl ?_
      refine y_getX 5 (m 376 19) c162_2 rfl kf376_19 rfl ?_
      refine y_top 1 (by omega) ?_
      refine y_if 16 8 c162_5 rfl rfl (yz_eq (by omega)) (fun hb14396 => ?_) (fun hb14396 => ?_)
      · exfalso; omega
      · refine y_iload 9 c162_8 rfl rfl ?_
        refine y_if 16 12 c162_9 rfl rfl (yz_eq (by omega)) (fun hb14397 => ?_) (fun hb14397 => ?_)
        · refine y_iconst 17 c162_16 rfl ?_
          refine y_iconst 18 c162_17 rfl ?_
          refine y_inlB 21 [.ref 376, yI 0, yI 1] [] [some (.ref 376), some (yI 0), some (yI 1)] c162_18 rfl rfl rfl rfl rfl (ycanO km23 ko376) kn23 rfl rfl ?_
          refine y_aload 1 c23_0 rfl rfl rfl ?_
          refine y_iload 2 c23_1 rfl rfl ?_
          refine y_if 9 5 c23_2 rfl rfl (yz_eq (by omega)) (fun hb14398 => ?_) (fun hb14398 => ?_)
          · refine y_iload 10 c23_9 rfl rfl ?_
            refine y_putI 13 c23_10 rfl kf376_57 (y_fit0 _) ?_
            have hT14399 := hT.up 376 57 1 0 4 rfl (by omega)
            have hF14400 := hF.up 376 57 1 rfl
            refine y_iload 14 c23_13 rfl rfl ?_
            refine y_ireturnK c23_14 (y_fit1 (by omega)) ?_
            refine y_ireturnK c162_21 (y_fit1 (by omega)) ?_
            refine y_if 28 26 c211_23 rfl rfl (yz_ne (by omega)) (fun hb14401 => ?_) (fun hb14401 => ?_)
            · exfalso; omega
            · refine y_iconst 27 c211_26 rfl ?_
              exact y_ireturn c211_27 (y_fit0 _) ⟨_, rfl, rfl, Fr.rf.tr hF14400 wRn_wML, hMI.fr hT14399 (fun a q ha => (yup_ne (by rintro ⟨rfl, rfl⟩; simp [vGq] at ha)))⟩
          · exfalso; omega
        · exfalso; omega
    · refine y_iconst 16 c211_15 rfl ?_
      refine y_goto 20 c211_16 rfl ?_
      refine y_inlB 23 [.ref 376, yI 1] [] [some (.ref 376), some (yI 1)] c211_20 rfl rfl rfl rfl rfl (ycanO km162 ko376) kn162 rfl rfl ?_
      refine y_aload 1 c162_0 rfl rfl rfl ?_
      refine y_aload 2 c162_1 rfl rfl rfl ?_
      refine y_getX 5 (m 376 19) c162_2 rfl kf376_19 rfl ?_
      refine y_top 1 (by omega) ?_
      refine y_if 16 8 c162_5 rfl rfl (yz_eq (by omega)) (fun hb14402 => ?_) (fun hb14402 => ?_)
      · exfalso; omega
      · refine y_iload 9 c162_8 rfl rfl ?_
        refine y_if 16 12 c162_9 rfl rfl (yz_eq (by omega)) (fun hb14403 => ?_) (fun hb14403 => ?_)
        · exfalso; omega
        · refine y_iconst 13 c162_12 rfl ?_
          refine y_goto 17 c162_13 rfl ?_
          refine y_iconst 18 c162_17 rfl ?_
          refine y_inlB 21 [.ref 376, yI 1, yI 1] [] [some (.ref 376), some (yI 1), some (yI 1)] c162_18 rfl rfl rfl rfl rfl (ycanO km23 ko376) kn23 rfl rfl ?_
          refine y_aload 1 c23_0 rfl rfl rfl ?_
          refine y_iload 2 c23_1 rfl rfl ?_
          refine y_if 9 5 c23_2 rfl rfl (yz_eq (by omega)) (fun hb14404 => ?_) (fun hb14404 => ?_)
          · exfalso; omega
          · refine y_iconst 6 c23_5 rfl ?_
            refine y_goto 10 c23_6 rfl ?_
            refine y_putI 13 c23_10 rfl kf376_57 (y_fit0 _) ?_
            have hT14405 := hT.up 376 57 0 0 4 rfl (by omega)
            have hF14406 := hF.up 376 57 0 rfl
            refine y_iload 14 c23_13 rfl rfl ?_
            refine y_ireturnK c23_14 (y_fit1 (by omega)) ?_
            refine y_ireturnK c162_21 (y_fit1 (by omega)) ?_
            refine y_if 28 26 c211_23 rfl rfl (yz_ne (by omega)) (fun hb14407 => ?_) (fun hb14407 => ?_)
            · refine y_iconst 29 c211_28 rfl ?_
              refine y_istore 30 c211_29 rfl rfl ?_
              refine t211s hT14405 (fun z1 mz hTmz hFmz => ?_) 576 0 _ (by omega) (by omega) hT14405 Fr.rf
              have hF14408 := hF14406.tr hFmz wRo8_wRn
              refine y_aload 51 c211_50 rfl rfl rfl ?_
              refine y_iconst 52 c211_51 rfl ?_
              refine y_putI 55 c211_52 rfl kf376_51 (y_fit0 _) ?_
              have hT14409 := hTmz.up 376 51 0 0 30 rfl (by omega)
              have hF14410 := hF14408.up 376 51 0 rfl
              refine y_aload 56 c211_55 rfl rfl rfl ?_
              refine y_iconst 57 c211_56 rfl ?_
              refine y_putI 60 c211_57 rfl kf376_54 (y_fit0 _) ?_
              have hT14411 := hT14409.up 376 54 0 0 4 rfl (by omega)
              have hF14412 := hF14410.up 376 54 0 rfl
              refine y_aload 61 c211_60 rfl rfl rfl ?_
              refine y_iconst 62 c211_61 rfl ?_
              refine y_putI 65 c211_62 rfl kf376_56 (y_fit0 _) ?_
              have hT14413 := hT14411.up 376 56 0 0 201 rfl (by omega)
              have hF14414 := hF14412.up 376 56 0 rfl
              have es14415 : (yup (yup (yup mz 376 51 0) 376 54 0) 376 56 0) 376 51 = 0 := rfl
              have es14416 : (yup (yup (yup mz 376 51 0) 376 54 0) 376 56 0) 376 54 = 0 := rfl
              have hV0 : VX 1 (yup (yup (yup mz 376 51 0) 376 54 0) 376 56 0) := ⟨fun q hq => by omega, fun q hq => by omega, fun q hq => by omega⟩
              obtain ⟨ms, hms⟩ : ∃ ms : yM, ms = yup (yup (yup mz 376 51 0) 376 54 0) 376 56 0 := ⟨_, rfl⟩
              have hTs : Ty gT ms := hms ▸ hT14413
              have hFs : Fr wRn m ms := hms ▸ hF14414
              have hVs : VX 1 ms := hms ▸ hV0
              have es51 : ms 376 51 = 0 := by rw [hms]; first | rfl | exact rfl
              have es54 : ms 376 54 = 0 := by rw [hms]; first | rfl | exact rfl
              have es56 : ms 376 56 = 0 := by rw [hms]; first | rfl | exact rfl
              have es57 : ms 376 57 = 0 := by rw [hms]; exact ((yup_nk (by decide)).trans ((yup_nk (by decide)).trans ((yup_nk (by decide)).trans ((hFmz 376 57 rfl).trans (yup_eq _ _ _ _)))))
              rw [← hms]
              refine y_aload 66 c211_65 rfl rfl rfl ?_
              refine y_iconst 67 c211_66 rfl ?_
              have tb14418 := hTs.atp 376 51 0 30 rfl
              have tb14419 := hTs.atp 376 54 0 4 rfl
              have es14420 : ms 376 18 = m 376 18 := (hFs 376 18 rfl)
              have es14421 : ms 388 1 = m 388 1 := (hFs 388 1 rfl)
              have tb14422 := hTs.atp 376 57 0 4 rfl
              have hVc : VX 1 ms := hVs
              refine y_callIB 70 [.ref 376, yI 0] [] c211_67 rfl rfl rfl rfl rfl (ycanO km201 ko376) (t201_1 hTs hVc (by omega)) (fun rq14417 mq14417 nq14417 hq14417 => ?_)
              obtain ⟨rfl, hTq14417, hFq14417, hq14417, hcq14417, hVq14417⟩ := hq14417
              have hF14423 := hFs.tr hFq14417 wMk_wRn
              refine y_istore 71 c211_70 rfl rfl ?_
              refine y_aload 72 c211_71 rfl rfl rfl ?_
              refine y_aload 73 c211_72 rfl rfl rfl ?_
              have es14425 : mq14417 376 18 = m 376 18 := ((hFq14417 376 18 rfl).trans (hFs 376 18 rfl))
              have es14426 : mq14417 383 1 = m 383 1 := ((hFq14417 383 1 rfl).trans (hFs 383 1 rfl))
              have es14427 : mq14417 384 1 = m 384 1 := ((hFq14417 384 1 rfl).trans (hFs 384 1 rfl))
              have hUc : UX 1 mq14417 (mq14417 383 1) := by rw [show mq14417 383 1 = m 383 1 from ((hFq14417 383 1 rfl).trans (hFs 383 1 rfl))]; exact hG.2.2.2.2.1.fr (fun q => ((hFq14417 392 q rfl).trans (hFs 392 q rfl)))
              refine y_callP 76 [.ref 376] [.ref 376] c211_73 rfl rfl rfl rfl rfl (ycanO km143 ko376) (t143x_1 hTq14417 (by omega) hUc (by omega)) (fun r14424 hr14424 => ?_)
              have hs2 : SG 1 mq14417 r14393 := (hs1 (by omega)).fr (((hFq14417 384 1 rfl).trans (hFs 384 1 rfl))) (fun q => ((hFq14417 395 q rfl).trans (hFs 395 q rfl))) (fun q => ((hFq14417 396 q rfl).trans (hFs 396 q rfl))) (fun q => ((hFq14417 397 q rfl).trans (hFs 397 q rfl)))
              have hs3 : SG 1 mq14417 r14424 := hr14424.resolve_right (fun h1 => h1.2 _ hs2)
              have hs4 := hs3.1.1
              have hs5 := hs3.1.2.1
              refine y_iload 77 c211_76 rfl rfl ?_
              refine y_iconst 78 c211_77 rfl ?_
              refine y_iconst 79 c211_78 rfl ?_
              refine y_iconst 80 c211_79 rfl ?_
              have tb14429 := hTq14417.atp 376 51 0 30 rfl
              have es14430 : mq14417 376 54 = ms 376 54 := (hFq14417 376 54 rfl)
              have es14431 : mq14417 376 18 = m 376 18 := ((hFq14417 376 18 rfl).trans (hFs 376 18 rfl))
              have es14432 : mq14417 384 1 = m 384 1 := ((hFq14417 384 1 rfl).trans (hFs 384 1 rfl))
              have es14433 : mq14417 390 1 = m 390 1 := ((hFq14417 390 1 rfl).trans (hFs 390 1 rfl))
              have tb14434 := hTq14417.atp 376 57 0 4 rfl
              have es14435 : mq14417 376 55 = ms 376 55 := (hFq14417 376 55 rfl)
              have tb14436 := hTs.atp 376 55 0 124 rfl
              have es14437 : mq14417 376 56 = ms 376 56 := (hFq14417 376 56 rfl)
              have tb14438 := hTs.atp 376 56 0 201 rfl
              have hVc : VX 1 mq14417 := hVq14417
              refine y_callUB 83 [.ref 376, yI r14424, yI rq14417, yI 0, yI 0, yI 0] [] c211_80 rfl rfl rfl rfl rfl (ycanO km203 ko376) (t203_1 hTq14417 (by omega) (hG.fr hT (by decide) (fun a q ha => hF14423 a q (wRn_G a q ha))) hVc (by omega) (by omega) (by omega) (by omega) (by omega)) (fun mq14428 nq14428 hq14428 => ?_)
              obtain ⟨rfl, hTq14428, hFq14428, hVq14428, hq14428, hqq14428⟩ := hq14428
              have hF14439 := hF14423.tr hFq14428 wEn_wRn
              have tb14440 := hTq14428.atp 376 54 0 4 rfl
              have tb14441 := hTq14428.atp 376 55 0 124 rfl
              have es14442 : mq14428 376 56 = ms 376 56 := ((hFq14428 376 56 rfl).trans (hFq14417 376 56 rfl))
              have tb14443 := hTq14428.atp 376 57 0 4 rfl
              have es14444 : mq14428 390 1 = m 390 1 := ((hFq14428 390 1 rfl).trans ((hFq14417 390 1 rfl).trans (hFs 390 1 rfl)))
              have hMn : MI mq14428 := ⟨hTq14428, Or.inr (Or.inr ⟨(hF14439 376 18 rfl).trans hn, hG.fr hT (by decide) (fun a q ha => hF14439 a q (wRn_G a q ha))⟩)⟩
              have tc := hTq14428.atp 376 57 0 4 rfl
              by_cases hz : mq14428 376 57 = 0
              · have hR : RN 1 mq14428 := ⟨by omega, by omega, hz, by omega, fun f h1 h2 => by omega⟩
                have tl := hTq14428.atp 376 55 0 124 rfl
                have hl := rk_lo (p := 1) (m := mq14428) (o := mq14428 376 55) (by omega)
                have t56 := hTq14428.atp 376 56 0 201 rfl
                have t54 := hTq14428.atp 376 54 0 4 rfl
                have hm0 : 0 ≤ MR 1 mq14428 := by unfold MR; omega
                exact t211a_1 hT hn hG Fr.rf (by omega) (MR 1 mq14428).toNat _ (by omega) hTq14428 hF14439 hVq14428 hR
              · exact t211e_0 hTq14428 (Fr.rf.tr hF14439 wRn_wML) hMn (Or.inl hz)
            · exfalso; omega
