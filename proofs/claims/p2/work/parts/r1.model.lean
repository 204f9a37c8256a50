/-! CONTRACTS: the model, questions. Printed by wip/whole/gen9j.py -/
set_option maxRecDepth 100000 in
theorem t163_0 {L : Nat} {xs : Nat → Int32} {d nn : Nat} {m : yM} (hT : Ty gT m) (hn : m 376 18 = 0) (hMI : MI m) {a : Int} (ra : -2147483648 ≤ a ∧ a < 2147483648) {b : Int} (rb : -2147483648 ≤ b ∧ b < 2147483648) : YC (gZ L xs) (d + 6) 163 [.ref 376, yI a, yI b] m nn (qMd nn m) := by
  have tb383 := hT.atp 383 0 0 6 rfl
  have tb384 := hT.atp 384 0 0 10 rfl
  have tb385 := hT.atp 385 0 0 8 rfl
  have tb386 := hT.atp 386 0 0 12 rfl
  have tb387 := hT.atp 387 0 0 8 rfl
  have tb388 := hT.atp 388 0 0 12 rfl
  have tb389 := hT.atp 389 0 0 48 rfl
  have tb390 := hT.atp 390 0 0 125 rfl
  have t19 := hT.atp 376 19 0 1 rfl
  refine YC.mkB [some (.ref 376), some (yI a), some (yI b)] kn163 rfl rfl ?_
  have hF : Fr wML m m := Fr.rf
  refine y_aload 1 c163_0 rfl rfl rfl ?_
  refine y_aload 2 c163_1 rfl rfl rfl ?_
  refine y_iload 3 c163_2 rfl rfl ?_
  refine y_inlB 6 [.ref 376, yI a] [.ref 376] [some (.ref 376), some (yI a)] c163_3 rfl rfl rfl rfl rfl (ycanO km160 ko376) kn160 rfl rfl ?_
  refine y_aload 1 c160_0 rfl rfl rfl ?_
  refine y_getX 4 (m 376 19) c160_1 rfl kf376_19 rfl ?_
  refine y_if 30 7 c160_4 rfl rfl (yz_eq (by omega)) (fun hb14445 => ?_) (fun hb14445 => ?_)
  · refine y_iconst 31 c160_30 rfl ?_
    refine y_ireturnK c160_31 (y_fit1 (by omega)) ?_
    refine y_if 21 9 c163_6 rfl rfl (yz_eq (by omega)) (fun hb14446 => ?_) (fun hb14446 => ?_)
    · refine y_iconst 22 c163_21 rfl ?_
      refine y_inlB 25 [.ref 376, yI 0] [] [some (.ref 376), some (yI 0)] c163_22 rfl rfl rfl rfl rfl (ycanO km162 ko376) kn162 rfl rfl ?_
      refine y_aload 1 c162_0 rfl rfl rfl ?_
      refine y_aload 2 c162_1 rfl rfl rfl ?_
      refine y_getX 5 (m 376 19) c162_2 rfl kf376_19 rfl ?_
      refine y_top 0 (by omega) ?_
      refine y_if 16 8 c162_5 rfl rfl (yz_eq (by omega)) (fun hb14447 => ?_) (fun hb14447 => ?_)
      · refine y_iconst 17 c162_16 rfl ?_
        refine y_iconst 18 c162_17 rfl ?_
        refine y_inlB 21 [.ref 376, yI 0, yI 1] [] [some (.ref 376), some (yI 0), some (yI 1)] c162_18 rfl rfl rfl rfl rfl (ycanO km23 ko376) kn23 rfl rfl ?_
        refine y_aload 1 c23_0 rfl rfl rfl ?_
        refine y_iload 2 c23_1 rfl rfl ?_
        refine y_if 9 5 c23_2 rfl rfl (yz_eq (by omega)) (fun hb14448 => ?_) (fun hb14448 => ?_)
        · refine y_iload 10 c23_9 rfl rfl ?_
          refine y_putI 13 c23_10 rfl kf376_57 (y_fit0 _) ?_
          have hT14449 := hT.up 376 57 1 0 4 rfl (by omega)
          have hF14450 := hF.up 376 57 1 rfl
          refine y_iload 14 c23_13 rfl rfl ?_
          refine y_ireturnK c23_14 (y_fit1 (by omega)) ?_
          refine y_ireturnK c162_21 (y_fit1 (by omega)) ?_
          refine y_if 42 28 c163_25 rfl rfl (yz_eq (by omega)) (fun hb14451 => ?_) (fun hb14451 => ?_)
          · refine y_iconst 43 c163_42 rfl ?_
            exact y_ireturn c163_43 (y_fit0 _) ⟨_, rfl, rfl, hF14450, (hMI.fr hT14449 (fun a q ha => (yup_ne (by rintro ⟨rfl, rfl⟩; simp [vGq] at ha))))⟩
          · exfalso; omega
        · exfalso; omega
      · exfalso; omega
    · exfalso; omega
  · refine y_iload 8 c160_7 rfl rfl ?_
    refine y_iconst 9 c160_8 rfl ?_
    refine y_aload 10 c160_9 rfl rfl rfl ?_
    refine y_getR 13 c160_10 rfl kf376_26 ?_
    refine y_aload 14 c160_13 rfl rfl rfl ?_
    refine y_getX 17 (m 376 18) c160_14 rfl kf376_18 rfl ?_
    have tb14452 := hT.atp 376 18 0 1 rfl
    refine y_top 0 (by omega) ?_
    refine y_iaX 18 (m 389 0) c160_17 rfl ka389 (by decide) rfl ?_
    refine y_iconst 19 c160_18 rfl ?_
    refine y_isub 20 c160_19 rfl ?_
    refine y_callP 23 [yI a, yI 0, yI ((m 389 0) - 1)] [] c160_20 rfl rfl rfl rfl rfl (ycanS km22) (t22m (by omega) (by omega) (by omega)) (fun r14453 hr14453 => ?_)
    refine y_if 30 26 c160_23 rfl rfl (yz_eq (by omega)) (fun hb14454 => ?_) (fun hb14454 => ?_)
    · refine y_iconst 31 c160_30 rfl ?_
      refine y_ireturnK c160_31 (y_fit1 (by omega)) ?_
      refine y_if 21 9 c163_6 rfl rfl (yz_eq (by omega)) (fun hb14455 => ?_) (fun hb14455 => ?_)
      · refine y_iconst 22 c163_21 rfl ?_
        refine y_inlB 25 [.ref 376, yI 0] [] [some (.ref 376), some (yI 0)] c163_22 rfl rfl rfl rfl rfl (ycanO km162 ko376) kn162 rfl rfl ?_
        refine y_aload 1 c162_0 rfl rfl rfl ?_
        refine y_aload 2 c162_1 rfl rfl rfl ?_
        refine y_getX 5 (m 376 19) c162_2 rfl kf376_19 rfl ?_
        refine y_top 1 (by omega) ?_
        refine y_if 16 8 c162_5 rfl rfl (yz_eq (by omega)) (fun hb14456 => ?_) (fun hb14456 => ?_)
        · exfalso; omega
        · refine y_iload 9 c162_8 rfl rfl ?_
          refine y_if 16 12 c162_9 rfl rfl (yz_eq (by omega)) (fun hb14457 => ?_) (fun hb14457 => ?_)
          · refine y_iconst 17 c162_16 rfl ?_
            refine y_iconst 18 c162_17 rfl ?_
            refine y_inlB 21 [.ref 376, yI 0, yI 1] [] [some (.ref 376), some (yI 0), some (yI 1)] c162_18 rfl rfl rfl rfl rfl (ycanO km23 ko376) kn23 rfl rfl ?_
            refine y_aload 1 c23_0 rfl rfl rfl ?_
            refine y_iload 2 c23_1 rfl rfl ?_
            refine y_if 9 5 c23_2 rfl rfl (yz_eq (by omega)) (fun hb14458 => ?_) (fun hb14458 => ?_)
            · refine y_iload 10 c23_9 rfl rfl ?_
              refine y_putI 13 c23_10 rfl kf376_57 (y_fit0 _) ?_
              have hT14459 := hT.up 376 57 1 0 4 rfl (by omega)
              have hF14460 := hF.up 376 57 1 rfl
              refine y_iload 14 c23_13 rfl rfl ?_
              refine y_ireturnK c23_14 (y_fit1 (by omega)) ?_
              refine y_ireturnK c162_21 (y_fit1 (by omega)) ?_
              refine y_if 42 28 c163_25 rfl rfl (yz_eq (by omega)) (fun hb14461 => ?_) (fun hb14461 => ?_)
              · refine y_iconst 43 c163_42 rfl ?_
                exact y_ireturn c163_43 (y_fit0 _) ⟨_, rfl, rfl, hF14460, (hMI.fr hT14459 (fun a q ha => (yup_ne (by rintro ⟨rfl, rfl⟩; simp [vGq] at ha))))⟩
              · exfalso; omega
            · exfalso; omega
          · exfalso; omega
      · exfalso; omega
    · refine y_iconst 27 c160_26 rfl ?_
      refine y_goto 31 c160_27 rfl ?_
      refine y_ireturnK c160_31 (y_fit1 (by omega)) ?_
      refine y_if 21 9 c163_6 rfl rfl (yz_eq (by omega)) (fun hb14462 => ?_) (fun hb14462 => ?_)
      · exfalso; omega
      · refine y_aload 10 c163_9 rfl rfl rfl ?_
        refine y_iload 11 c163_10 rfl rfl ?_
        refine y_inlB 14 [.ref 376, yI b] [.ref 376] [some (.ref 376), some (yI b)] c163_11 rfl rfl rfl rfl rfl (ycanO km161 ko376) kn161 rfl rfl ?_
        refine y_aload 1 c161_0 rfl rfl rfl ?_
        refine y_getX 4 (m 376 19) c161_1 rfl kf376_19 rfl ?_
        refine y_top 1 (by omega) ?_
        refine y_if 30 7 c161_4 rfl rfl (yz_eq (by omega)) (fun hb14463 => ?_) (fun hb14463 => ?_)
        · exfalso; omega
        · refine y_iload 8 c161_7 rfl rfl ?_
          refine y_iconst 9 c161_8 rfl ?_
          refine y_aload 10 c161_9 rfl rfl rfl ?_
          refine y_getR 13 c161_10 rfl kf376_25 ?_
          refine y_aload 14 c161_13 rfl rfl rfl ?_
          refine y_getX 17 (m 376 18) c161_14 rfl kf376_18 rfl ?_
          refine y_top 0 (by omega) ?_
          refine y_iaX 18 (m 388 0) c161_17 rfl ka388 (by decide) rfl ?_
          refine y_iconst 19 c161_18 rfl ?_
          refine y_isub 20 c161_19 rfl ?_
          refine y_callP 23 [yI b, yI 0, yI ((m 388 0) - 1)] [] c161_20 rfl rfl rfl rfl rfl (ycanS km22) (t22m (by omega) (by omega) (by omega)) (fun r14464 hr14464 => ?_)
          refine y_if 30 26 c161_23 rfl rfl (yz_eq (by omega)) (fun hb14465 => ?_) (fun hb14465 => ?_)
          · refine y_iconst 31 c161_30 rfl ?_
            refine y_ireturnK c161_31 (y_fit1 (by omega)) ?_
            refine y_if 21 17 c163_14 rfl rfl (yz_eq (by omega)) (fun hb14466 => ?_) (fun hb14466 => ?_)
            · refine y_iconst 22 c163_21 rfl ?_
              refine y_inlB 25 [.ref 376, yI 0] [] [some (.ref 376), some (yI 0)] c163_22 rfl rfl rfl rfl rfl (ycanO km162 ko376) kn162 rfl rfl ?_
              refine y_aload 1 c162_0 rfl rfl rfl ?_
              refine y_aload 2 c162_1 rfl rfl rfl ?_
              refine y_getX 5 (m 376 19) c162_2 rfl kf376_19 rfl ?_
              refine y_top 1 (by omega) ?_
              refine y_if 16 8 c162_5 rfl rfl (yz_eq (by omega)) (fun hb14467 => ?_) (fun hb14467 => ?_)
              · exfalso; omega
              · refine y_iload 9 c162_8 rfl rfl ?_
                refine y_if 16 12 c162_9 rfl rfl (yz_eq (by omega)) (fun hb14468 => ?_) (fun hb14468 => ?_)
                · refine y_iconst 17 c162_16 rfl ?_
                  refine y_iconst 18 c162_17 rfl ?_
                  refine y_inlB 21 [.ref 376, yI 0, yI 1] [] [some (.ref 376), some (yI 0), some (yI 1)] c162_18 rfl rfl rfl rfl rfl (ycanO km23 ko376) kn23 rfl rfl ?_
                  refine y_aload 1 c23_0 rfl rfl rfl ?_
                  refine y_iload 2 c23_1 rfl rfl ?_
                  refine y_if 9 5 c23_2 rfl rfl (yz_eq (by omega)) (fun hb14469 => ?_) (fun hb14469 => ?_)
                  · refine y_iload 10 c23_9 rfl rfl ?_
                    refine y_putI 13 c23_10 rfl kf376_57 (y_fit0 _) ?_
                    have hT14470 := hT.up 376 57 1 0 4 rfl (by omega)
                    have hF14471 := hF.up 376 57 1 rfl
                    refine y_iload 14 c23_13 rfl rfl ?_
                    refine y_ireturnK c23_14 (y_fit1 (by omega)) ?_
                    refine y_ireturnK c162_21 (y_fit1 (by omega)) ?_
                    refine y_if 42 28 c163_25 rfl rfl (yz_eq (by omega)) (fun hb14472 => ?_) (fun hb14472 => ?_)
                    · refine y_iconst 43 c163_42 rfl ?_
                      exact y_ireturn c163_43 (y_fit0 _) ⟨_, rfl, rfl, hF14471, (hMI.fr hT14470 (fun a q ha => (yup_ne (by rintro ⟨rfl, rfl⟩; simp [vGq] at ha))))⟩
                    · exfalso; omega
                  · exfalso; omega
                · exfalso; omega
            · exfalso; omega
          · refine y_iconst 27 c161_26 rfl ?_
            refine y_goto 31 c161_27 rfl ?_
            refine y_ireturnK c161_31 (y_fit1 (by omega)) ?_
            refine y_if 21 17 c163_14 rfl rfl (yz_eq (by omega)) (fun hb14473 => ?_) (fun hb14473 => ?_)
            · exfalso; omega
            · refine y_iconst 18 c163_17 rfl ?_
              refine y_goto 22 c163_18 rfl ?_
              refine y_inlB 25 [.ref 376, yI 1] [] [some (.ref 376), some (yI 1)] c163_22 rfl rfl rfl rfl rfl (ycanO km162 ko376) kn162 rfl rfl ?_
              refine y_aload 1 c162_0 rfl rfl rfl ?_
              refine y_aload 2 c162_1 rfl rfl rfl ?_
              refine y_getX 5 (m 376 19) c162_2 rfl kf376_19 rfl ?_
              refine y_top 1 (by omega) ?_
              refine y_if 16 8 c162_5 rfl rfl (yz_eq (by omega)) (fun hb14474 => ?_) (fun hb14474 => ?_)
              · exfalso; omega
              · refine y_iload 9 c162_8 rfl rfl ?_
                refine y_if 16 12 c162_9 rfl rfl (yz_eq (by omega)) (fun hb14475 => ?_) (fun hb14475 => ?_)
                · exfalso; omega
                · refine y_iconst 13 c162_12 rfl ?_
                  refine y_goto 17 c162_13 rfl ?_
                  refine y_iconst 18 c162_17 rfl ?_
                  refine y_inlB 21 [.ref 376, yI 1, yI 1] [] [some (.ref 376), some (yI 1), some (yI 1)] c162_18 rfl rfl rfl rfl rfl (ycanO km23 ko376) kn23 rfl rfl ?_
                  refine y_aload 1 c23_0 rfl rfl rfl ?_
                  refine y_iload 2 c23_1 rfl rfl ?_
                  refine y_if 9 5 c23_2 rfl rfl (yz_eq (by omega)) (fun hb14476 => ?_) (fun hb14476 => ?_)
                  · exfalso; omega
                  · refine y_iconst 6 c23_5 rfl ?_
                    refine y_goto 10 c23_6 rfl ?_
                    refine y_putI 13 c23_10 rfl kf376_57 (y_fit0 _) ?_
                    have hT14477 := hT.up 376 57 0 0 4 rfl (by omega)
                    have hF14478 := hF.up 376 57 0 rfl
                    refine y_iload 14 c23_13 rfl rfl ?_
                    refine y_ireturnK c23_14 (y_fit1 (by omega)) ?_
                    refine y_ireturnK c162_21 (y_fit1 (by omega)) ?_
                    refine y_if 42 28 c163_25 rfl rfl (yz_eq (by omega)) (fun hb14479 => ?_) (fun hb14479 => ?_)
                    · exfalso; omega
                    · refine y_aload 29 c163_28 rfl rfl rfl ?_
                      refine y_getR 32 c163_29 rfl kf376_41 ?_
                      refine y_iconst 34 c163_32 rfl ?_
                      refine y_iload 35 c163_34 rfl rfl ?_
                      refine y_imul 36 c163_35 rfl ?_
                      refine y_iload 37 c163_36 rfl rfl ?_
                      refine y_iadd 38 c163_37 rfl ?_
                      refine y_iaT 39 ((-2147483648)) 2147483647 c163_38 rfl ka404 (by omega) hT14477 rfl (fun v14480 hv14480 gv14480 => ?_)
                      refine y_goto 43 c163_39 rfl ?_
                      exact y_ireturn c163_43 (y_fit0 _) ⟨_, rfl, rfl, hF14478, (hMI.fr hT14477 (fun a q ha => (yup_ne (by rintro ⟨rfl, rfl⟩; simp [vGq] at ha))))⟩
set_option maxRecDepth 100000 in
theorem t166_0 {L : Nat} {xs : Nat → Int32} {d nn : Nat} {m : yM} (hT : Ty gT m) (hn : m 376 18 = 0) (hMI : MI m) {a : Int} (ra : -2147483648 ≤ a ∧ a < 2147483648) {b : Int} (rb : -2147483648 ≤ b ∧ b < 2147483648) {c : Int} (rc : -2147483648 ≤ c ∧ c < 2147483648) : YC (gZ L xs) (d + 6) 166 [.ref 376, yI a, yI b, yI c] m nn (qMd nn m) := by
  have tb383 := hT.atp 383 0 0 6 rfl
  have tb384 := hT.atp 384 0 0 10 rfl
  have tb385 := hT.atp 385 0 0 8 rfl
  have tb386 := hT.atp 386 0 0 12 rfl
  have tb387 := hT.atp 387 0 0 8 rfl
  have tb388 := hT.atp 388 0 0 12 rfl
  have tb389 := hT.atp 389 0 0 48 rfl
  have tb390 := hT.atp 390 0 0 125 rfl
  have t19 := hT.atp 376 19 0 1 rfl
  refine YC.mkB [some (.ref 376), some (yI a), some (yI b), some (yI c)] kn166 rfl rfl ?_
  have hF : Fr wML m m := Fr.rf
  refine y_aload 1 c166_0 rfl rfl rfl ?_
  refine y_aload 2 c166_1 rfl rfl rfl ?_
  refine y_iload 3 c166_2 rfl rfl ?_
  refine y_inlB 6 [.ref 376, yI a] [.ref 376] [some (.ref 376), some (yI a)] c166_3 rfl rfl rfl rfl rfl (ycanO km161 ko376) kn161 rfl rfl ?_
  refine y_aload 1 c161_0 rfl rfl rfl ?_
  refine y_getX 4 (m 376 19) c161_1 rfl kf376_19 rfl ?_
  refine y_if 30 7 c161_4 rfl rfl (yz_eq (by omega)) (fun hb14481 => ?_) (fun hb14481 => ?_)
  · refine y_iconst 31 c161_30 rfl ?_
    refine y_ireturnK c161_31 (y_fit1 (by omega)) ?_
    refine y_if 40 9 c166_6 rfl rfl (yz_eq (by omega)) (fun hb14482 => ?_) (fun hb14482 => ?_)
    · refine y_iconst 41 c166_40 rfl ?_
      refine y_inlB 44 [.ref 376, yI 0] [] [some (.ref 376), some (yI 0)] c166_41 rfl rfl rfl rfl rfl (ycanO km162 ko376) kn162 rfl rfl ?_
      refine y_aload 1 c162_0 rfl rfl rfl ?_
      refine y_aload 2 c162_1 rfl rfl rfl ?_
      refine y_getX 5 (m 376 19) c162_2 rfl kf376_19 rfl ?_
      refine y_top 0 (by omega) ?_
      refine y_if 16 8 c162_5 rfl rfl (yz_eq (by omega)) (fun hb14483 => ?_) (fun hb14483 => ?_)
      · refine y_iconst 17 c162_16 rfl ?_
        refine y_iconst 18 c162_17 rfl ?_
        refine y_inlB 21 [.ref 376, yI 0, yI 1] [] [some (.ref 376), some (yI 0), some (yI 1)] c162_18 rfl rfl rfl rfl rfl (ycanO km23 ko376) kn23 rfl rfl ?_
        refine y_aload 1 c23_0 rfl rfl rfl ?_
        refine y_iload 2 c23_1 rfl rfl ?_
        refine y_if 9 5 c23_2 rfl rfl (yz_eq (by omega)) (fun hb14484 => ?_) (fun hb14484 => ?_)
        · refine y_iload 10 c23_9 rfl rfl ?_
          refine y_putI 13 c23_10 rfl kf376_57 (y_fit0 _) ?_
          have hT14485 := hT.up 376 57 1 0 4 rfl (by omega)
          have hF14486 := hF.up 376 57 1 rfl
          refine y_iload 14 c23_13 rfl rfl ?_
          refine y_ireturnK c23_14 (y_fit1 (by omega)) ?_
          refine y_ireturnK c162_21 (y_fit1 (by omega)) ?_
          refine y_if 66 47 c166_44 rfl rfl (yz_eq (by omega)) (fun hb14487 => ?_) (fun hb14487 => ?_)
          · refine y_iconst 67 c166_66 rfl ?_
            exact y_ireturn c166_67 (y_fit0 _) ⟨_, rfl, rfl, hF14486, (hMI.fr hT14485 (fun a q ha => (yup_ne (by rintro ⟨rfl, rfl⟩; simp [vGq] at ha))))⟩
          · exfalso; omega
        · exfalso; omega
      · exfalso; omega
    · exfalso; omega
  · refine y_iload 8 c161_7 rfl rfl ?_
    refine y_iconst 9 c161_8 rfl ?_
    refine y_aload 10 c161_9 rfl rfl rfl ?_
    refine y_getR 13 c161_10 rfl kf376_25 ?_
    refine y_aload 14 c161_13 rfl rfl rfl ?_
    refine y_getX 17 (m 376 18) c161_14 rfl kf376_18 rfl ?_
    have tb14488 := hT.atp 376 18 0 1 rfl
    refine y_top 0 (by omega) ?_
    refine y_iaX 18 (m 388 0) c161_17 rfl ka388 (by decide) rfl ?_
    refine y_iconst 19 c161_18 rfl ?_
    refine y_isub 20 c161_19 rfl ?_
    refine y_callP 23 [yI a, yI 0, yI ((m 388 0) - 1)] [] c161_20 rfl rfl rfl rfl rfl (ycanS km22) (t22m (by omega) (by omega) (by omega)) (fun r14489 hr14489 => ?_)
    refine y_if 30 26 c161_23 rfl rfl (yz_eq (by omega)) (fun hb14490 => ?_) (fun hb14490 => ?_)
    · refine y_iconst 31 c161_30 rfl ?_
      refine y_ireturnK c161_31 (y_fit1 (by omega)) ?_
      refine y_if 40 9 c166_6 rfl rfl (yz_eq (by omega)) (fun hb14491 => ?_) (fun hb14491 => ?_)
      · refine y_iconst 41 c166_40 rfl ?_
        refine y_inlB 44 [.ref 376, yI 0] [] [some (.ref 376), some (yI 0)] c166_41 rfl rfl rfl rfl rfl (ycanO km162 ko376) kn162 rfl rfl ?_
        refine y_aload 1 c162_0 rfl rfl rfl ?_
        refine y_aload 2 c162_1 rfl rfl rfl ?_
        refine y_getX 5 (m 376 19) c162_2 rfl kf376_19 rfl ?_
        refine y_top 1 (by omega) ?_
        refine y_if 16 8 c162_5 rfl rfl (yz_eq (by omega)) (fun hb14492 => ?_) (fun hb14492 => ?_)
        · exfalso; omega
        · refine y_iload 9 c162_8 rfl rfl ?_
          refine y_if 16 12 c162_9 rfl rfl (yz_eq (by omega)) (fun hb14493 => ?_) (fun hb14493 => ?_)
          · refine y_iconst 17 c162_16 rfl ?_
            refine y_iconst 18 c162_17 rfl ?_
            refine y_inlB 21 [.ref 376, yI 0, yI 1] [] [some (.ref 376), some (yI 0), some (yI 1)] c162_18 rfl rfl rfl rfl rfl (ycanO km23 ko376) kn23 rfl rfl ?_
            refine y_aload 1 c23_0 rfl rfl rfl ?_
            refine y_iload 2 c23_1 rfl rfl ?_
            refine y_if 9 5 c23_2 rfl rfl (yz_eq (by omega)) (fun hb14494 => ?_) (fun hb14494 => ?_)
            · refine y_iload 10 c23_9 rfl rfl ?_
              refine y_putI 13 c23_10 rfl kf376_57 (y_fit0 _) ?_
              have hT14495 := hT.up 376 57 1 0 4 rfl (by omega)
              have hF14496 := hF.up 376 57 1 rfl
              refine y_iload 14 c23_13 rfl rfl ?_
              refine y_ireturnK c23_14 (y_fit1 (by omega)) ?_
              refine y_ireturnK c162_21 (y_fit1 (by omega)) ?_
              refine y_if 66 47 c166_44 rfl rfl (yz_eq (by omega)) (fun hb14497 => ?_) (fun hb14497 => ?_)
              · refine y_iconst 67 c166_66 rfl ?_
                exact y_ireturn c166_67 (y_fit0 _) ⟨_, rfl, rfl, hF14496, (hMI.fr hT14495 (fun a q ha => (yup_ne (by rintro ⟨rfl, rfl⟩; simp [vGq] at ha))))⟩
              · exfalso; omega
            · exfalso; omega
          · exfalso; omega
      · exfalso; omega
    · refine y_iconst 27 c161_26 rfl ?_
      refine y_goto 31 c161_27 rfl ?_
      refine y_ireturnK c161_31 (y_fit1 (by omega)) ?_
      refine y_if 40 9 c166_6 rfl rfl (yz_eq (by omega)) (fun hb14498 => ?_) (fun hb14498 => ?_)
      · exfalso; omega
      · refine y_aload 10 c166_9 rfl rfl rfl ?_
        refine y_iload 11 c166_10 rfl rfl ?_
        refine y_inlB 14 [.ref 376, yI c] [.ref 376] [some (.ref 376), some (yI c)] c166_11 rfl rfl rfl rfl rfl (ycanO km161 ko376) kn161 rfl rfl ?_
        refine y_aload 1 c161_0 rfl rfl rfl ?_
        refine y_getX 4 (m 376 19) c161_1 rfl kf376_19 rfl ?_
        refine y_top 1 (by omega) ?_
        refine y_if 30 7 c161_4 rfl rfl (yz_eq (by omega)) (fun hb14499 => ?_) (fun hb14499 => ?_)
        · exfalso; omega
        · refine y_iload 8 c161_7 rfl rfl ?_
          refine y_iconst 9 c161_8 rfl ?_
          refine y_aload 10 c161_9 rfl rfl rfl ?_
          refine y_getR 13 c161_10 rfl kf376_25 ?_
          refine y_aload 14 c161_13 rfl rfl rfl ?_
          refine y_getX 17 (m 376 18) c161_14 rfl kf376_18 rfl ?_
          refine y_top 0 (by omega) ?_
          refine y_iaX 18 (m 388 0) c161_17 rfl ka388 (by decide) rfl ?_
          refine y_iconst 19 c161_18 rfl ?_
          refine y_isub 20 c161_19 rfl ?_
          refine y_callP 23 [yI c, yI 0, yI ((m 388 0) - 1)] [] c161_20 rfl rfl rfl rfl rfl (ycanS km22) (t22m (by omega) (by omega) (by omega)) (fun r14500 hr14500 => ?_)
          refine y_if 30 26 c161_23 rfl rfl (yz_eq (by omega)) (fun hb14501 => ?_) (fun hb14501 => ?_)
          · refine y_iconst 31 c161_30 rfl ?_
            refine y_ireturnK c161_31 (y_fit1 (by omega)) ?_
            refine y_if 40 17 c166_14 rfl rfl (yz_eq (by omega)) (fun hb14502 => ?_) (fun hb14502 => ?_)
            · refine y_iconst 41 c166_40 rfl ?_
              refine y_inlB 44 [.ref 376, yI 0] [] [some (.ref 376), some (yI 0)] c166_41 rfl rfl rfl rfl rfl (ycanO km162 ko376) kn162 rfl rfl ?_
              refine y_aload 1 c162_0 rfl rfl rfl ?_
              refine y_aload 2 c162_1 rfl rfl rfl ?_
              refine y_getX 5 (m 376 19) c162_2 rfl kf376_19 rfl ?_
              refine y_top 1 (by omega) ?_
              refine y_if 16 8 c162_5 rfl rfl (yz_eq (by omega)) (fun hb14503 => ?_) (fun hb14503 => ?_)
              · exfalso; omega
              · refine y_iload 9 c162_8 rfl rfl ?_
                refine y_if 16 12 c162_9 rfl rfl (yz_eq (by omega)) (fun hb14504 => ?_) (fun hb14504 => ?_)
                · refine y_iconst 17 c162_16 rfl ?_
                  refine y_iconst 18 c162_17 rfl ?_
                  refine y_inlB 21 [.ref 376, yI 0, yI 1] [] [some (.ref 376), some (yI 0), some (yI 1)] c162_18 rfl rfl rfl rfl rfl (ycanO km23 ko376) kn23 rfl rfl ?_
                  refine y_aload 1 c23_0 rfl rfl rfl ?_
                  refine y_iload 2 c23_1 rfl rfl ?_
                  refine y_if 9 5 c23_2 rfl rfl (yz_eq (by omega)) (fun hb14505 => ?_) (fun hb14505 => ?_)
                  · refine y_iload 10 c23_9 rfl rfl ?_
                    refine y_putI 13 c23_10 rfl kf376_57 (y_fit0 _) ?_
                    have hT14506 := hT.up 376 57 1 0 4 rfl (by omega)
                    have hF14507 := hF.up 376 57 1 rfl
                    refine y_iload 14 c23_13 rfl rfl ?_
                    refine y_ireturnK c23_14 (y_fit1 (by omega)) ?_
                    refine y_ireturnK c162_21 (y_fit1 (by omega)) ?_
                    refine y_if 66 47 c166_44 rfl rfl (yz_eq (by omega)) (fun hb14508 => ?_) (fun hb14508 => ?_)
                    · refine y_iconst 67 c166_66 rfl ?_
                      exact y_ireturn c166_67 (y_fit0 _) ⟨_, rfl, rfl, hF14507, (hMI.fr hT14506 (fun a q ha => (yup_ne (by rintro ⟨rfl, rfl⟩; simp [vGq] at ha))))⟩
                    · exfalso; omega
                  · exfalso; omega
                · exfalso; omega
            · exfalso; omega
          · refine y_iconst 27 c161_26 rfl ?_
            refine y_goto 31 c161_27 rfl ?_
            refine y_ireturnK c161_31 (y_fit1 (by omega)) ?_
            refine y_if 40 17 c166_14 rfl rfl (yz_eq (by omega)) (fun hb14509 => ?_) (fun hb14509 => ?_)
            · exfalso; omega
            · refine y_iload 18 c166_17 rfl rfl ?_
              refine y_iconst 19 c166_18 rfl ?_
              refine y_aload 20 c166_19 rfl rfl rfl ?_
              refine y_getR 23 c166_20 rfl kf376_22 ?_
              refine y_aload 24 c166_23 rfl rfl rfl ?_
              refine y_getX 27 (m 376 18) c166_24 rfl kf376_18 rfl ?_
              refine y_top 0 (by omega) ?_
              refine y_iaX 28 (m 385 0) c166_27 rfl ka385 (by decide) rfl ?_
              refine y_iconst 29 c166_28 rfl ?_
              refine y_isub 30 c166_29 rfl ?_
              refine y_callP 33 [yI b, yI 0, yI ((m 385 0) - 1)] [.ref 376] c166_30 rfl rfl rfl rfl rfl (ycanS km22) (t22m (by omega) (by omega) (by omega)) (fun r14510 hr14510 => ?_)
              refine y_if 40 36 c166_33 rfl rfl (yz_eq (by omega)) (fun hb14511 => ?_) (fun hb14511 => ?_)
              · refine y_iconst 41 c166_40 rfl ?_
                refine y_inlB 44 [.ref 376, yI 0] [] [some (.ref 376), some (yI 0)] c166_41 rfl rfl rfl rfl rfl (ycanO km162 ko376) kn162 rfl rfl ?_
                refine y_aload 1 c162_0 rfl rfl rfl ?_
                refine y_aload 2 c162_1 rfl rfl rfl ?_
                refine y_getX 5 (m 376 19) c162_2 rfl kf376_19 rfl ?_
                refine y_top 1 (by omega) ?_
                refine y_if 16 8 c162_5 rfl rfl (yz_eq (by omega)) (fun hb14512 => ?_) (fun hb14512 => ?_)
                · exfalso; omega
                · refine y_iload 9 c162_8 rfl rfl ?_
                  refine y_if 16 12 c162_9 rfl rfl (yz_eq (by omega)) (fun hb14513 => ?_) (fun hb14513 => ?_)
                  · refine y_iconst 17 c162_16 rfl ?_
                    refine y_iconst 18 c162_17 rfl ?_
                    refine y_inlB 21 [.ref 376, yI 0, yI 1] [] [some (.ref 376), some (yI 0), some (yI 1)] c162_18 rfl rfl rfl rfl rfl (ycanO km23 ko376) kn23 rfl rfl ?_
                    refine y_aload 1 c23_0 rfl rfl rfl ?_
                    refine y_iload 2 c23_1 rfl rfl ?_
                    refine y_if 9 5 c23_2 rfl rfl (yz_eq (by omega)) (fun hb14514 => ?_) (fun hb14514 => ?_)
                    · refine y_iload 10 c23_9 rfl rfl ?_
                      refine y_putI 13 c23_10 rfl kf376_57 (y_fit0 _) ?_
                      have hT14515 := hT.up 376 57 1 0 4 rfl (by omega)
                      have hF14516 := hF.up 376 57 1 rfl
                      refine y_iload 14 c23_13 rfl rfl ?_
                      refine y_ireturnK c23_14 (y_fit1 (by omega)) ?_
                      refine y_ireturnK c162_21 (y_fit1 (by omega)) ?_
                      refine y_if 66 47 c166_44 rfl rfl (yz_eq (by omega)) (fun hb14517 => ?_) (fun hb14517 => ?_)
                      · refine y_iconst 67 c166_66 rfl ?_
                        exact y_ireturn c166_67 (y_fit0 _) ⟨_, rfl, rfl, hF14516, (hMI.fr hT14515 (fun a q ha => (yup_ne (by rintro ⟨rfl, rfl⟩; simp [vGq] at ha))))⟩
                      · exfalso; omega
                    · exfalso; omega
                  · exfalso; omega
              · refine y_iconst 37 c166_36 rfl ?_
                refine y_goto 41 c166_37 rfl ?_
                refine y_inlB 44 [.ref 376, yI 1] [] [some (.ref 376), some (yI 1)] c166_41 rfl rfl rfl rfl rfl (ycanO km162 ko376) kn162 rfl rfl ?_
                refine y_aload 1 c162_0 rfl rfl rfl ?_
                refine y_aload 2 c162_1 rfl rfl rfl ?_
                refine y_getX 5 (m 376 19) c162_2 rfl kf376_19 rfl ?_
                refine y_top 1 (by omega) ?_
                refine y_if 16 8 c162_5 rfl rfl (yz_eq (by omega)) (fun hb14518 => ?_) (fun hb14518 => ?_)
                · exfalso; omega
                · refine y_iload 9 c162_8 rfl rfl ?_
                  refine y_if 16 12 c162_9 rfl rfl (yz_eq (by omega)) (fun hb14519 => ?_) (fun hb14519 => ?_)
                  · exfalso; omega
                  · refine y_iconst 13 c162_12 rfl ?_
                    refine y_goto 17 c162_13 rfl ?_
                    refine y_iconst 18 c162_17 rfl ?_
                    refine y_inlB 21 [.ref 376, yI 1, yI 1] [] [some (.ref 376), some (yI 1), some (yI 1)] c162_18 rfl rfl rfl rfl rfl (ycanO km23 ko376) kn23 rfl rfl ?_
                    refine y_aload 1 c23_0 rfl rfl rfl ?_
                    refine y_iload 2 c23_1 rfl rfl ?_
                    refine y_if 9 5 c23_2 rfl rfl (yz_eq (by omega)) (fun hb14520 => ?_) (fun hb14520 => ?_)
                    · exfalso; omega
                    · refine y_iconst 6 c23_5 rfl ?_
                      refine y_goto 10 c23_6 rfl ?_
                      refine y_putI 13 c23_10 rfl kf376_57 (y_fit0 _) ?_
                      have hT14521 := hT.up 376 57 0 0 4 rfl (by omega)
                      have hF14522 := hF.up 376 57 0 rfl
                      refine y_iload 14 c23_13 rfl rfl ?_
                      refine y_ireturnK c23_14 (y_fit1 (by omega)) ?_
                      refine y_ireturnK c162_21 (y_fit1 (by omega)) ?_
                      refine y_if 66 47 c166_44 rfl rfl (yz_eq (by omega)) (fun hb14523 => ?_) (fun hb14523 => ?_)
                      · exfalso; omega
                      · refine y_aload 48 c166_47 rfl rfl rfl ?_
                        refine y_getR 51 c166_48 rfl kf376_42 ?_
                        refine y_iconst 53 c166_51 rfl ?_
                        refine y_iload 54 c166_53 rfl rfl ?_
                        refine y_imul 55 c166_54 rfl ?_
                        refine y_iconst 57 c166_55 rfl ?_
                        refine y_iload 58 c166_57 rfl rfl ?_
                        refine y_imul 59 c166_58 rfl ?_
                        refine y_iadd 60 c166_59 rfl ?_
                        refine y_iload 61 c166_60 rfl rfl ?_
                        refine y_iadd 62 c166_61 rfl ?_
                        refine y_iaT 63 ((-2147483648)) 2147483647 c166_62 rfl ka405 (by omega) hT14521 rfl (fun v14524 hv14524 gv14524 => ?_)
                        refine y_goto 67 c166_63 rfl ?_
                        exact y_ireturn c166_67 (y_fit0 _) ⟨_, rfl, rfl, hF14522, (hMI.fr hT14521 (fun a q ha => (yup_ne (by rintro ⟨rfl, rfl⟩; simp [vGq] at ha))))⟩
set_option maxRecDepth 100000 in
theorem t171_0 {L : Nat} {xs : Nat → Int32} {d nn : Nat} {m : yM} (hT : Ty gT m) (hn : m 376 18 = 0) (hMI : MI m) {a : Int} (ra : -2147483648 ≤ a ∧ a < 2147483648) {b : Int} (rb : -2147483648 ≤ b ∧ b < 2147483648) : YC (gZ L xs) (d + 6) 171 [.ref 376, yI a, yI b] m nn (qMd nn m) := by
  have tb383 := hT.atp 383 0 0 6 rfl
  have tb384 := hT.atp 384 0 0 10 rfl
  have tb385 := hT.atp 385 0 0 8 rfl
  have tb386 := hT.atp 386 0 0 12 rfl
  have tb387 := hT.atp 387 0 0 8 rfl
  have tb388 := hT.atp 388 0 0 12 rfl
  have tb389 := hT.atp 389 0 0 48 rfl
  have tb390 := hT.atp 390 0 0 125 rfl
  have t19 := hT.atp 376 19 0 1 rfl
  refine YC.mkB [some (.ref 376), some (yI a), some (yI b)] kn171 rfl rfl ?_
  have hF : Fr wML m m := Fr.rf
  refine y_aload 1 c171_0 rfl rfl rfl ?_
  refine y_aload 2 c171_1 rfl rfl rfl ?_
  refine y_iload 3 c171_2 rfl rfl ?_
  refine y_inlB 6 [.ref 376, yI b] [.ref 376] [some (.ref 376), some (yI b)] c171_3 rfl rfl rfl rfl rfl (ycanO km170 ko376) kn170 rfl rfl ?_
  refine y_aload 1 c170_0 rfl rfl rfl ?_
  refine y_getX 4 (m 376 19) c170_1 rfl kf376_19 rfl ?_
  refine y_if 30 7 c170_4 rfl rfl (yz_eq (by omega)) (fun hb14525 => ?_) (fun hb14525 => ?_)
  · refine y_iconst 31 c170_30 rfl ?_
    refine y_ireturnK c170_31 (y_fit1 (by omega)) ?_
    refine y_if 32 9 c171_6 rfl rfl (yz_eq (by omega)) (fun hb14526 => ?_) (fun hb14526 => ?_)
    · refine y_iconst 33 c171_32 rfl ?_
      refine y_inlB 36 [.ref 376, yI 0] [] [some (.ref 376), some (yI 0)] c171_33 rfl rfl rfl rfl rfl (ycanO km162 ko376) kn162 rfl rfl ?_
      refine y_aload 1 c162_0 rfl rfl rfl ?_
      refine y_aload 2 c162_1 rfl rfl rfl ?_
      refine y_getX 5 (m 376 19) c162_2 rfl kf376_19 rfl ?_
      refine y_top 0 (by omega) ?_
      refine y_if 16 8 c162_5 rfl rfl (yz_eq (by omega)) (fun hb14527 => ?_) (fun hb14527 => ?_)
      · refine y_iconst 17 c162_16 rfl ?_
        refine y_iconst 18 c162_17 rfl ?_
        refine y_inlB 21 [.ref 376, yI 0, yI 1] [] [some (.ref 376), some (yI 0), some (yI 1)] c162_18 rfl rfl rfl rfl rfl (ycanO km23 ko376) kn23 rfl rfl ?_
        refine y_aload 1 c23_0 rfl rfl rfl ?_
        refine y_iload 2 c23_1 rfl rfl ?_
        refine y_if 9 5 c23_2 rfl rfl (yz_eq (by omega)) (fun hb14528 => ?_) (fun hb14528 => ?_)
        · refine y_iload 10 c23_9 rfl rfl ?_
          refine y_putI 13 c23_10 rfl kf376_57 (y_fit0 _) ?_
          have hT14529 := hT.up 376 57 1 0 4 rfl (by omega)
          have hF14530 := hF.up 376 57 1 rfl
          refine y_iload 14 c23_13 rfl rfl ?_
          refine y_ireturnK c23_14 (y_fit1 (by omega)) ?_
          refine y_ireturnK c162_21 (y_fit1 (by omega)) ?_
          refine y_if 53 39 c171_36 rfl rfl (yz_eq (by omega)) (fun hb14531 => ?_) (fun hb14531 => ?_)
          · refine y_iconst 54 c171_53 rfl ?_
            exact y_ireturn c171_54 (y_fit0 _) ⟨_, rfl, rfl, hF14530, (hMI.fr hT14529 (fun a q ha => (yup_ne (by rintro ⟨rfl, rfl⟩; simp [vGq] at ha))))⟩
          · exfalso; omega
        · exfalso; omega
      · exfalso; omega
    · exfalso; omega
  · refine y_iload 8 c170_7 rfl rfl ?_
    refine y_iconst 9 c170_8 rfl ?_
    refine y_aload 10 c170_9 rfl rfl rfl ?_
    refine y_getR 13 c170_10 rfl kf376_21 ?_
    refine y_aload 14 c170_13 rfl rfl rfl ?_
    refine y_getX 17 (m 376 18) c170_14 rfl kf376_18 rfl ?_
    have tb14532 := hT.atp 376 18 0 1 rfl
    refine y_top 0 (by omega) ?_
    refine y_iaX 18 (m 384 0) c170_17 rfl ka384 (by decide) rfl ?_
    refine y_iconst 19 c170_18 rfl ?_
    refine y_isub 20 c170_19 rfl ?_
    refine y_callP 23 [yI b, yI 0, yI ((m 384 0) - 1)] [] c170_20 rfl rfl rfl rfl rfl (ycanS km22) (t22m (by omega) (by omega) (by omega)) (fun r14533 hr14533 => ?_)
    refine y_if 30 26 c170_23 rfl rfl (yz_eq (by omega)) (fun hb14534 => ?_) (fun hb14534 => ?_)
    · refine y_iconst 31 c170_30 rfl ?_
      refine y_ireturnK c170_31 (y_fit1 (by omega)) ?_
      refine y_if 32 9 c171_6 rfl rfl (yz_eq (by omega)) (fun hb14535 => ?_) (fun hb14535 => ?_)
      · refine y_iconst 33 c171_32 rfl ?_
        refine y_inlB 36 [.ref 376, yI 0] [] [some (.ref 376), some (yI 0)] c171_33 rfl rfl rfl rfl rfl (ycanO km162 ko376) kn162 rfl rfl ?_
        refine y_aload 1 c162_0 rfl rfl rfl ?_
        refine y_aload 2 c162_1 rfl rfl rfl ?_
        refine y_getX 5 (m 376 19) c162_2 rfl kf376_19 rfl ?_
        refine y_top 1 (by omega) ?_
        refine y_if 16 8 c162_5 rfl rfl (yz_eq (by omega)) (fun hb14536 => ?_) (fun hb14536 => ?_)
        · exfalso; omega
        · refine y_iload 9 c162_8 rfl rfl ?_
          refine y_if 16 12 c162_9 rfl rfl (yz_eq (by omega)) (fun hb14537 => ?_) (fun hb14537 => ?_)
          · refine y_iconst 17 c162_16 rfl ?_
            refine y_iconst 18 c162_17 rfl ?_
            refine y_inlB 21 [.ref 376, yI 0, yI 1] [] [some (.ref 376), some (yI 0), some (yI 1)] c162_18 rfl rfl rfl rfl rfl (ycanO km23 ko376) kn23 rfl rfl ?_
            refine y_aload 1 c23_0 rfl rfl rfl ?_
            refine y_iload 2 c23_1 rfl rfl ?_
            refine y_if 9 5 c23_2 rfl rfl (yz_eq (by omega)) (fun hb14538 => ?_) (fun hb14538 => ?_)
            · refine y_iload 10 c23_9 rfl rfl ?_
              refine y_putI 13 c23_10 rfl kf376_57 (y_fit0 _) ?_
              have hT14539 := hT.up 376 57 1 0 4 rfl (by omega)
              have hF14540 := hF.up 376 57 1 rfl
              refine y_iload 14 c23_13 rfl rfl ?_
              refine y_ireturnK c23_14 (y_fit1 (by omega)) ?_
              refine y_ireturnK c162_21 (y_fit1 (by omega)) ?_
              refine y_if 53 39 c171_36 rfl rfl (yz_eq (by omega)) (fun hb14541 => ?_) (fun hb14541 => ?_)
              · refine y_iconst 54 c171_53 rfl ?_
                exact y_ireturn c171_54 (y_fit0 _) ⟨_, rfl, rfl, hF14540, (hMI.fr hT14539 (fun a q ha => (yup_ne (by rintro ⟨rfl, rfl⟩; simp [vGq] at ha))))⟩
              · exfalso; omega
            · exfalso; omega
          · exfalso; omega
      · exfalso; omega
    · refine y_iconst 27 c170_26 rfl ?_
      refine y_goto 31 c170_27 rfl ?_
      refine y_ireturnK c170_31 (y_fit1 (by omega)) ?_
      refine y_if 32 9 c171_6 rfl rfl (yz_eq (by omega)) (fun hb14542 => ?_) (fun hb14542 => ?_)
      · exfalso; omega
      · refine y_iload 10 c171_9 rfl rfl ?_
        refine y_iconst 11 c171_10 rfl ?_
        refine y_aload 12 c171_11 rfl rfl rfl ?_
        refine y_getR 15 c171_12 rfl kf376_23 ?_
        refine y_aload 16 c171_15 rfl rfl rfl ?_
        refine y_getX 19 (m 376 18) c171_16 rfl kf376_18 rfl ?_
        refine y_top 0 (by omega) ?_
        refine y_iaX 20 (m 386 0) c171_19 rfl ka386 (by decide) rfl ?_
        refine y_iconst 21 c171_20 rfl ?_
        refine y_isub 22 c171_21 rfl ?_
        refine y_callP 25 [yI a, yI 0, yI ((m 386 0) - 1)] [.ref 376] c171_22 rfl rfl rfl rfl rfl (ycanS km22) (t22m (by omega) (by omega) (by omega)) (fun r14543 hr14543 => ?_)
        refine y_if 32 28 c171_25 rfl rfl (yz_eq (by omega)) (fun hb14544 => ?_) (fun hb14544 => ?_)
        · refine y_iconst 33 c171_32 rfl ?_
          refine y_inlB 36 [.ref 376, yI 0] [] [some (.ref 376), some (yI 0)] c171_33 rfl rfl rfl rfl rfl (ycanO km162 ko376) kn162 rfl rfl ?_
          refine y_aload 1 c162_0 rfl rfl rfl ?_
          refine y_aload 2 c162_1 rfl rfl rfl ?_
          refine y_getX 5 (m 376 19) c162_2 rfl kf376_19 rfl ?_
          refine y_top 1 (by omega) ?_
          refine y_if 16 8 c162_5 rfl rfl (yz_eq (by omega)) (fun hb14545 => ?_) (fun hb14545 => ?_)
          · exfalso; omega
          · refine y_iload 9 c162_8 rfl rfl ?_
            refine y_if 16 12 c162_9 rfl rfl (yz_eq (by omega)) (fun hb14546 => ?_) (fun hb14546 => ?_)
            · refine y_iconst 17 c162_16 rfl ?_
              refine y_iconst 18 c162_17 rfl ?_
              refine y_inlB 21 [.ref 376, yI 0, yI 1] [] [some (.ref 376), some (yI 0), some (yI 1)] c162_18 rfl rfl rfl rfl rfl (ycanO km23 ko376) kn23 rfl rfl ?_
              refine y_aload 1 c23_0 rfl rfl rfl ?_
              refine y_iload 2 c23_1 rfl rfl ?_
              refine y_if 9 5 c23_2 rfl rfl (yz_eq (by omega)) (fun hb14547 => ?_) (fun hb14547 => ?_)
              · refine y_iload 10 c23_9 rfl rfl ?_
                refine y_putI 13 c23_10 rfl kf376_57 (y_fit0 _) ?_
                have hT14548 := hT.up 376 57 1 0 4 rfl (by omega)
                have hF14549 := hF.up 376 57 1 rfl
                refine y_iload 14 c23_13 rfl rfl ?_
                refine y_ireturnK c23_14 (y_fit1 (by omega)) ?_
                refine y_ireturnK c162_21 (y_fit1 (by omega)) ?_
                refine y_if 53 39 c171_36 rfl rfl (yz_eq (by omega)) (fun hb14550 => ?_) (fun hb14550 => ?_)
                · refine y_iconst 54 c171_53 rfl ?_
                  exact y_ireturn c171_54 (y_fit0 _) ⟨_, rfl, rfl, hF14549, (hMI.fr hT14548 (fun a q ha => (yup_ne (by rintro ⟨rfl, rfl⟩; simp [vGq] at ha))))⟩
                · exfalso; omega
              · exfalso; omega
            · exfalso; omega
        · refine y_iconst 29 c171_28 rfl ?_
          refine y_goto 33 c171_29 rfl ?_
          refine y_inlB 36 [.ref 376, yI 1] [] [some (.ref 376), some (yI 1)] c171_33 rfl rfl rfl rfl rfl (ycanO km162 ko376) kn162 rfl rfl ?_
          refine y_aload 1 c162_0 rfl rfl rfl ?_
          refine y_aload 2 c162_1 rfl rfl rfl ?_
          refine y_getX 5 (m 376 19) c162_2 rfl kf376_19 rfl ?_
          refine y_top 1 (by omega) ?_
          refine y_if 16 8 c162_5 rfl rfl (yz_eq (by omega)) (fun hb14551 => ?_) (fun hb14551 => ?_)
          · exfalso; omega
          · refine y_iload 9 c162_8 rfl rfl ?_
            refine y_if 16 12 c162_9 rfl rfl (yz_eq (by omega)) (fun hb14552 => ?_) (fun hb14552 => ?_)
            · exfalso; omega
            · refine y_iconst 13 c162_12 rfl ?_
              refine y_goto 17 c162_13 rfl ?_
              refine y_iconst 18 c162_17 rfl ?_
              refine y_inlB 21 [.ref 376, yI 1, yI 1] [] [some (.ref 376), some (yI 1), some (yI 1)] c162_18 rfl rfl rfl rfl rfl (ycanO km23 ko376) kn23 rfl rfl ?_
              refine y_aload 1 c23_0 rfl rfl rfl ?_
              refine y_iload 2 c23_1 rfl rfl ?_
              refine y_if 9 5 c23_2 rfl rfl (yz_eq (by omega)) (fun hb14553 => ?_) (fun hb14553 => ?_)
              · exfalso; omega
              · refine y_iconst 6 c23_5 rfl ?_
                refine y_goto 10 c23_6 rfl ?_
                refine y_putI 13 c23_10 rfl kf376_57 (y_fit0 _) ?_
                have hT14554 := hT.up 376 57 0 0 4 rfl (by omega)
                have hF14555 := hF.up 376 57 0 rfl
                refine y_iload 14 c23_13 rfl rfl ?_
                refine y_ireturnK c23_14 (y_fit1 (by omega)) ?_
                refine y_ireturnK c162_21 (y_fit1 (by omega)) ?_
                refine y_if 53 39 c171_36 rfl rfl (yz_eq (by omega)) (fun hb14556 => ?_) (fun hb14556 => ?_)
                · exfalso; omega
                · refine y_aload 40 c171_39 rfl rfl rfl ?_
                  refine y_getR 43 c171_40 rfl kf376_43 ?_
                  refine y_iconst 45 c171_43 rfl ?_
                  refine y_iload 46 c171_45 rfl rfl ?_
                  refine y_imul 47 c171_46 rfl ?_
                  refine y_iload 48 c171_47 rfl rfl ?_
                  refine y_iadd 49 c171_48 rfl ?_
                  refine y_iaT 50 ((-2147483648)) 2147483647 c171_49 rfl ka406 (by omega) hT14554 rfl (fun v14557 hv14557 gv14557 => ?_)
                  refine y_goto 54 c171_50 rfl ?_
                  exact y_ireturn c171_54 (y_fit0 _) ⟨_, rfl, rfl, hF14555, (hMI.fr hT14554 (fun a q ha => (yup_ne (by rintro ⟨rfl, rfl⟩; simp [vGq] at ha))))⟩
set_option maxRecDepth 100000 in
theorem t174_0 {L : Nat} {xs : Nat → Int32} {d nn : Nat} {m : yM} (hT : Ty gT m) (hn : m 376 18 = 0) (hMI : MI m) {a : Int} (ra : -2147483648 ≤ a ∧ a < 2147483648) : YC (gZ L xs) (d + 6) 174 [.ref 376, yI a] m nn (qMd nn m) := by
  have tb383 := hT.atp 383 0 0 6 rfl
  have tb384 := hT.atp 384 0 0 10 rfl
  have tb385 := hT.atp 385 0 0 8 rfl
  have tb386 := hT.atp 386 0 0 12 rfl
  have tb387 := hT.atp 387 0 0 8 rfl
  have tb388 := hT.atp 388 0 0 12 rfl
  have tb389 := hT.atp 389 0 0 48 rfl
  have tb390 := hT.atp 390 0 0 125 rfl
  have t19 := hT.atp 376 19 0 1 rfl
  refine YC.mkB [some (.ref 376), some (yI a)] kn174 rfl rfl ?_
  have hF : Fr wML m m := Fr.rf
  refine y_aload 1 c174_0 rfl rfl rfl ?_
  refine y_aload 2 c174_1 rfl rfl rfl ?_
  refine y_iload 3 c174_2 rfl rfl ?_
  refine y_inlB 6 [.ref 376, yI a] [.ref 376] [some (.ref 376), some (yI a)] c174_3 rfl rfl rfl rfl rfl (ycanO km170 ko376) kn170 rfl rfl ?_
  refine y_aload 1 c170_0 rfl rfl rfl ?_
  refine y_getX 4 (m 376 19) c170_1 rfl kf376_19 rfl ?_
  refine y_if 30 7 c170_4 rfl rfl (yz_eq (by omega)) (fun hb14558 => ?_) (fun hb14558 => ?_)
  · refine y_iconst 31 c170_30 rfl ?_
    refine y_ireturnK c170_31 (y_fit1 (by omega)) ?_
    refine y_inlB 9 [.ref 376, yI 0] [] [some (.ref 376), some (yI 0)] c174_6 rfl rfl rfl rfl rfl (ycanO km162 ko376) kn162 rfl rfl ?_
    refine y_aload 1 c162_0 rfl rfl rfl ?_
    refine y_aload 2 c162_1 rfl rfl rfl ?_
    refine y_getX 5 (m 376 19) c162_2 rfl kf376_19 rfl ?_
    refine y_top 0 (by omega) ?_
    refine y_if 16 8 c162_5 rfl rfl (yz_eq (by omega)) (fun hb14559 => ?_) (fun hb14559 => ?_)
    · refine y_iconst 17 c162_16 rfl ?_
      refine y_iconst 18 c162_17 rfl ?_
      refine y_inlB 21 [.ref 376, yI 0, yI 1] [] [some (.ref 376), some (yI 0), some (yI 1)] c162_18 rfl rfl rfl rfl rfl (ycanO km23 ko376) kn23 rfl rfl ?_
      refine y_aload 1 c23_0 rfl rfl rfl ?_
      refine y_iload 2 c23_1 rfl rfl ?_
      refine y_if 9 5 c23_2 rfl rfl (yz_eq (by omega)) (fun hb14560 => ?_) (fun hb14560 => ?_)
      · refine y_iload 10 c23_9 rfl rfl ?_
        refine y_putI 13 c23_10 rfl kf376_57 (y_fit0 _) ?_
        have hT14561 := hT.up 376 57 1 0 4 rfl (by omega)
        have hF14562 := hF.up 376 57 1 rfl
        refine y_iload 14 c23_13 rfl rfl ?_
        refine y_ireturnK c23_14 (y_fit1 (by omega)) ?_
        refine y_ireturnK c162_21 (y_fit1 (by omega)) ?_
        refine y_if 21 12 c174_9 rfl rfl (yz_eq (by omega)) (fun hb14563 => ?_) (fun hb14563 => ?_)
        · refine y_iconst 22 c174_21 rfl ?_
          exact y_ireturn c174_22 (y_fit0 _) ⟨_, rfl, rfl, hF14562, (hMI.fr hT14561 (fun a q ha => (yup_ne (by rintro ⟨rfl, rfl⟩; simp [vGq] at ha))))⟩
        · exfalso; omega
      · exfalso; omega
    · exfalso; omega
  · refine y_iload 8 c170_7 rfl rfl ?_
    refine y_iconst 9 c170_8 rfl ?_
    refine y_aload 10 c170_9 rfl rfl rfl ?_
    refine y_getR 13 c170_10 rfl kf376_21 ?_
    refine y_aload 14 c170_13 rfl rfl rfl ?_
    refine y_getX 17 (m 376 18) c170_14 rfl kf376_18 rfl ?_
    have tb14564 := hT.atp 376 18 0 1 rfl
    refine y_top 0 (by omega) ?_
    refine y_iaX 18 (m 384 0) c170_17 rfl ka384 (by decide) rfl ?_
    refine y_iconst 19 c170_18 rfl ?_
    refine y_isub 20 c170_19 rfl ?_
    refine y_callP 23 [yI a, yI 0, yI ((m 384 0) - 1)] [] c170_20 rfl rfl rfl rfl rfl (ycanS km22) (t22m (by omega) (by omega) (by omega)) (fun r14565 hr14565 => ?_)
    refine y_if 30 26 c170_23 rfl rfl (yz_eq (by omega)) (fun hb14566 => ?_) (fun hb14566 => ?_)
    · refine y_iconst 31 c170_30 rfl ?_
      refine y_ireturnK c170_31 (y_fit1 (by omega)) ?_
      refine y_inlB 9 [.ref 376, yI 0] [] [some (.ref 376), some (yI 0)] c174_6 rfl rfl rfl rfl rfl (ycanO km162 ko376) kn162 rfl rfl ?_
      refine y_aload 1 c162_0 rfl rfl rfl ?_
      refine y_aload 2 c162_1 rfl rfl rfl ?_
      refine y_getX 5 (m 376 19) c162_2 rfl kf376_19 rfl ?_
      refine y_top 1 (by omega) ?_
      refine y_if 16 8 c162_5 rfl rfl (yz_eq (by omega)) (fun hb14567 => ?_) (fun hb14567 => ?_)
      · exfalso; omega
      · refine y_iload 9 c162_8 rfl rfl ?_
        refine y_if 16 12 c162_9 rfl rfl (yz_eq (by omega)) (fun hb14568 => ?_) (fun hb14568 => ?_)
        · refine y_iconst 17 c162_16 rfl ?_
          refine y_iconst 18 c162_17 rfl ?_
          refine y_inlB 21 [.ref 376, yI 0, yI 1] [] [some (.ref 376), some (yI 0), some (yI 1)] c162_18 rfl rfl rfl rfl rfl (ycanO km23 ko376) kn23 rfl rfl ?_
          refine y_aload 1 c23_0 rfl rfl rfl ?_
          refine y_iload 2 c23_1 rfl rfl ?_
          refine y_if 9 5 c23_2 rfl rfl (yz_eq (by omega)) (fun hb14569 => ?_) (fun hb14569 => ?_)
          · refine y_iload 10 c23_9 rfl rfl ?_
            refine y_putI 13 c23_10 rfl kf376_57 (y_fit0 _) ?_
            have hT14570 := hT.up 376 57 1 0 4 rfl (by omega)
            have hF14571 := hF.up 376 57 1 rfl
            refine y_iload 14 c23_13 rfl rfl ?_
            refine y_ireturnK c23_14 (y_fit1 (by omega)) ?_
            refine y_ireturnK c162_21 (y_fit1 (by omega)) ?_
            refine y_if 21 12 c174_9 rfl rfl (yz_eq (by omega)) (fun hb14572 => ?_) (fun hb14572 => ?_)
            · refine y_iconst 22 c174_21 rfl ?_
              exact y_ireturn c174_22 (y_fit0 _) ⟨_, rfl, rfl, hF14571, (hMI.fr hT14570 (fun a q ha => (yup_ne (by rintro ⟨rfl, rfl⟩; simp [vGq] at ha))))⟩
            · exfalso; omega
          · exfalso; omega
        · exfalso; omega
    · refine y_iconst 27 c170_26 rfl ?_
      refine y_goto 31 c170_27 rfl ?_
      refine y_ireturnK c170_31 (y_fit1 (by omega)) ?_
      refine y_inlB 9 [.ref 376, yI 1] [] [some (.ref 376), some (yI 1)] c174_6 rfl rfl rfl rfl rfl (ycanO km162 ko376) kn162 rfl rfl ?_
      refine y_aload 1 c162_0 rfl rfl rfl ?_
      refine y_aload 2 c162_1 rfl rfl rfl ?_
      refine y_getX 5 (m 376 19) c162_2 rfl kf376_19 rfl ?_
      refine y_top 1 (by omega) ?_
      refine y_if 16 8 c162_5 rfl rfl (yz_eq (by omega)) (fun hb14573 => ?_) (fun hb14573 => ?_)
      · exfalso; omega
      · refine y_iload 9 c162_8 rfl rfl ?_
        refine y_if 16 12 c162_9 rfl rfl (yz_eq (by omega)) (fun hb14574 => ?_) (fun hb14574 => ?_)
        · exfalso; omega
        · refine y_iconst 13 c162_12 rfl ?_
          refine y_goto 17 c162_13 rfl ?_
          refine y_iconst 18 c162_17 rfl ?_
          refine y_inlB 21 [.ref 376, yI 1, yI 1] [] [some (.ref 376), some (yI 1), some (yI 1)] c162_18 rfl rfl rfl rfl rfl (ycanO km23 ko376) kn23 rfl rfl ?_
          refine y_aload 1 c23_0 rfl rfl rfl ?_
          refine y_iload 2 c23_1 rfl rfl ?_
          refine y_if 9 5 c23_2 rfl rfl (yz_eq (by omega)) (fun hb14575 => ?_) (fun hb14575 => ?_)
          · exfalso; omega
          · refine y_iconst 6 c23_5 rfl ?_
            refine y_goto 10 c23_6 rfl ?_
            refine y_putI 13 c23_10 rfl kf376_57 (y_fit0 _) ?_
            have hT14576 := hT.up 376 57 0 0 4 rfl (by omega)
            have hF14577 := hF.up 376 57 0 rfl
            refine y_iload 14 c23_13 rfl rfl ?_
            refine y_ireturnK c23_14 (y_fit1 (by omega)) ?_
            refine y_ireturnK c162_21 (y_fit1 (by omega)) ?_
            refine y_if 21 12 c174_9 rfl rfl (yz_eq (by omega)) (fun hb14578 => ?_) (fun hb14578 => ?_)
            · exfalso; omega
            · refine y_aload 13 c174_12 rfl rfl rfl ?_
              refine y_getR 16 c174_13 rfl kf376_44 ?_
              refine y_iload 17 c174_16 rfl rfl ?_
              refine y_iaT 18 ((-2147483648)) 2147483647 c174_17 rfl ka407 (by omega) hT14576 rfl (fun v14579 hv14579 gv14579 => ?_)
              refine y_goto 22 c174_18 rfl ?_
              exact y_ireturn c174_22 (y_fit0 _) ⟨_, rfl, rfl, hF14577, (hMI.fr hT14576 (fun a q ha => (yup_ne (by rintro ⟨rfl, rfl⟩; simp [vGq] at ha))))⟩
set_option maxRecDepth 100000 in
theorem t185_0 {L : Nat} {xs : Nat → Int32} {d nn : Nat} {m : yM} (hT : Ty gT m) (hn : m 376 18 = 0) (hMI : MI m) {a : Int} (ra : -2147483648 ≤ a ∧ a < 2147483648) {b : Int} (rb : -2147483648 ≤ b ∧ b < 2147483648) : YC (gZ L xs) (d + 6) 185 [.ref 376, yI a, yI b] m nn (qMd nn m) := by
  have tb383 := hT.atp 383 0 0 6 rfl
  have tb384 := hT.atp 384 0 0 10 rfl
  have tb385 := hT.atp 385 0 0 8 rfl
  have tb386 := hT.atp 386 0 0 12 rfl
  have tb387 := hT.atp 387 0 0 8 rfl
  have tb388 := hT.atp 388 0 0 12 rfl
  have tb389 := hT.atp 389 0 0 48 rfl
  have tb390 := hT.atp 390 0 0 125 rfl
  have t19 := hT.atp 376 19 0 1 rfl
  refine YC.mkB [some (.ref 376), some (yI a), some (yI b), none] kn185 rfl rfl ?_
  have hF : Fr wML m m := Fr.rf
  refine y_aload 1 c185_0 rfl rfl rfl ?_
  refine y_aload 2 c185_1 rfl rfl rfl ?_
  refine y_iload 3 c185_2 rfl rfl ?_
  refine y_inlB 6 [.ref 376, yI a] [.ref 376] [some (.ref 376), some (yI a)] c185_3 rfl rfl rfl rfl rfl (ycanO km170 ko376) kn170 rfl rfl ?_
  refine y_aload 1 c170_0 rfl rfl rfl ?_
  refine y_getX 4 (m 376 19) c170_1 rfl kf376_19 rfl ?_
  refine y_if 30 7 c170_4 rfl rfl (yz_eq (by omega)) (fun hb14580 => ?_) (fun hb14580 => ?_)
  · refine y_iconst 31 c170_30 rfl ?_
    refine y_ireturnK c170_31 (y_fit1 (by omega)) ?_
    refine y_inlB 9 [.ref 376, yI 0] [] [some (.ref 376), some (yI 0)] c185_6 rfl rfl rfl rfl rfl (ycanO km162 ko376) kn162 rfl rfl ?_
    refine y_aload 1 c162_0 rfl rfl rfl ?_
    refine y_aload 2 c162_1 rfl rfl rfl ?_
    refine y_getX 5 (m 376 19) c162_2 rfl kf376_19 rfl ?_
    refine y_top 0 (by omega) ?_
    refine y_if 16 8 c162_5 rfl rfl (yz_eq (by omega)) (fun hb14581 => ?_) (fun hb14581 => ?_)
    · refine y_iconst 17 c162_16 rfl ?_
      refine y_iconst 18 c162_17 rfl ?_
      refine y_inlB 21 [.ref 376, yI 0, yI 1] [] [some (.ref 376), some (yI 0), some (yI 1)] c162_18 rfl rfl rfl rfl rfl (ycanO km23 ko376) kn23 rfl rfl ?_
      refine y_aload 1 c23_0 rfl rfl rfl ?_
      refine y_iload 2 c23_1 rfl rfl ?_
      refine y_if 9 5 c23_2 rfl rfl (yz_eq (by omega)) (fun hb14582 => ?_) (fun hb14582 => ?_)
      · refine y_iload 10 c23_9 rfl rfl ?_
        refine y_putI 13 c23_10 rfl kf376_57 (y_fit0 _) ?_
        have hT14583 := hT.up 376 57 1 0 4 rfl (by omega)
        have hF14584 := hF.up 376 57 1 rfl
        refine y_iload 14 c23_13 rfl rfl ?_
        refine y_ireturnK c23_14 (y_fit1 (by omega)) ?_
        refine y_ireturnK c162_21 (y_fit1 (by omega)) ?_
        refine y_if 14 12 c185_9 rfl rfl (yz_ne (by omega)) (fun hb14585 => ?_) (fun hb14585 => ?_)
        · exfalso; omega
        · refine y_iconst 13 c185_12 rfl ?_
          exact y_ireturn c185_13 (y_fit0 _) ⟨_, rfl, rfl, hF14584, (hMI.fr hT14583 (fun a q ha => (yup_ne (by rintro ⟨rfl, rfl⟩; simp [vGq] at ha))))⟩
      · exfalso; omega
    · exfalso; omega
  · refine y_iload 8 c170_7 rfl rfl ?_
    refine y_iconst 9 c170_8 rfl ?_
    refine y_aload 10 c170_9 rfl rfl rfl ?_
    refine y_getR 13 c170_10 rfl kf376_21 ?_
    refine y_aload 14 c170_13 rfl rfl rfl ?_
    refine y_getX 17 (m 376 18) c170_14 rfl kf376_18 rfl ?_
    have tb14586 := hT.atp 376 18 0 1 rfl
    refine y_top 0 (by omega) ?_
    refine y_iaX 18 (m 384 0) c170_17 rfl ka384 (by decide) rfl ?_
    refine y_iconst 19 c170_18 rfl ?_
    refine y_isub 20 c170_19 rfl ?_
    refine y_callP 23 [yI a, yI 0, yI ((m 384 0) - 1)] [] c170_20 rfl rfl rfl rfl rfl (ycanS km22) (t22m (by omega) (by omega) (by omega)) (fun r14587 hr14587 => ?_)
    refine y_if 30 26 c170_23 rfl rfl (yz_eq (by omega)) (fun hb14588 => ?_) (fun hb14588 => ?_)
    · refine y_iconst 31 c170_30 rfl ?_
      refine y_ireturnK c170_31 (y_fit1 (by omega)) ?_
      refine y_inlB 9 [.ref 376, yI 0] [] [some (.ref 376), some (yI 0)] c185_6 rfl rfl rfl rfl rfl (ycanO km162 ko376) kn162 rfl rfl ?_
      refine y_aload 1 c162_0 rfl rfl rfl ?_
      refine y_aload 2 c162_1 rfl rfl rfl ?_
      refine y_getX 5 (m 376 19) c162_2 rfl kf376_19 rfl ?_
      refine y_top 1 (by omega) ?_
      refine y_if 16 8 c162_5 rfl rfl (yz_eq (by omega)) (fun hb14589 => ?_) (fun hb14589 => ?_)
      · exfalso; omega
      · refine y_iload 9 c162_8 rfl rfl ?_
        refine y_if 16 12 c162_9 rfl rfl (yz_eq (by omega)) (fun hb14590 => ?_) (fun hb14590 => ?_)
        · refine y_iconst 17 c162_16 rfl ?_
          refine y_iconst 18 c162_17 rfl ?_
          refine y_inlB 21 [.ref 376, yI 0, yI 1] [] [some (.ref 376), some (yI 0), some (yI 1)] c162_18 rfl rfl rfl rfl rfl (ycanO km23 ko376) kn23 rfl rfl ?_
          refine y_aload 1 c23_0 rfl rfl rfl ?_
          refine y_iload 2 c23_1 rfl rfl ?_
          refine y_if 9 5 c23_2 rfl rfl (yz_eq (by omega)) (fun hb14591 => ?_) (fun hb14591 => ?_)
          · refine y_iload 10 c23_9 rfl rfl ?_
            refine y_putI 13 c23_10 rfl kf376_57 (y_fit0 _) ?_
            have hT14592 := hT.up 376 57 1 0 4 rfl (by omega)
            have hF14593 := hF.up 376 57 1 rfl
            refine y_iload 14 c23_13 rfl rfl ?_
            refine y_ireturnK c23_14 (y_fit1 (by omega)) ?_
            refine y_ireturnK c162_21 (y_fit1 (by omega)) ?_
            refine y_if 14 12 c185_9 rfl rfl (yz_ne (by omega)) (fun hb14594 => ?_) (fun hb14594 => ?_)
            · exfalso; omega
            · refine y_iconst 13 c185_12 rfl ?_
              exact y_ireturn c185_13 (y_fit0 _) ⟨_, rfl, rfl, hF14593, (hMI.fr hT14592 (fun a q ha => (yup_ne (by rintro ⟨rfl, rfl⟩; simp [vGq] at ha))))⟩
          · exfalso; omega
        · exfalso; omega
    · refine y_iconst 27 c170_26 rfl ?_
      refine y_goto 31 c170_27 rfl ?_
      refine y_ireturnK c170_31 (y_fit1 (by omega)) ?_
      refine y_inlB 9 [.ref 376, yI 1] [] [some (.ref 376), some (yI 1)] c185_6 rfl rfl rfl rfl rfl (ycanO km162 ko376) kn162 rfl rfl ?_
      refine y_aload 1 c162_0 rfl rfl rfl ?_
      refine y_aload 2 c162_1 rfl rfl rfl ?_
      refine y_getX 5 (m 376 19) c162_2 rfl kf376_19 rfl ?_
      refine y_top 1 (by omega) ?_
      refine y_if 16 8 c162_5 rfl rfl (yz_eq (by omega)) (fun hb14595 => ?_) (fun hb14595 => ?_)
      · exfalso; omega
      · refine y_iload 9 c162_8 rfl rfl ?_
        refine y_if 16 12 c162_9 rfl rfl (yz_eq (by omega)) (fun hb14596 => ?_) (fun hb14596 => ?_)
        · exfalso; omega
        · refine y_iconst 13 c162_12 rfl ?_
          refine y_goto 17 c162_13 rfl ?_
          refine y_iconst 18 c162_17 rfl ?_
          refine y_inlB 21 [.ref 376, yI 1, yI 1] [] [some (.ref 376), some (yI 1), some (yI 1)] c162_18 rfl rfl rfl rfl rfl (ycanO km23 ko376) kn23 rfl rfl ?_
          refine y_aload 1 c23_0 rfl rfl rfl ?_
          refine y_iload 2 c23_1 rfl rfl ?_
          refine y_if 9 5 c23_2 rfl rfl (yz_eq (by omega)) (fun hb14597 => ?_) (fun hb14597 => ?_)
          · exfalso; omega
          · refine y_iconst 6 c23_5 rfl ?_
            refine y_goto 10 c23_6 rfl ?_
            refine y_putI 13 c23_10 rfl kf376_57 (y_fit0 _) ?_
            have hT14598 := hT.up 376 57 0 0 4 rfl (by omega)
            have hF14599 := hF.up 376 57 0 rfl
            refine y_iload 14 c23_13 rfl rfl ?_
            refine y_ireturnK c23_14 (y_fit1 (by omega)) ?_
            refine y_ireturnK c162_21 (y_fit1 (by omega)) ?_
            refine y_if 14 12 c185_9 rfl rfl (yz_ne (by omega)) (fun hb14600 => ?_) (fun hb14600 => ?_)
            · refine y_aload 15 c185_14 rfl rfl rfl ?_
              refine y_iload 16 c185_15 rfl rfl ?_
              refine y_iconst 17 c185_16 rfl ?_
              refine y_iconst 18 c185_17 rfl ?_
              refine y_callP 21 [yI b, yI 0, yI 4] [.ref 376] c185_18 rfl rfl rfl rfl rfl (ycanS km22) (t22m (by omega) (by omega) (by omega)) (fun r14601 hr14601 => ?_)
              refine y_iconst 22 c185_21 rfl ?_
              refine y_inlB 25 [.ref 376, yI r14601, yI 2] [] [some (.ref 376), some (yI r14601), some (yI 2)] c185_22 rfl rfl rfl rfl rfl (ycanO km23 ko376) kn23 rfl rfl ?_
              refine y_aload 1 c23_0 rfl rfl rfl ?_
              refine y_iload 2 c23_1 rfl rfl ?_
              refine y_if 9 5 c23_2 rfl rfl (yz_eq (by omega)) (fun hb14602 => ?_) (fun hb14602 => ?_)
              · refine y_iload 10 c23_9 rfl rfl ?_
                refine y_putI 13 c23_10 rfl kf376_57 (y_fit0 _) ?_
                have hT14603 := hT14598.up 376 57 2 0 4 rfl (by omega)
                have hF14604 := hF14599.up 376 57 2 rfl
                refine y_iload 14 c23_13 rfl rfl ?_
                refine y_ireturnK c23_14 (y_fit1 (by omega)) ?_
                refine y_if 30 28 c185_25 rfl rfl (yz_ne (by omega)) (fun hb14605 => ?_) (fun hb14605 => ?_)
                · exfalso; omega
                · refine y_iconst 29 c185_28 rfl ?_
                  exact y_ireturn c185_29 (y_fit0 _) ⟨_, rfl, rfl, hF14604, (hMI.fr hT14603 (fun a q ha => ((yup_ne (by rintro ⟨rfl, rfl⟩; simp [vGq] at ha)).trans (yup_ne (by rintro ⟨rfl, rfl⟩; simp [vGq] at ha)))))⟩
              · refine y_iconst 6 c23_5 rfl ?_
                refine y_goto 10 c23_6 rfl ?_
                refine y_putI 13 c23_10 rfl kf376_57 (y_fit0 _) ?_
                have hT14606 := hT14598.up 376 57 0 0 4 rfl (by omega)
                have hF14607 := hF14599.up 376 57 0 rfl
                refine y_iload 14 c23_13 rfl rfl ?_
                refine y_ireturnK c23_14 (y_fit1 (by omega)) ?_
                refine y_if 30 28 c185_25 rfl rfl (yz_ne (by omega)) (fun hb14608 => ?_) (fun hb14608 => ?_)
                · refine y_iconst 32 c185_30 rfl ?_
                  refine y_aload 33 c185_32 rfl rfl rfl ?_
                  refine y_getX 36 (m 376 18) c185_33 rfl kf376_18 rfl ?_
                  refine y_top 0 (by omega) ?_
                  refine y_imul 37 c185_36 rfl ?_
                  refine y_top 0 (by decide) ?_
                  refine y_iload 38 c185_37 rfl rfl ?_
                  refine y_iadd 39 c185_38 rfl ?_
                  refine y_istore 40 c185_39 rfl rfl ?_
                  refine y_iload 41 c185_40 rfl rfl ?_
                  refine y_iconst 42 c185_41 rfl ?_
                  refine y_icmp 52 45 c185_42 rfl rfl (yc_ne (by omega) (by omega)) (fun hb14609 => ?_) (fun hb14609 => ?_)
                  · refine y_iload 53 c185_52 rfl rfl ?_
                    refine y_iconst 54 c185_53 rfl ?_
                    refine y_isub 55 c185_54 rfl ?_
                    refine y_aload 56 c185_55 rfl rfl rfl ?_
                    refine y_getR 59 c185_56 rfl kf376_34 ?_
                    refine y_iload 60 c185_59 rfl rfl ?_
                    refine y_iaT 61 0 2 c185_60 rfl ka397 (by omega) hT14606 rfl (fun v14610 hv14610 gv14610 => ?_)
                    refine y_icmp 75 64 c185_61 rfl rfl (yc_ge (by omega) (by omega)) (fun hb14611 => ?_) (fun hb14611 => ?_)
                    · refine y_iconst 76 c185_75 rfl ?_
                      exact y_ireturn c185_76 (y_fit0 _) ⟨_, rfl, rfl, hF14607, (hMI.fr hT14606 (fun a q ha => ((yup_ne (by rintro ⟨rfl, rfl⟩; simp [vGq] at ha)).trans (yup_ne (by rintro ⟨rfl, rfl⟩; simp [vGq] at ha)))))⟩
                    · refine y_aload 65 c185_64 rfl rfl rfl ?_
                      refine y_getR 68 c185_65 rfl kf376_35 ?_
                      refine y_iload 69 c185_68 rfl rfl ?_
                      refine y_iaT 70 0 46 c185_69 rfl ka398 (by omega) hT14606 rfl (fun v14612 hv14612 gv14612 => ?_)
                      refine y_iload 71 c185_70 rfl rfl ?_
                      refine y_iadd 72 c185_71 rfl ?_
                      refine y_goto 76 c185_72 rfl ?_
                      exact y_ireturn c185_76 (y_fit0 _) ⟨_, rfl, rfl, hF14607, (hMI.fr hT14606 (fun a q ha => ((yup_ne (by rintro ⟨rfl, rfl⟩; simp [vGq] at ha)).trans (yup_ne (by rintro ⟨rfl, rfl⟩; simp [vGq] at ha)))))⟩
                  · refine y_aload 46 c185_45 rfl rfl rfl ?_
                    refine y_getR 49 c185_46 rfl kf376_33 ?_
                    refine y_iload 50 c185_49 rfl rfl ?_
                    refine y_iaT 51 0 5 c185_50 rfl ka396 (by omega) hT14606 rfl (fun v14613 hv14613 gv14613 => ?_)
                    exact y_ireturn c185_51 (y_fit0 _) ⟨_, rfl, rfl, hF14607, (hMI.fr hT14606 (fun a q ha => ((yup_ne (by rintro ⟨rfl, rfl⟩; simp [vGq] at ha)).trans (yup_ne (by rintro ⟨rfl, rfl⟩; simp [vGq] at ha)))))⟩
                · exfalso; omega
            · exfalso; omega
set_option maxRecDepth 100000 in
theorem t214_0 {L : Nat} {xs : Nat → Int32} {d nn : Nat} {m : yM} (hT : Ty gT m) (hn : m 376 18 = 0) (hMI : MI m) {a : Int} (ra : -2147483648 ≤ a ∧ a < 2147483648) {b : Int} (rb : -2147483648 ≤ b ∧ b < 2147483648) : YC (gZ L xs) (d + 6) 214 [.ref 376, yI a, yI b] m nn (qMd nn m) := by
  have tb383 := hT.atp 383 0 0 6 rfl
  have tb384 := hT.atp 384 0 0 10 rfl
  have tb385 := hT.atp 385 0 0 8 rfl
  have tb386 := hT.atp 386 0 0 12 rfl
  have tb387 := hT.atp 387 0 0 8 rfl
  have tb388 := hT.atp 388 0 0 12 rfl
  have tb389 := hT.atp 389 0 0 48 rfl
  have tb390 := hT.atp 390 0 0 125 rfl
  have t19 := hT.atp 376 19 0 1 rfl
  refine YC.mkB [some (.ref 376), some (yI a), some (yI b)] kn214 rfl rfl ?_
  have hF : Fr wML m m := Fr.rf
  refine y_aload 1 c214_0 rfl rfl rfl ?_
  refine y_aload 2 c214_1 rfl rfl rfl ?_
  refine y_iload 3 c214_2 rfl rfl ?_
  refine y_inlB 6 [.ref 376, yI a] [.ref 376] [some (.ref 376), some (yI a)] c214_3 rfl rfl rfl rfl rfl (ycanO km160 ko376) kn160 rfl rfl ?_
  refine y_aload 1 c160_0 rfl rfl rfl ?_
  refine y_getX 4 (m 376 19) c160_1 rfl kf376_19 rfl ?_
  refine y_if 30 7 c160_4 rfl rfl (yz_eq (by omega)) (fun hb14614 => ?_) (fun hb14614 => ?_)
  · refine y_iconst 31 c160_30 rfl ?_
    refine y_ireturnK c160_31 (y_fit1 (by omega)) ?_
    refine y_if 21 9 c214_6 rfl rfl (yz_eq (by omega)) (fun hb14615 => ?_) (fun hb14615 => ?_)
    · refine y_iconst 22 c214_21 rfl ?_
      refine y_inlB 25 [.ref 376, yI 0] [] [some (.ref 376), some (yI 0)] c214_22 rfl rfl rfl rfl rfl (ycanO km162 ko376) kn162 rfl rfl ?_
      refine y_aload 1 c162_0 rfl rfl rfl ?_
      refine y_aload 2 c162_1 rfl rfl rfl ?_
      refine y_getX 5 (m 376 19) c162_2 rfl kf376_19 rfl ?_
      refine y_top 0 (by omega) ?_
      refine y_if 16 8 c162_5 rfl rfl (yz_eq (by omega)) (fun hb14616 => ?_) (fun hb14616 => ?_)
      · refine y_iconst 17 c162_16 rfl ?_
        refine y_iconst 18 c162_17 rfl ?_
        refine y_inlB 21 [.ref 376, yI 0, yI 1] [] [some (.ref 376), some (yI 0), some (yI 1)] c162_18 rfl rfl rfl rfl rfl (ycanO km23 ko376) kn23 rfl rfl ?_
        refine y_aload 1 c23_0 rfl rfl rfl ?_
        refine y_iload 2 c23_1 rfl rfl ?_
        refine y_if 9 5 c23_2 rfl rfl (yz_eq (by omega)) (fun hb14617 => ?_) (fun hb14617 => ?_)
        · refine y_iload 10 c23_9 rfl rfl ?_
          refine y_putI 13 c23_10 rfl kf376_57 (y_fit0 _) ?_
          have hT14618 := hT.up 376 57 1 0 4 rfl (by omega)
          have hF14619 := hF.up 376 57 1 rfl
          refine y_iload 14 c23_13 rfl rfl ?_
          refine y_ireturnK c23_14 (y_fit1 (by omega)) ?_
          refine y_ireturnK c162_21 (y_fit1 (by omega)) ?_
          refine y_if 46 28 c214_25 rfl rfl (yz_eq (by omega)) (fun hb14620 => ?_) (fun hb14620 => ?_)
          · refine y_iconst 47 c214_46 rfl ?_
            exact y_ireturn c214_47 (y_fit0 _) ⟨_, rfl, rfl, hF14619, (hMI.fr hT14618 (fun a q ha => (yup_ne (by rintro ⟨rfl, rfl⟩; simp [vGq] at ha))))⟩
          · exfalso; omega
        · exfalso; omega
      · exfalso; omega
    · exfalso; omega
  · refine y_iload 8 c160_7 rfl rfl ?_
    refine y_iconst 9 c160_8 rfl ?_
    refine y_aload 10 c160_9 rfl rfl rfl ?_
    refine y_getR 13 c160_10 rfl kf376_26 ?_
    refine y_aload 14 c160_13 rfl rfl rfl ?_
    refine y_getX 17 (m 376 18) c160_14 rfl kf376_18 rfl ?_
    have tb14621 := hT.atp 376 18 0 1 rfl
    refine y_top 0 (by omega) ?_
    refine y_iaX 18 (m 389 0) c160_17 rfl ka389 (by decide) rfl ?_
    refine y_iconst 19 c160_18 rfl ?_
    refine y_isub 20 c160_19 rfl ?_
    refine y_callP 23 [yI a, yI 0, yI ((m 389 0) - 1)] [] c160_20 rfl rfl rfl rfl rfl (ycanS km22) (t22m (by omega) (by omega) (by omega)) (fun r14622 hr14622 => ?_)
    refine y_if 30 26 c160_23 rfl rfl (yz_eq (by omega)) (fun hb14623 => ?_) (fun hb14623 => ?_)
    · refine y_iconst 31 c160_30 rfl ?_
      refine y_ireturnK c160_31 (y_fit1 (by omega)) ?_
      refine y_if 21 9 c214_6 rfl rfl (yz_eq (by omega)) (fun hb14624 => ?_) (fun hb14624 => ?_)
      · refine y_iconst 22 c214_21 rfl ?_
        refine y_inlB 25 [.ref 376, yI 0] [] [some (.ref 376), some (yI 0)] c214_22 rfl rfl rfl rfl rfl (ycanO km162 ko376) kn162 rfl rfl ?_
        refine y_aload 1 c162_0 rfl rfl rfl ?_
        refine y_aload 2 c162_1 rfl rfl rfl ?_
        refine y_getX 5 (m 376 19) c162_2 rfl kf376_19 rfl ?_
        refine y_top 1 (by omega) ?_
        refine y_if 16 8 c162_5 rfl rfl (yz_eq (by omega)) (fun hb14625 => ?_) (fun hb14625 => ?_)
        · exfalso; omega
        · refine y_iload 9 c162_8 rfl rfl ?_
          refine y_if 16 12 c162_9 rfl rfl (yz_eq (by omega)) (fun hb14626 => ?_) (fun hb14626 => ?_)
          · refine y_iconst 17 c162_16 rfl ?_
            refine y_iconst 18 c162_17 rfl ?_
            refine y_inlB 21 [.ref 376, yI 0, yI 1] [] [some (.ref 376), some (yI 0), some (yI 1)] c162_18 rfl rfl rfl rfl rfl (ycanO km23 ko376) kn23 rfl rfl ?_
            refine y_aload 1 c23_0 rfl rfl rfl ?_
            refine y_iload 2 c23_1 rfl rfl ?_
            refine y_if 9 5 c23_2 rfl rfl (yz_eq (by omega)) (fun hb14627 => ?_) (fun hb14627 => ?_)
            · refine y_iload 10 c23_9 rfl rfl ?_
              refine y_putI 13 c23_10 rfl kf376_57 (y_fit0 _) ?_
              have hT14628 := hT.up 376 57 1 0 4 rfl (by omega)
              have hF14629 := hF.up 376 57 1 rfl
              refine y_iload 14 c23_13 rfl rfl ?_
              refine y_ireturnK c23_14 (y_fit1 (by omega)) ?_
              refine y_ireturnK c162_21 (y_fit1 (by omega)) ?_
              refine y_if 46 28 c214_25 rfl rfl (yz_eq (by omega)) (fun hb14630 => ?_) (fun hb14630 => ?_)
              · refine y_iconst 47 c214_46 rfl ?_
                exact y_ireturn c214_47 (y_fit0 _) ⟨_, rfl, rfl, hF14629, (hMI.fr hT14628 (fun a q ha => (yup_ne (by rintro ⟨rfl, rfl⟩; simp [vGq] at ha))))⟩
              · exfalso; omega
            · exfalso; omega
          · exfalso; omega
      · exfalso; omega
    · refine y_iconst 27 c160_26 rfl ?_
      refine y_goto 31 c160_27 rfl ?_
      refine y_ireturnK c160_31 (y_fit1 (by omega)) ?_
      refine y_if 21 9 c214_6 rfl rfl (yz_eq (by omega)) (fun hb14631 => ?_) (fun hb14631 => ?_)
      · exfalso; omega
      · refine y_aload 10 c214_9 rfl rfl rfl ?_
        refine y_iload 11 c214_10 rfl rfl ?_
        refine y_inlB 14 [.ref 376, yI b] [.ref 376] [some (.ref 376), some (yI b)] c214_11 rfl rfl rfl rfl rfl (ycanO km161 ko376) kn161 rfl rfl ?_
        refine y_aload 1 c161_0 rfl rfl rfl ?_
        refine y_getX 4 (m 376 19) c161_1 rfl kf376_19 rfl ?_
        refine y_top 1 (by omega) ?_
        refine y_if 30 7 c161_4 rfl rfl (yz_eq (by omega)) (fun hb14632 => ?_) (fun hb14632 => ?_)
        · exfalso; omega
        · refine y_iload 8 c161_7 rfl rfl ?_
          refine y_iconst 9 c161_8 rfl ?_
          refine y_aload 10 c161_9 rfl rfl rfl ?_
          refine y_getR 13 c161_10 rfl kf376_25 ?_
          refine y_aload 14 c161_13 rfl rfl rfl ?_
          refine y_getX 17 (m 376 18) c161_14 rfl kf376_18 rfl ?_
          refine y_top 0 (by omega) ?_
          refine y_iaX 18 (m 388 0) c161_17 rfl ka388 (by decide) rfl ?_
          refine y_iconst 19 c161_18 rfl ?_
          refine y_isub 20 c161_19 rfl ?_
          refine y_callP 23 [yI b, yI 0, yI ((m 388 0) - 1)] [] c161_20 rfl rfl rfl rfl rfl (ycanS km22) (t22m (by omega) (by omega) (by omega)) (fun r14633 hr14633 => ?_)
          refine y_if 30 26 c161_23 rfl rfl (yz_eq (by omega)) (fun hb14634 => ?_) (fun hb14634 => ?_)
          · refine y_iconst 31 c161_30 rfl ?_
            refine y_ireturnK c161_31 (y_fit1 (by omega)) ?_
            refine y_if 21 17 c214_14 rfl rfl (yz_eq (by omega)) (fun hb14635 => ?_) (fun hb14635 => ?_)
            · refine y_iconst 22 c214_21 rfl ?_
              refine y_inlB 25 [.ref 376, yI 0] [] [some (.ref 376), some (yI 0)] c214_22 rfl rfl rfl rfl rfl (ycanO km162 ko376) kn162 rfl rfl ?_
              refine y_aload 1 c162_0 rfl rfl rfl ?_
              refine y_aload 2 c162_1 rfl rfl rfl ?_
              refine y_getX 5 (m 376 19) c162_2 rfl kf376_19 rfl ?_
              refine y_top 1 (by omega) ?_
              refine y_if 16 8 c162_5 rfl rfl (yz_eq (by omega)) (fun hb14636 => ?_) (fun hb14636 => ?_)
              · exfalso; omega
              · refine y_iload 9 c162_8 rfl rfl ?_
                refine y_if 16 12 c162_9 rfl rfl (yz_eq (by omega)) (fun hb14637 => ?_) (fun hb14637 => ?_)
                · refine y_iconst 17 c162_16 rfl ?_
                  refine y_iconst 18 c162_17 rfl ?_
                  refine y_inlB 21 [.ref 376, yI 0, yI 1] [] [some (.ref 376), some (yI 0), some (yI 1)] c162_18 rfl rfl rfl rfl rfl (ycanO km23 ko376) kn23 rfl rfl ?_
                  refine y_aload 1 c23_0 rfl rfl rfl ?_
                  refine y_iload 2 c23_1 rfl rfl ?_
                  refine y_if 9 5 c23_2 rfl rfl (yz_eq (by omega)) (fun hb14638 => ?_) (fun hb14638 => ?_)
                  · refine y_iload 10 c23_9 rfl rfl ?_
                    refine y_putI 13 c23_10 rfl kf376_57 (y_fit0 _) ?_
                    have hT14639 := hT.up 376 57 1 0 4 rfl (by omega)
                    have hF14640 := hF.up 376 57 1 rfl
                    refine y_iload 14 c23_13 rfl rfl ?_
                    refine y_ireturnK c23_14 (y_fit1 (by omega)) ?_
                    refine y_ireturnK c162_21 (y_fit1 (by omega)) ?_
                    refine y_if 46 28 c214_25 rfl rfl (yz_eq (by omega)) (fun hb14641 => ?_) (fun hb14641 => ?_)
                    · refine y_iconst 47 c214_46 rfl ?_
                      exact y_ireturn c214_47 (y_fit0 _) ⟨_, rfl, rfl, hF14640, (hMI.fr hT14639 (fun a q ha => (yup_ne (by rintro ⟨rfl, rfl⟩; simp [vGq] at ha))))⟩
                    · exfalso; omega
                  · exfalso; omega
                · exfalso; omega
            · exfalso; omega
          · refine y_iconst 27 c161_26 rfl ?_
            refine y_goto 31 c161_27 rfl ?_
            refine y_ireturnK c161_31 (y_fit1 (by omega)) ?_
            refine y_if 21 17 c214_14 rfl rfl (yz_eq (by omega)) (fun hb14642 => ?_) (fun hb14642 => ?_)
            · exfalso; omega
            · refine y_iconst 18 c214_17 rfl ?_
              refine y_goto 22 c214_18 rfl ?_
              refine y_inlB 25 [.ref 376, yI 1] [] [some (.ref 376), some (yI 1)] c214_22 rfl rfl rfl rfl rfl (ycanO km162 ko376) kn162 rfl rfl ?_
              refine y_aload 1 c162_0 rfl rfl rfl ?_
              refine y_aload 2 c162_1 rfl rfl rfl ?_
              refine y_getX 5 (m 376 19) c162_2 rfl kf376_19 rfl ?_
              refine y_top 1 (by omega) ?_
              refine y_if 16 8 c162_5 rfl rfl (yz_eq (by omega)) (fun hb14643 => ?_) (fun hb14643 => ?_)
              · exfalso; omega
              · refine y_iload 9 c162_8 rfl rfl ?_
                refine y_if 16 12 c162_9 rfl rfl (yz_eq (by omega)) (fun hb14644 => ?_) (fun hb14644 => ?_)
                · exfalso; omega
                · refine y_iconst 13 c162_12 rfl ?_
                  refine y_goto 17 c162_13 rfl ?_
                  refine y_iconst 18 c162_17 rfl ?_
                  refine y_inlB 21 [.ref 376, yI 1, yI 1] [] [some (.ref 376), some (yI 1), some (yI 1)] c162_18 rfl rfl rfl rfl rfl (ycanO km23 ko376) kn23 rfl rfl ?_
                  refine y_aload 1 c23_0 rfl rfl rfl ?_
                  refine y_iload 2 c23_1 rfl rfl ?_
                  refine y_if 9 5 c23_2 rfl rfl (yz_eq (by omega)) (fun hb14645 => ?_) (fun hb14645 => ?_)
                  · exfalso; omega
                  · refine y_iconst 6 c23_5 rfl ?_
                    refine y_goto 10 c23_6 rfl ?_
                    refine y_putI 13 c23_10 rfl kf376_57 (y_fit0 _) ?_
                    have hT14646 := hT.up 376 57 0 0 4 rfl (by omega)
                    have hF14647 := hF.up 376 57 0 rfl
                    refine y_iload 14 c23_13 rfl rfl ?_
                    refine y_ireturnK c23_14 (y_fit1 (by omega)) ?_
                    refine y_ireturnK c162_21 (y_fit1 (by omega)) ?_
                    refine y_if 46 28 c214_25 rfl rfl (yz_eq (by omega)) (fun hb14648 => ?_) (fun hb14648 => ?_)
                    · exfalso; omega
                    · refine y_aload 29 c214_28 rfl rfl rfl ?_
                      refine y_getR 32 c214_29 rfl kf376_48 ?_
                      refine y_iconst 34 c214_32 rfl ?_
                      refine y_iload 35 c214_34 rfl rfl ?_
                      refine y_imul 36 c214_35 rfl ?_
                      refine y_iload 37 c214_36 rfl rfl ?_
                      refine y_iadd 38 c214_37 rfl ?_
                      refine y_iaT 39 0 1 c214_38 rfl ka408 (by omega) hT14646 rfl (fun v14649 hv14649 gv14649 => ?_)
                      refine y_if 46 42 c214_39 rfl rfl (yz_eq (by omega)) (fun hb14650 => ?_) (fun hb14650 => ?_)
                      · refine y_iconst 47 c214_46 rfl ?_
                        exact y_ireturn c214_47 (y_fit0 _) ⟨_, rfl, rfl, hF14647, (hMI.fr hT14646 (fun a q ha => (yup_ne (by rintro ⟨rfl, rfl⟩; simp [vGq] at ha))))⟩
                      · refine y_iconst 43 c214_42 rfl ?_
                        refine y_goto 47 c214_43 rfl ?_
                        exact y_ireturn c214_47 (y_fit0 _) ⟨_, rfl, rfl, hF14647, (hMI.fr hT14646 (fun a q ha => (yup_ne (by rintro ⟨rfl, rfl⟩; simp [vGq] at ha))))⟩
set_option maxRecDepth 100000 in
theorem t217_0 {L : Nat} {xs : Nat → Int32} {d nn : Nat} {m : yM} (hT : Ty gT m) (hn : m 376 18 = 0) (hMI : MI m) {a : Int} (ra : -2147483648 ≤ a ∧ a < 2147483648) : YC (gZ L xs) (d + 6) 217 [.ref 376, yI a] m nn (qMd nn m) := by
  have tb383 := hT.atp 383 0 0 6 rfl
  have tb384 := hT.atp 384 0 0 10 rfl
  have tb385 := hT.atp 385 0 0 8 rfl
  have tb386 := hT.atp 386 0 0 12 rfl
  have tb387 := hT.atp 387 0 0 8 rfl
  have tb388 := hT.atp 388 0 0 12 rfl
  have tb389 := hT.atp 389 0 0 48 rfl
  have tb390 := hT.atp 390 0 0 125 rfl
  have t19 := hT.atp 376 19 0 1 rfl
  refine YC.mkB [some (.ref 376), some (yI a)] kn217 rfl rfl ?_
  have hF : Fr wML m m := Fr.rf
  refine y_aload 1 c217_0 rfl rfl rfl ?_
  refine y_iload 2 c217_1 rfl rfl ?_
  refine y_iconst 3 c217_2 rfl ?_
  refine y_iconst 5 c217_3 rfl ?_
  refine y_callP 8 [yI a, yI 0, yI 9] [.ref 376] c217_5 rfl rfl rfl rfl rfl (ycanS km22) (t22m (by omega) (by omega) (by omega)) (fun r14651 hr14651 => ?_)
  refine y_iconst 9 c217_8 rfl ?_
  refine y_inlB 12 [.ref 376, yI r14651, yI 1] [] [some (.ref 376), some (yI r14651), some (yI 1)] c217_9 rfl rfl rfl rfl rfl (ycanO km23 ko376) kn23 rfl rfl ?_
  refine y_aload 1 c23_0 rfl rfl rfl ?_
  refine y_iload 2 c23_1 rfl rfl ?_
  refine y_if 9 5 c23_2 rfl rfl (yz_eq (by omega)) (fun hb14652 => ?_) (fun hb14652 => ?_)
  · refine y_iload 10 c23_9 rfl rfl ?_
    refine y_putI 13 c23_10 rfl kf376_57 (y_fit0 _) ?_
    have hT14653 := hT.up 376 57 1 0 4 rfl (by omega)
    have hF14654 := hF.up 376 57 1 rfl
    refine y_iload 14 c23_13 rfl rfl ?_
    refine y_ireturnK c23_14 (y_fit1 (by omega)) ?_
    refine y_if 17 15 c217_12 rfl rfl (yz_ne (by omega)) (fun hb14655 => ?_) (fun hb14655 => ?_)
    · exfalso; omega
    · refine y_iconst 16 c217_15 rfl ?_
      exact y_ireturn c217_16 (y_fit0 _) ⟨_, rfl, rfl, hF14654, (hMI.fr hT14653 (fun a q ha => (yup_ne (by rintro ⟨rfl, rfl⟩; simp [vGq] at ha))))⟩
  · refine y_iconst 6 c23_5 rfl ?_
    refine y_goto 10 c23_6 rfl ?_
    refine y_putI 13 c23_10 rfl kf376_57 (y_fit0 _) ?_
    have hT14656 := hT.up 376 57 0 0 4 rfl (by omega)
    have hF14657 := hF.up 376 57 0 rfl
    refine y_iload 14 c23_13 rfl rfl ?_
    refine y_ireturnK c23_14 (y_fit1 (by omega)) ?_
    refine y_if 17 15 c217_12 rfl rfl (yz_ne (by omega)) (fun hb14658 => ?_) (fun hb14658 => ?_)
    · refine y_iload 18 c217_17 rfl rfl ?_
      refine y_iconst 20 c217_18 rfl ?_
      refine y_icmp 28 23 c217_20 rfl rfl (yc_ne (by omega) (by omega)) (fun hb14659 => ?_) (fun hb14659 => ?_)
      · refine y_aload 29 c217_28 rfl rfl rfl ?_
        refine y_getX 32 (m 376 19) c217_29 rfl kf376_19 rfl ?_
        refine y_if 37 35 c217_32 rfl rfl (yz_ne (by omega)) (fun hb14660 => ?_) (fun hb14660 => ?_)
        · refine y_iload 38 c217_37 rfl rfl ?_
          refine y_iconst 39 c217_38 rfl ?_
          refine y_icmp 102 42 c217_39 rfl rfl (yc_ge (by omega) (by omega)) (fun hb14661 => ?_) (fun hb14661 => ?_)
          · refine y_iload 103 c217_102 rfl rfl ?_
            refine y_iconst 104 c217_103 rfl ?_
            refine y_icmp 119 107 c217_104 rfl rfl (yc_ne (by omega) (by omega)) (fun hb14662 => ?_) (fun hb14662 => ?_)
            · refine y_iload 120 c217_119 rfl rfl ?_
              refine y_iconst 121 c217_120 rfl ?_
              refine y_icmp 136 124 c217_121 rfl rfl (yc_ne (by omega) (by omega)) (fun hb14663 => ?_) (fun hb14663 => ?_)
              · refine y_iload 137 c217_136 rfl rfl ?_
                refine y_iconst 139 c217_137 rfl ?_
                refine y_icmp 154 142 c217_139 rfl rfl (yc_ne (by omega) (by omega)) (fun hb14664 => ?_) (fun hb14664 => ?_)
                · refine y_iload 155 c217_154 rfl rfl ?_
                  refine y_iconst 157 c217_155 rfl ?_
                  refine y_icmp 167 160 c217_157 rfl rfl (yc_ne (by omega) (by omega)) (fun hb14665 => ?_) (fun hb14665 => ?_)
                  · refine y_aload 168 c217_167 rfl rfl rfl ?_
                    refine y_getX 171 (m 376 51) c217_168 rfl kf376_51 rfl ?_
                    have tb14666 := hT.atp 376 51 0 30 rfl
                    exact y_ireturn c217_171 (y_fit0 _) ⟨_, rfl, rfl, hF14657, (hMI.fr hT14656 (fun a q ha => (yup_ne (by rintro ⟨rfl, rfl⟩; simp [vGq] at ha))))⟩
                  · refine y_aload 161 c217_160 rfl rfl rfl ?_
                    refine y_getX 164 (m 376 47) c217_161 rfl kf376_47 rfl ?_
                    have tb14667 := hT.atp 376 47 ((-2147483648)) 2147483647 rfl
                    refine y_goto 171 c217_164 rfl ?_
                    exact y_ireturn c217_171 (y_fit0 _) ⟨_, rfl, rfl, hF14657, (hMI.fr hT14656 (fun a q ha => (yup_ne (by rintro ⟨rfl, rfl⟩; simp [vGq] at ha))))⟩
                · refine y_aload 143 c217_142 rfl rfl rfl ?_
                  refine y_getR 146 c217_143 rfl kf376_26 ?_
                  refine y_aload 147 c217_146 rfl rfl rfl ?_
                  refine y_getX 150 (m 376 18) c217_147 rfl kf376_18 rfl ?_
                  have tb14668 := hT.atp 376 18 0 1 rfl
                  refine y_top 0 (by omega) ?_
                  refine y_iaX 151 (m 389 0) c217_150 rfl ka389 (by decide) rfl ?_
                  refine y_goto 171 c217_151 rfl ?_
                  exact y_ireturn c217_171 (y_fit0 _) ⟨_, rfl, rfl, hF14657, (hMI.fr hT14656 (fun a q ha => (yup_ne (by rintro ⟨rfl, rfl⟩; simp [vGq] at ha))))⟩
              · refine y_aload 125 c217_124 rfl rfl rfl ?_
                refine y_getR 128 c217_125 rfl kf376_25 ?_
                refine y_aload 129 c217_128 rfl rfl rfl ?_
                refine y_getX 132 (m 376 18) c217_129 rfl kf376_18 rfl ?_
                have tb14669 := hT.atp 376 18 0 1 rfl
                refine y_top 0 (by omega) ?_
                refine y_iaX 133 (m 388 0) c217_132 rfl ka388 (by decide) rfl ?_
                refine y_goto 171 c217_133 rfl ?_
                exact y_ireturn c217_171 (y_fit0 _) ⟨_, rfl, rfl, hF14657, (hMI.fr hT14656 (fun a q ha => (yup_ne (by rintro ⟨rfl, rfl⟩; simp [vGq] at ha))))⟩
            · refine y_aload 108 c217_107 rfl rfl rfl ?_
              refine y_getR 111 c217_108 rfl kf376_24 ?_
              refine y_aload 112 c217_111 rfl rfl rfl ?_
              refine y_getX 115 (m 376 18) c217_112 rfl kf376_18 rfl ?_
              have tb14670 := hT.atp 376 18 0 1 rfl
              refine y_top 0 (by omega) ?_
              refine y_iaX 116 (m 387 0) c217_115 rfl ka387 (by decide) rfl ?_
              refine y_goto 171 c217_116 rfl ?_
              exact y_ireturn c217_171 (y_fit0 _) ⟨_, rfl, rfl, hF14657, (hMI.fr hT14656 (fun a q ha => (yup_ne (by rintro ⟨rfl, rfl⟩; simp [vGq] at ha))))⟩
          · refine y_iload 43 c217_42 rfl rfl ?_
            refine y_if 58 46 c217_43 rfl rfl (yz_ne (by omega)) (fun hb14671 => ?_) (fun hb14671 => ?_)
            · refine y_iload 59 c217_58 rfl rfl ?_
              refine y_iconst 60 c217_59 rfl ?_
              refine y_icmp 75 63 c217_60 rfl rfl (yc_ne (by omega) (by omega)) (fun hb14672 => ?_) (fun hb14672 => ?_)
              · refine y_iload 76 c217_75 rfl rfl ?_
                refine y_iconst 77 c217_76 rfl ?_
                refine y_icmp 92 80 c217_77 rfl rfl (yc_ne (by omega) (by omega)) (fun hb14673 => ?_) (fun hb14673 => ?_)
                · refine y_aload 93 c217_92 rfl rfl rfl ?_
                  refine y_getR 96 c217_93 rfl kf376_23 ?_
                  refine y_aload 97 c217_96 rfl rfl rfl ?_
                  refine y_getX 100 (m 376 18) c217_97 rfl kf376_18 rfl ?_
                  have tb14674 := hT.atp 376 18 0 1 rfl
                  refine y_top 0 (by omega) ?_
                  refine y_iaX 101 (m 386 0) c217_100 rfl ka386 (by decide) rfl ?_
                  exact y_ireturn c217_101 (y_fit0 _) ⟨_, rfl, rfl, hF14657, (hMI.fr hT14656 (fun a q ha => (yup_ne (by rintro ⟨rfl, rfl⟩; simp [vGq] at ha))))⟩
                · refine y_aload 81 c217_80 rfl rfl rfl ?_
                  refine y_getR 84 c217_81 rfl kf376_22 ?_
                  refine y_aload 85 c217_84 rfl rfl rfl ?_
                  refine y_getX 88 (m 376 18) c217_85 rfl kf376_18 rfl ?_
                  have tb14675 := hT.atp 376 18 0 1 rfl
                  refine y_top 0 (by omega) ?_
                  refine y_iaX 89 (m 385 0) c217_88 rfl ka385 (by decide) rfl ?_
                  refine y_goto 101 c217_89 rfl ?_
                  exact y_ireturn c217_101 (y_fit0 _) ⟨_, rfl, rfl, hF14657, (hMI.fr hT14656 (fun a q ha => (yup_ne (by rintro ⟨rfl, rfl⟩; simp [vGq] at ha))))⟩
              · refine y_aload 64 c217_63 rfl rfl rfl ?_
                refine y_getR 67 c217_64 rfl kf376_21 ?_
                refine y_aload 68 c217_67 rfl rfl rfl ?_
                refine y_getX 71 (m 376 18) c217_68 rfl kf376_18 rfl ?_
                have tb14676 := hT.atp 376 18 0 1 rfl
                refine y_top 0 (by omega) ?_
                refine y_iaX 72 (m 384 0) c217_71 rfl ka384 (by decide) rfl ?_
                refine y_goto 101 c217_72 rfl ?_
                exact y_ireturn c217_101 (y_fit0 _) ⟨_, rfl, rfl, hF14657, (hMI.fr hT14656 (fun a q ha => (yup_ne (by rintro ⟨rfl, rfl⟩; simp [vGq] at ha))))⟩
            · refine y_aload 47 c217_46 rfl rfl rfl ?_
              refine y_getR 50 c217_47 rfl kf376_20 ?_
              refine y_aload 51 c217_50 rfl rfl rfl ?_
              refine y_getX 54 (m 376 18) c217_51 rfl kf376_18 rfl ?_
              have tb14677 := hT.atp 376 18 0 1 rfl
              refine y_top 0 (by omega) ?_
              refine y_iaX 55 (m 383 0) c217_54 rfl ka383 (by decide) rfl ?_
              refine y_goto 101 c217_55 rfl ?_
              exact y_ireturn c217_101 (y_fit0 _) ⟨_, rfl, rfl, hF14657, (hMI.fr hT14656 (fun a q ha => (yup_ne (by rintro ⟨rfl, rfl⟩; simp [vGq] at ha))))⟩
        · refine y_iconst 36 c217_35 rfl ?_
          exact y_ireturn c217_36 (y_fit0 _) ⟨_, rfl, rfl, hF14657, (hMI.fr hT14656 (fun a q ha => (yup_ne (by rintro ⟨rfl, rfl⟩; simp [vGq] at ha))))⟩
      · refine y_aload 24 c217_23 rfl rfl rfl ?_
        refine y_getX 27 (m 376 1) c217_24 rfl kf376_1 rfl ?_
        have tb14678 := hT.atp 376 1 0 320 rfl
        exact y_ireturn c217_27 (y_fit0 _) ⟨_, rfl, rfl, hF14657, (hMI.fr hT14656 (fun a q ha => (yup_ne (by rintro ⟨rfl, rfl⟩; simp [vGq] at ha))))⟩
    · exfalso; omega
set_option maxRecDepth 100000 in
theorem t154_0 {L : Nat} {xs : Nat → Int32} {d nn : Nat} {m : yM} (hT : Ty gT m) (hn : m 376 18 = 0) (hMI : MI m) : YC (gZ L xs) (d + 6) 154 [.ref 376] m nn (qMd nn m) := by
  have tb383 := hT.atp 383 0 0 6 rfl
  have tb384 := hT.atp 384 0 0 10 rfl
  have tb385 := hT.atp 385 0 0 8 rfl
  have tb386 := hT.atp 386 0 0 12 rfl
  have tb387 := hT.atp 387 0 0 8 rfl
  have tb388 := hT.atp 388 0 0 12 rfl
  have tb389 := hT.atp 389 0 0 48 rfl
  have tb390 := hT.atp 390 0 0 125 rfl
  have t19 := hT.atp 376 19 0 1 rfl
  refine YC.mkB [some (.ref 376)] kn154 rfl rfl ?_
  have hF : Fr wML m m := Fr.rf
  refine y_aload 1 c154_0 rfl rfl rfl ?_
  refine y_iconst 2 c154_1 rfl ?_
  refine y_putI 5 c154_2 rfl kf376_57 (y_fit0 _) ?_
  have hT14679 := hT.up 376 57 0 0 4 rfl (by omega)
  have hF14680 := hF.up 376 57 0 rfl
  refine y_aload 6 c154_5 rfl rfl rfl ?_
  refine y_getX 9 (m 376 2) c154_6 rfl kf376_2 rfl ?_
  have tb14681 := hT.atp 376 2 ((-2147483648)) 2147483647 rfl
  exact y_ireturn c154_9 (y_fit0 _) ⟨_, rfl, rfl, hF14680, (hMI.fr hT14679 (fun a q ha => (yup_ne (by rintro ⟨rfl, rfl⟩; simp [vGq] at ha))))⟩
set_option maxRecDepth 100000 in
theorem t182a_0 {L : Nat} {xs : Nat → Int32} {d nn : Nat} {m : yM} {Q : xO → yM → Nat → Prop} (hT : Ty gT m) (hn : m 376 18 = 0) {a b : Int} (ha : 0 ≤ a ∧ a ≤ 47) (hb : 0 ≤ b ∧ b ≤ 47) (hQ : ∀ r, (r = 0 ∨ r = 1) → Q (.inl (some (yI r))) m nn) : ∀ (km : Nat) (i : Int), m 388 0 - i = km → 0 ≤ i ∧ i ≤ m 388 0 → YW (gZ L xs) 182 (d + 6) 32 [some (.ref 376), some (yI a), some (yI b), some (yI i)] [] m nn (Q) := by
  intro km
  induction km using Nat.strongRecOn with
  | ind km ih =>
    intro i hk hi
    have tb383 := hT.atp 383 0 0 6 rfl
    have tb384 := hT.atp 384 0 0 10 rfl
    have tb385 := hT.atp 385 0 0 8 rfl
    have tb386 := hT.atp 386 0 0 12 rfl
    have tb387 := hT.atp 387 0 0 8 rfl
    have tb388 := hT.atp 388 0 0 12 rfl
    have tb389 := hT.atp 389 0 0 48 rfl
    have tb390 := hT.atp 390 0 0 125 rfl
    have t19 := hT.atp 376 19 0 1 rfl
    refine y_iload 33 c182_32 rfl rfl ?_
    refine y_aload 34 c182_33 rfl rfl rfl ?_
    refine y_getR 37 c182_34 rfl kf376_25 ?_
    refine y_aload 38 c182_37 rfl rfl rfl ?_
    refine y_getX 41 (m 376 18) c182_38 rfl kf376_18 rfl ?_
    have tb14682 := hT.atp 376 18 0 1 rfl
    refine y_top 0 (by omega) ?_
    refine y_iaX 42 (m 388 0) c182_41 rfl ka388 (by decide) rfl ?_
    refine y_icmp 81 45 c182_42 rfl rfl (yc_ge (by omega) (by omega)) (fun hb14683 => ?_) (fun hb14683 => ?_)
    · refine y_iconst 82 c182_81 rfl ?_
      exact y_ireturn c182_82 (y_fit0 _) (hQ _ (by omega))
    · refine y_aload 46 c182_45 rfl rfl rfl ?_
      refine y_getR 49 c182_46 rfl kf376_41 ?_
      refine y_iconst 51 c182_49 rfl ?_
      refine y_iload 52 c182_51 rfl rfl ?_
      refine y_imul 53 c182_52 rfl ?_
      refine y_iload 54 c182_53 rfl rfl ?_
      refine y_iadd 55 c182_54 rfl ?_
      refine y_iaT 56 ((-2147483648)) 2147483647 c182_55 rfl ka404 (by omega) hT rfl (fun v14684 hv14684 gv14684 => ?_)
      refine y_if 75 59 c182_56 rfl rfl (yz_lt (by omega)) (fun hb14685 => ?_) (fun hb14685 => ?_)
      · refine y_iinc 78 c182_75 rfl rfl rfl ?_
        refine y_goto 32 c182_78 rfl ?_
        exact ih (m 388 0 - (i + 1) : Int).toNat (by omega) (i + 1)   (by omega) (by omega)
      · refine y_aload 60 c182_59 rfl rfl rfl ?_
        refine y_getR 63 c182_60 rfl kf376_41 ?_
        refine y_iconst 65 c182_63 rfl ?_
        refine y_iload 66 c182_65 rfl rfl ?_
        refine y_imul 67 c182_66 rfl ?_
        refine y_iload 68 c182_67 rfl rfl ?_
        refine y_iadd 69 c182_68 rfl ?_
        refine y_iaT 70 ((-2147483648)) 2147483647 c182_69 rfl ka404 (by omega) hT rfl (fun v14686 hv14686 gv14686 => ?_)
        refine y_if 75 73 c182_70 rfl rfl (yz_lt (by omega)) (fun hb14687 => ?_) (fun hb14687 => ?_)
        · refine y_iinc 78 c182_75 rfl rfl rfl ?_
          refine y_goto 32 c182_78 rfl ?_
          exact ih (m 388 0 - (i + 1) : Int).toNat (by omega) (i + 1)   (by omega) (by omega)
        · refine y_iconst 74 c182_73 rfl ?_
          exact y_ireturn c182_74 (y_fit0 _) (hQ _ (by omega))
set_option maxRecDepth 100000 in
theorem t182_0 {L : Nat} {xs : Nat → Int32} {d nn : Nat} {m : yM} (hT : Ty gT m) (hn : m 376 18 = 0) (hMI : MI m) {a : Int} (ra : -2147483648 ≤ a ∧ a < 2147483648) {b : Int} (rb : -2147483648 ≤ b ∧ b < 2147483648) : YC (gZ L xs) (d + 6) 182 [.ref 376, yI a, yI b] m nn (qMd nn m) := by
  have tb383 := hT.atp 383 0 0 6 rfl
  have tb384 := hT.atp 384 0 0 10 rfl
  have tb385 := hT.atp 385 0 0 8 rfl
  have tb386 := hT.atp 386 0 0 12 rfl
  have tb387 := hT.atp 387 0 0 8 rfl
  have tb388 := hT.atp 388 0 0 12 rfl
  have tb389 := hT.atp 389 0 0 48 rfl
  have tb390 := hT.atp 390 0 0 125 rfl
  have t19 := hT.atp 376 19 0 1 rfl
  refine YC.mkB [some (.ref 376), some (yI a), some (yI b), none] kn182 rfl rfl ?_
  have hF : Fr wML m m := Fr.rf
  refine y_aload 1 c182_0 rfl rfl rfl ?_
  refine y_aload 2 c182_1 rfl rfl rfl ?_
  refine y_iload 3 c182_2 rfl rfl ?_
  refine y_inlB 6 [.ref 376, yI a] [.ref 376] [some (.ref 376), some (yI a)] c182_3 rfl rfl rfl rfl rfl (ycanO km160 ko376) kn160 rfl rfl ?_
  refine y_aload 1 c160_0 rfl rfl rfl ?_
  refine y_getX 4 (m 376 19) c160_1 rfl kf376_19 rfl ?_
  refine y_if 30 7 c160_4 rfl rfl (yz_eq (by omega)) (fun hb14688 => ?_) (fun hb14688 => ?_)
  · refine y_iconst 31 c160_30 rfl ?_
    refine y_ireturnK c160_31 (y_fit1 (by omega)) ?_
    refine y_if 21 9 c182_6 rfl rfl (yz_eq (by omega)) (fun hb14689 => ?_) (fun hb14689 => ?_)
    · refine y_iconst 22 c182_21 rfl ?_
      refine y_inlB 25 [.ref 376, yI 0] [] [some (.ref 376), some (yI 0)] c182_22 rfl rfl rfl rfl rfl (ycanO km162 ko376) kn162 rfl rfl ?_
      refine y_aload 1 c162_0 rfl rfl rfl ?_
      refine y_aload 2 c162_1 rfl rfl rfl ?_
      refine y_getX 5 (m 376 19) c162_2 rfl kf376_19 rfl ?_
      refine y_top 0 (by omega) ?_
      refine y_if 16 8 c162_5 rfl rfl (yz_eq (by omega)) (fun hb14690 => ?_) (fun hb14690 => ?_)
      · refine y_iconst 17 c162_16 rfl ?_
        refine y_iconst 18 c162_17 rfl ?_
        refine y_inlB 21 [.ref 376, yI 0, yI 1] [] [some (.ref 376), some (yI 0), some (yI 1)] c162_18 rfl rfl rfl rfl rfl (ycanO km23 ko376) kn23 rfl rfl ?_
        refine y_aload 1 c23_0 rfl rfl rfl ?_
        refine y_iload 2 c23_1 rfl rfl ?_
        refine y_if 9 5 c23_2 rfl rfl (yz_eq (by omega)) (fun hb14691 => ?_) (fun hb14691 => ?_)
        · refine y_iload 10 c23_9 rfl rfl ?_
          refine y_putI 13 c23_10 rfl kf376_57 (y_fit0 _) ?_
          have hT14692 := hT.up 376 57 1 0 4 rfl (by omega)
          have hF14693 := hF.up 376 57 1 rfl
          refine y_iload 14 c23_13 rfl rfl ?_
          refine y_ireturnK c23_14 (y_fit1 (by omega)) ?_
          refine y_ireturnK c162_21 (y_fit1 (by omega)) ?_
          refine y_if 30 28 c182_25 rfl rfl (yz_ne (by omega)) (fun hb14694 => ?_) (fun hb14694 => ?_)
          · exfalso; omega
          · refine y_iconst 29 c182_28 rfl ?_
            exact y_ireturn c182_29 (y_fit0 _) ⟨_, rfl, rfl, hF14693, (hMI.fr hT14692 (fun a q ha => (yup_ne (by rintro ⟨rfl, rfl⟩; simp [vGq] at ha))))⟩
        · exfalso; omega
      · exfalso; omega
    · exfalso; omega
  · refine y_iload 8 c160_7 rfl rfl ?_
    refine y_iconst 9 c160_8 rfl ?_
    refine y_aload 10 c160_9 rfl rfl rfl ?_
    refine y_getR 13 c160_10 rfl kf376_26 ?_
    refine y_aload 14 c160_13 rfl rfl rfl ?_
    refine y_getX 17 (m 376 18) c160_14 rfl kf376_18 rfl ?_
    have tb14695 := hT.atp 376 18 0 1 rfl
    refine y_top 0 (by omega) ?_
    refine y_iaX 18 (m 389 0) c160_17 rfl ka389 (by decide) rfl ?_
    refine y_iconst 19 c160_18 rfl ?_
    refine y_isub 20 c160_19 rfl ?_
    refine y_callP 23 [yI a, yI 0, yI ((m 389 0) - 1)] [] c160_20 rfl rfl rfl rfl rfl (ycanS km22) (t22m (by omega) (by omega) (by omega)) (fun r14696 hr14696 => ?_)
    refine y_if 30 26 c160_23 rfl rfl (yz_eq (by omega)) (fun hb14697 => ?_) (fun hb14697 => ?_)
    · refine y_iconst 31 c160_30 rfl ?_
      refine y_ireturnK c160_31 (y_fit1 (by omega)) ?_
      refine y_if 21 9 c182_6 rfl rfl (yz_eq (by omega)) (fun hb14698 => ?_) (fun hb14698 => ?_)
      · refine y_iconst 22 c182_21 rfl ?_
        refine y_inlB 25 [.ref 376, yI 0] [] [some (.ref 376), some (yI 0)] c182_22 rfl rfl rfl rfl rfl (ycanO km162 ko376) kn162 rfl rfl ?_
        refine y_aload 1 c162_0 rfl rfl rfl ?_
        refine y_aload 2 c162_1 rfl rfl rfl ?_
        refine y_getX 5 (m 376 19) c162_2 rfl kf376_19 rfl ?_
        refine y_top 1 (by omega) ?_
        refine y_if 16 8 c162_5 rfl rfl (yz_eq (by omega)) (fun hb14699 => ?_) (fun hb14699 => ?_)
        · exfalso; omega
        · refine y_iload 9 c162_8 rfl rfl ?_
          refine y_if 16 12 c162_9 rfl rfl (yz_eq (by omega)) (fun hb14700 => ?_) (fun hb14700 => ?_)
          · refine y_iconst 17 c162_16 rfl ?_
            refine y_iconst 18 c162_17 rfl ?_
            refine y_inlB 21 [.ref 376, yI 0, yI 1] [] [some (.ref 376), some (yI 0), some (yI 1)] c162_18 rfl rfl rfl rfl rfl (ycanO km23 ko376) kn23 rfl rfl ?_
            refine y_aload 1 c23_0 rfl rfl rfl ?_
            refine y_iload 2 c23_1 rfl rfl ?_
            refine y_if 9 5 c23_2 rfl rfl (yz_eq (by omega)) (fun hb14701 => ?_) (fun hb14701 => ?_)
            · refine y_iload 10 c23_9 rfl rfl ?_
              refine y_putI 13 c23_10 rfl kf376_57 (y_fit0 _) ?_
              have hT14702 := hT.up 376 57 1 0 4 rfl (by omega)
              have hF14703 := hF.up 376 57 1 rfl
              refine y_iload 14 c23_13 rfl rfl ?_
              refine y_ireturnK c23_14 (y_fit1 (by omega)) ?_
              refine y_ireturnK c162_21 (y_fit1 (by omega)) ?_
              refine y_if 30 28 c182_25 rfl rfl (yz_ne (by omega)) (fun hb14704 => ?_) (fun hb14704 => ?_)
              · exfalso; omega
              · refine y_iconst 29 c182_28 rfl ?_
                exact y_ireturn c182_29 (y_fit0 _) ⟨_, rfl, rfl, hF14703, (hMI.fr hT14702 (fun a q ha => (yup_ne (by rintro ⟨rfl, rfl⟩; simp [vGq] at ha))))⟩
            · exfalso; omega
          · exfalso; omega
      · exfalso; omega
    · refine y_iconst 27 c160_26 rfl ?_
      refine y_goto 31 c160_27 rfl ?_
      refine y_ireturnK c160_31 (y_fit1 (by omega)) ?_
      refine y_if 21 9 c182_6 rfl rfl (yz_eq (by omega)) (fun hb14705 => ?_) (fun hb14705 => ?_)
      · exfalso; omega
      · refine y_aload 10 c182_9 rfl rfl rfl ?_
        refine y_iload 11 c182_10 rfl rfl ?_
        refine y_inlB 14 [.ref 376, yI b] [.ref 376] [some (.ref 376), some (yI b)] c182_11 rfl rfl rfl rfl rfl (ycanO km160 ko376) kn160 rfl rfl ?_
        refine y_aload 1 c160_0 rfl rfl rfl ?_
        refine y_getX 4 (m 376 19) c160_1 rfl kf376_19 rfl ?_
        refine y_top 1 (by omega) ?_
        refine y_if 30 7 c160_4 rfl rfl (yz_eq (by omega)) (fun hb14706 => ?_) (fun hb14706 => ?_)
        · exfalso; omega
        · refine y_iload 8 c160_7 rfl rfl ?_
          refine y_iconst 9 c160_8 rfl ?_
          refine y_aload 10 c160_9 rfl rfl rfl ?_
          refine y_getR 13 c160_10 rfl kf376_26 ?_
          refine y_aload 14 c160_13 rfl rfl rfl ?_
          refine y_getX 17 (m 376 18) c160_14 rfl kf376_18 rfl ?_
          refine y_top 0 (by omega) ?_
          refine y_iaX 18 (m 389 0) c160_17 rfl ka389 (by decide) rfl ?_
          refine y_iconst 19 c160_18 rfl ?_
          refine y_isub 20 c160_19 rfl ?_
          refine y_callP 23 [yI b, yI 0, yI ((m 389 0) - 1)] [] c160_20 rfl rfl rfl rfl rfl (ycanS km22) (t22m (by omega) (by omega) (by omega)) (fun r14707 hr14707 => ?_)
          refine y_if 30 26 c160_23 rfl rfl (yz_eq (by omega)) (fun hb14708 => ?_) (fun hb14708 => ?_)
          · refine y_iconst 31 c160_30 rfl ?_
            refine y_ireturnK c160_31 (y_fit1 (by omega)) ?_
            refine y_if 21 17 c182_14 rfl rfl (yz_eq (by omega)) (fun hb14709 => ?_) (fun hb14709 => ?_)
            · refine y_iconst 22 c182_21 rfl ?_
              refine y_inlB 25 [.ref 376, yI 0] [] [some (.ref 376), some (yI 0)] c182_22 rfl rfl rfl rfl rfl (ycanO km162 ko376) kn162 rfl rfl ?_
              refine y_aload 1 c162_0 rfl rfl rfl ?_
              refine y_aload 2 c162_1 rfl rfl rfl ?_
              refine y_getX 5 (m 376 19) c162_2 rfl kf376_19 rfl ?_
              refine y_top 1 (by omega) ?_
              refine y_if 16 8 c162_5 rfl rfl (yz_eq (by omega)) (fun hb14710 => ?_) (fun hb14710 => ?_)
              · exfalso; omega
              · refine y_iload 9 c162_8 rfl rfl ?_
                refine y_if 16 12 c162_9 rfl rfl (yz_eq (by omega)) (fun hb14711 => ?_) (fun hb14711 => ?_)
                · refine y_iconst 17 c162_16 rfl ?_
                  refine y_iconst 18 c162_17 rfl ?_
                  refine y_inlB 21 [.ref 376, yI 0, yI 1] [] [some (.ref 376), some (yI 0), some (yI 1)] c162_18 rfl rfl rfl rfl rfl (ycanO km23 ko376) kn23 rfl rfl ?_
                  refine y_aload 1 c23_0 rfl rfl rfl ?_
                  refine y_iload 2 c23_1 rfl rfl ?_
                  refine y_if 9 5 c23_2 rfl rfl (yz_eq (by omega)) (fun hb14712 => ?_) (fun hb14712 => ?_)
                  · refine y_iload 10 c23_9 rfl rfl ?_
                    refine y_putI 13 c23_10 rfl kf376_57 (y_fit0 _) ?_
                    have hT14713 := hT.up 376 57 1 0 4 rfl (by omega)
                    have hF14714 := hF.up 376 57 1 rfl
                    refine y_iload 14 c23_13 rfl rfl ?_
                    refine y_ireturnK c23_14 (y_fit1 (by omega)) ?_
                    refine y_ireturnK c162_21 (y_fit1 (by omega)) ?_
                    refine y_if 30 28 c182_25 rfl rfl (yz_ne (by omega)) (fun hb14715 => ?_) (fun hb14715 => ?_)
                    · exfalso; omega
                    · refine y_iconst 29 c182_28 rfl ?_
                      exact y_ireturn c182_29 (y_fit0 _) ⟨_, rfl, rfl, hF14714, (hMI.fr hT14713 (fun a q ha => (yup_ne (by rintro ⟨rfl, rfl⟩; simp [vGq] at ha))))⟩
                  · exfalso; omega
                · exfalso; omega
            · exfalso; omega
          · refine y_iconst 27 c160_26 rfl ?_
            refine y_goto 31 c160_27 rfl ?_
            refine y_ireturnK c160_31 (y_fit1 (by omega)) ?_
            refine y_if 21 17 c182_14 rfl rfl (yz_eq (by omega)) (fun hb14716 => ?_) (fun hb14716 => ?_)
            · exfalso; omega
            · refine y_iconst 18 c182_17 rfl ?_
              refine y_goto 22 c182_18 rfl ?_
              refine y_inlB 25 [.ref 376, yI 1] [] [some (.ref 376), some (yI 1)] c182_22 rfl rfl rfl rfl rfl (ycanO km162 ko376) kn162 rfl rfl ?_
              refine y_aload 1 c162_0 rfl rfl rfl ?_
              refine y_aload 2 c162_1 rfl rfl rfl ?_
              refine y_getX 5 (m 376 19) c162_2 rfl kf376_19 rfl ?_
              refine y_top 1 (by omega) ?_
              refine y_if 16 8 c162_5 rfl rfl (yz_eq (by omega)) (fun hb14717 => ?_) (fun hb14717 => ?_)
              · exfalso; omega
              · refine y_iload 9 c162_8 rfl rfl ?_
                refine y_if 16 12 c162_9 rfl rfl (yz_eq (by omega)) (fun hb14718 => ?_) (fun hb14718 => ?_)
                · exfalso; omega
                · refine y_iconst 13 c162_12 rfl ?_
                  refine y_goto 17 c162_13 rfl ?_
                  refine y_iconst 18 c162_17 rfl ?_
                  refine y_inlB 21 [.ref 376, yI 1, yI 1] [] [some (.ref 376), some (yI 1), some (yI 1)] c162_18 rfl rfl rfl rfl rfl (ycanO km23 ko376) kn23 rfl rfl ?_
                  refine y_aload 1 c23_0 rfl rfl rfl ?_
                  refine y_iload 2 c23_1 rfl rfl ?_
                  refine y_if 9 5 c23_2 rfl rfl (yz_eq (by omega)) (fun hb14719 => ?_) (fun hb14719 => ?_)
                  · exfalso; omega
                  · refine y_iconst 6 c23_5 rfl ?_
                    refine y_goto 10 c23_6 rfl ?_
                    refine y_putI 13 c23_10 rfl kf376_57 (y_fit0 _) ?_
                    have hT14720 := hT.up 376 57 0 0 4 rfl (by omega)
                    have hF14721 := hF.up 376 57 0 rfl
                    refine y_iload 14 c23_13 rfl rfl ?_
                    refine y_ireturnK c23_14 (y_fit1 (by omega)) ?_
                    refine y_ireturnK c162_21 (y_fit1 (by omega)) ?_
                    refine y_if 30 28 c182_25 rfl rfl (yz_ne (by omega)) (fun hb14722 => ?_) (fun hb14722 => ?_)
                    · refine y_iconst 31 c182_30 rfl ?_
                      refine y_istore 32 c182_31 rfl rfl ?_
                      have es14723 : (yup m 376 57 0) 388 0 = m 388 0 := rfl
                      have es14724 : (yup m 376 57 0) 376 18 = m 376 18 := rfl
                      exact t182a_0 hT14720 (by omega) (by omega) (by omega) (fun r hr => ⟨_, rfl, rfl, hF14721, (hMI.fr hT14720 (fun a q ha => (yup_ne (by rintro ⟨rfl, rfl⟩; simp [vGq] at ha))))⟩) ((yup m 376 57 0) 388 0 - 0).toNat 0 (by omega) (by omega)
                    · exfalso; omega
set_option maxRecDepth 100000 in
theorem t178a_0 {L : Nat} {xs : Nat → Int32} {d nn : Nat} {m : yM} {Q : xO → yM → Nat → Prop} (hT : Ty gT m) (hn : m 376 18 = 0) (hG : GQ 0 m) {a b : Int} (ha : 0 ≤ a ∧ a ≤ 7) (hb : 0 ≤ b ∧ b ≤ 47) (hQ : ∀ r, (r = 0 ∨ r = 1) → Q (.inl (some (yI r))) m nn) : ∀ (km : Nat) (i : Int), m 388 0 - i = km → 0 ≤ i ∧ i ≤ m 388 0 → YW (gZ L xs) 178 (d + 6) 42 [some (.ref 376), some (yI a), some (yI b), some (yI i)] [] m nn (Q) := by
  intro km
  induction km using Nat.strongRecOn with
  | ind km ih =>
    intro i hk hi
    have tb383 := hT.atp 383 0 0 6 rfl
    have tb384 := hT.atp 384 0 0 10 rfl
    have tb385 := hT.atp 385 0 0 8 rfl
    have tb386 := hT.atp 386 0 0 12 rfl
    have tb387 := hT.atp 387 0 0 8 rfl
    have tb388 := hT.atp 388 0 0 12 rfl
    have tb389 := hT.atp 389 0 0 48 rfl
    have tb390 := hT.atp 390 0 0 125 rfl
    have t19 := hT.atp 376 19 0 1 rfl
    refine y_iload 43 c178_42 rfl rfl ?_
    refine y_aload 44 c178_43 rfl rfl rfl ?_
    refine y_getR 47 c178_44 rfl kf376_25 ?_
    refine y_aload 48 c178_47 rfl rfl rfl ?_
    refine y_getX 51 (m 376 18) c178_48 rfl kf376_18 rfl ?_
    have tb14725 := hT.atp 376 18 0 1 rfl
    refine y_top 0 (by omega) ?_
    refine y_iaX 52 (m 388 0) c178_51 rfl ka388 (by decide) rfl ?_
    refine y_icmp 116 55 c178_52 rfl rfl (yc_ge (by omega) (by omega)) (fun hb14726 => ?_) (fun hb14726 => ?_)
    · refine y_iconst 117 c178_116 rfl ?_
      exact y_ireturn c178_117 (y_fit0 _) (hQ _ (by omega))
    · refine y_aload 56 c178_55 rfl rfl rfl ?_
      refine y_getR 59 c178_56 rfl kf376_41 ?_
      refine y_iconst 61 c178_59 rfl ?_
      refine y_iload 62 c178_61 rfl rfl ?_
      refine y_imul 63 c178_62 rfl ?_
      refine y_iload 64 c178_63 rfl rfl ?_
      refine y_iadd 65 c178_64 rfl ?_
      refine y_iaT 66 ((-2147483648)) 2147483647 c178_65 rfl ka404 (by omega) hT rfl (fun v14727 hv14727 gv14727 => ?_)
      refine y_if 110 69 c178_66 rfl rfl (yz_lt (by omega)) (fun hb14728 => ?_) (fun hb14728 => ?_)
      · refine y_iinc 113 c178_110 rfl rfl rfl ?_
        refine y_goto 42 c178_113 rfl ?_
        exact ih (m 388 0 - (i + 1) : Int).toNat (by omega) (i + 1)   (by omega) (by omega)
      · refine y_aload 70 c178_69 rfl rfl rfl ?_
        refine y_aload 71 c178_70 rfl rfl rfl ?_
        refine y_getX 74 (m 376 18) c178_71 rfl kf376_18 rfl ?_
        refine y_top 0 (by omega) ?_
        refine y_aload 75 c178_74 rfl rfl rfl ?_
        refine y_getR 78 c178_75 rfl kf376_37 ?_
        refine y_iconst 80 c178_78 rfl ?_
        refine y_aload 81 c178_80 rfl rfl rfl ?_
        refine y_getX 84 (m 376 18) c178_81 rfl kf376_18 rfl ?_
        refine y_top 0 (by omega) ?_
        refine y_imul 85 c178_84 rfl ?_
        refine y_top 0 (by decide) ?_
        refine y_iload 86 c178_85 rfl rfl ?_
        refine y_iadd 87 c178_86 rfl ?_
        refine y_iaT 88 ((-2147483648)) 2147483647 c178_87 rfl ka400 (by omega) hT rfl (fun v14729 hv14729 gv14729 => ?_)
        have gv14729_ : -1 ≤ v14729 ∧ v14729 < m 383 0 := by have h0 := hG.2.2.2.2.2.1 i.toNat (by omega); rw [show 12 * 0 + i.toNat = (0 + i).toNat by omega, hv14729] at h0; exact h0
        refine y_aload 89 c178_88 rfl rfl rfl ?_
        refine y_getR 92 c178_89 rfl kf376_39 ?_
        refine y_iconst 94 c178_92 rfl ?_
        refine y_aload 95 c178_94 rfl rfl rfl ?_
        refine y_getX 98 (m 376 18) c178_95 rfl kf376_18 rfl ?_
        refine y_top 0 (by omega) ?_
        refine y_imul 99 c178_98 rfl ?_
        refine y_top 0 (by decide) ?_
        refine y_iload 100 c178_99 rfl rfl ?_
        refine y_iadd 101 c178_100 rfl ?_
        refine y_iaT 102 ((-2147483648)) 2147483647 c178_101 rfl ka402 (by omega) hT rfl (fun v14730 hv14730 gv14730 => ?_)
        refine y_callP 105 [.ref 376, yI 0, yI v14729, yI v14730] [] c178_102 rfl rfl rfl rfl rfl (ycanO km149 ko376) (t149_0 hT hG.2.2.2.2.1 (by omega) (by omega)) (fun r14731 hr14731 => ?_)
        refine y_if 110 108 c178_105 rfl rfl (yz_ne (by omega)) (fun hb14732 => ?_) (fun hb14732 => ?_)
        · refine y_iinc 113 c178_110 rfl rfl rfl ?_
          refine y_goto 42 c178_113 rfl ?_
          exact ih (m 388 0 - (i + 1) : Int).toNat (by omega) (i + 1)   (by omega) (by omega)
        · refine y_iconst 109 c178_108 rfl ?_
          exact y_ireturn c178_109 (y_fit0 _) (hQ _ (by omega))
set_option maxRecDepth 100000 in
theorem t178_0 {L : Nat} {xs : Nat → Int32} {d nn : Nat} {m : yM} (hT : Ty gT m) (hn : m 376 18 = 0) (hMI : MI m) {a : Int} (ra : -2147483648 ≤ a ∧ a < 2147483648) : YC (gZ L xs) (d + 6) 178 [.ref 376, yI a] m nn (qMd nn m) := by
  have tb383 := hT.atp 383 0 0 6 rfl
  have tb384 := hT.atp 384 0 0 10 rfl
  have tb385 := hT.atp 385 0 0 8 rfl
  have tb386 := hT.atp 386 0 0 12 rfl
  have tb387 := hT.atp 387 0 0 8 rfl
  have tb388 := hT.atp 388 0 0 12 rfl
  have tb389 := hT.atp 389 0 0 48 rfl
  have tb390 := hT.atp 390 0 0 125 rfl
  have t19 := hT.atp 376 19 0 1 rfl
  refine YC.mkB [some (.ref 376), some (yI a), none, none] kn178 rfl rfl ?_
  have hF : Fr wML m m := Fr.rf
  refine y_aload 1 c178_0 rfl rfl rfl ?_
  refine y_iload 2 c178_1 rfl rfl ?_
  refine y_iconst 3 c178_2 rfl ?_
  refine y_aload 4 c178_3 rfl rfl rfl ?_
  refine y_getR 7 c178_4 rfl kf376_24 ?_
  refine y_aload 8 c178_7 rfl rfl rfl ?_
  refine y_getX 11 (m 376 18) c178_8 rfl kf376_18 rfl ?_
  have tb14733 := hT.atp 376 18 0 1 rfl
  refine y_top 0 (by omega) ?_
  refine y_iaX 12 (m 387 0) c178_11 rfl ka387 (by decide) rfl ?_
  refine y_iconst 13 c178_12 rfl ?_
  refine y_isub 14 c178_13 rfl ?_
  refine y_callP 17 [yI a, yI 0, yI ((m 387 0) - 1)] [.ref 376] c178_14 rfl rfl rfl rfl rfl (ycanS km22) (t22m (by omega) (by omega) (by omega)) (fun r14734 hr14734 => ?_)
  refine y_inlB 20 [.ref 376, yI r14734] [] [some (.ref 376), some (yI r14734)] c178_17 rfl rfl rfl rfl rfl (ycanO km162 ko376) kn162 rfl rfl ?_
  refine y_aload 1 c162_0 rfl rfl rfl ?_
  refine y_aload 2 c162_1 rfl rfl rfl ?_
  refine y_getX 5 (m 376 19) c162_2 rfl kf376_19 rfl ?_
  refine y_if 16 8 c162_5 rfl rfl (yz_eq (by omega)) (fun hb14735 => ?_) (fun hb14735 => ?_)
  · refine y_iconst 17 c162_16 rfl ?_
    refine y_iconst 18 c162_17 rfl ?_
    refine y_inlB 21 [.ref 376, yI 0, yI 1] [] [some (.ref 376), some (yI 0), some (yI 1)] c162_18 rfl rfl rfl rfl rfl (ycanO km23 ko376) kn23 rfl rfl ?_
    refine y_aload 1 c23_0 rfl rfl rfl ?_
    refine y_iload 2 c23_1 rfl rfl ?_
    refine y_if 9 5 c23_2 rfl rfl (yz_eq (by omega)) (fun hb14736 => ?_) (fun hb14736 => ?_)
    · refine y_iload 10 c23_9 rfl rfl ?_
      refine y_putI 13 c23_10 rfl kf376_57 (y_fit0 _) ?_
      have hT14737 := hT.up 376 57 1 0 4 rfl (by omega)
      have hF14738 := hF.up 376 57 1 rfl
      refine y_iload 14 c23_13 rfl rfl ?_
      refine y_ireturnK c23_14 (y_fit1 (by omega)) ?_
      refine y_ireturnK c162_21 (y_fit1 (by omega)) ?_
      refine y_if 25 23 c178_20 rfl rfl (yz_ne (by omega)) (fun hb14739 => ?_) (fun hb14739 => ?_)
      · exfalso; omega
      · refine y_iconst 24 c178_23 rfl ?_
        exact y_ireturn c178_24 (y_fit0 _) ⟨_, rfl, rfl, hF14738, (hMI.fr hT14737 (fun a q ha => (yup_ne (by rintro ⟨rfl, rfl⟩; simp [vGq] at ha))))⟩
    · exfalso; omega
  · refine y_iload 9 c162_8 rfl rfl ?_
    refine y_if 16 12 c162_9 rfl rfl (yz_eq (by omega)) (fun hb14740 => ?_) (fun hb14740 => ?_)
    · refine y_iconst 17 c162_16 rfl ?_
      refine y_iconst 18 c162_17 rfl ?_
      refine y_inlB 21 [.ref 376, yI 0, yI 1] [] [some (.ref 376), some (yI 0), some (yI 1)] c162_18 rfl rfl rfl rfl rfl (ycanO km23 ko376) kn23 rfl rfl ?_
      refine y_aload 1 c23_0 rfl rfl rfl ?_
      refine y_iload 2 c23_1 rfl rfl ?_
      refine y_if 9 5 c23_2 rfl rfl (yz_eq (by omega)) (fun hb14741 => ?_) (fun hb14741 => ?_)
      · refine y_iload 10 c23_9 rfl rfl ?_
        refine y_putI 13 c23_10 rfl kf376_57 (y_fit0 _) ?_
        have hT14742 := hT.up 376 57 1 0 4 rfl (by omega)
        have hF14743 := hF.up 376 57 1 rfl
        refine y_iload 14 c23_13 rfl rfl ?_
        refine y_ireturnK c23_14 (y_fit1 (by omega)) ?_
        refine y_ireturnK c162_21 (y_fit1 (by omega)) ?_
        refine y_if 25 23 c178_20 rfl rfl (yz_ne (by omega)) (fun hb14744 => ?_) (fun hb14744 => ?_)
        · exfalso; omega
        · refine y_iconst 24 c178_23 rfl ?_
          exact y_ireturn c178_24 (y_fit0 _) ⟨_, rfl, rfl, hF14743, (hMI.fr hT14742 (fun a q ha => (yup_ne (by rintro ⟨rfl, rfl⟩; simp [vGq] at ha))))⟩
      · exfalso; omega
    · refine y_iconst 13 c162_12 rfl ?_
      refine y_goto 17 c162_13 rfl ?_
      refine y_iconst 18 c162_17 rfl ?_
      refine y_inlB 21 [.ref 376, yI 1, yI 1] [] [some (.ref 376), some (yI 1), some (yI 1)] c162_18 rfl rfl rfl rfl rfl (ycanO km23 ko376) kn23 rfl rfl ?_
      refine y_aload 1 c23_0 rfl rfl rfl ?_
      refine y_iload 2 c23_1 rfl rfl ?_
      refine y_if 9 5 c23_2 rfl rfl (yz_eq (by omega)) (fun hb14745 => ?_) (fun hb14745 => ?_)
      · exfalso; omega
      · refine y_iconst 6 c23_5 rfl ?_
        refine y_goto 10 c23_6 rfl ?_
        refine y_putI 13 c23_10 rfl kf376_57 (y_fit0 _) ?_
        have hT14746 := hT.up 376 57 0 0 4 rfl (by omega)
        have hF14747 := hF.up 376 57 0 rfl
        refine y_iload 14 c23_13 rfl rfl ?_
        refine y_ireturnK c23_14 (y_fit1 (by omega)) ?_
        refine y_ireturnK c162_21 (y_fit1 (by omega)) ?_
        refine y_if 25 23 c178_20 rfl rfl (yz_ne (by omega)) (fun hb14748 => ?_) (fun hb14748 => ?_)
        · have es14749 : (yup m 376 57 0) 387 0 = m 387 0 := rfl
          refine y_aload 26 c178_25 rfl rfl rfl ?_
          refine y_getR 29 c178_26 rfl kf376_38 ?_
          refine y_iconst 31 c178_29 rfl ?_
          refine y_aload 32 c178_31 rfl rfl rfl ?_
          refine y_getX 35 (m 376 18) c178_32 rfl kf376_18 rfl ?_
          refine y_top 0 (by omega) ?_
          refine y_imul 36 c178_35 rfl ?_
          refine y_top 0 (by decide) ?_
          refine y_iload 37 c178_36 rfl rfl ?_
          refine y_iadd 38 c178_37 rfl ?_
          refine y_iaT 39 ((-1)) 47 c178_38 rfl ka401 (by omega) hT14746 rfl (fun v14750 hv14750 gv14750 => ?_)
          have hG0 : GQ 0 m := by have h0 := hMI.2; rcases h0 with q | ⟨q1, q2⟩ | ⟨q1, q2⟩ <;> first | exact q2 | (exfalso; omega)
          have hG1 : GQ 0 (yup m 376 57 0) := hG0.fr hT (by decide) (fun a q ha => (yup_ne (by rintro ⟨rfl, rfl⟩; simp [vGq] at ha)))
          have gv14750_ : 0 ≤ v14750 := by have h0 := hG1.2.2.2.2.2.2.2.1 a.toNat (by omega); rw [show 8 * 0 + a.toNat = (0 + a).toNat by omega, hv14750] at h0; exact h0
          refine y_istore 40 c178_39 rfl rfl ?_
          refine y_iconst 41 c178_40 rfl ?_
          refine y_istore 42 c178_41 rfl rfl ?_
          have es14751 : (yup m 376 57 0) 388 0 = m 388 0 := rfl
          have es14752 : (yup m 376 57 0) 376 18 = m 376 18 := rfl
          exact t178a_0 hT14746 (by omega) hG1 (by omega) (by omega) (fun r hr => ⟨_, rfl, rfl, hF14747, (hMI.fr hT14746 (fun a q ha => (yup_ne (by rintro ⟨rfl, rfl⟩; simp [vGq] at ha))))⟩) ((yup m 376 57 0) 388 0 - 0).toNat 0 (by omega) (by omega)
        · exfalso; omega
set_option maxRecDepth 100000 in
theorem t163_1 {L : Nat} {xs : Nat → Int32} {d nn : Nat} {m : yM} (hT : Ty gT m) (hn : m 376 18 = 1) (hMI : MI m) {a : Int} (ra : -2147483648 ≤ a ∧ a < 2147483648) {b : Int} (rb : -2147483648 ≤ b ∧ b < 2147483648) : YC (gZ L xs) (d + 6) 163 [.ref 376, yI a, yI b] m nn (qMd nn m) := by
  have tb383 := hT.atp 383 1 0 6 rfl
  have tb384 := hT.atp 384 1 0 10 rfl
  have tb385 := hT.atp 385 1 0 8 rfl
  have tb386 := hT.atp 386 1 0 12 rfl
  have tb387 := hT.atp 387 1 0 8 rfl
  have tb388 := hT.atp 388 1 0 12 rfl
  have tb389 := hT.atp 389 1 0 48 rfl
  have tb390 := hT.atp 390 1 0 125 rfl
  have t19 := hT.atp 376 19 0 1 rfl
  refine YC.mkB [some (.ref 376), some (yI a), some (yI b)] kn163 rfl rfl ?_
  have hF : Fr wML m m := Fr.rf
  refine y_aload 1 c163_0 rfl rfl rfl ?_
  refine y_aload 2 c163_1 rfl rfl rfl ?_
  refine y_iload 3 c163_2 rfl rfl ?_
  refine y_inlB 6 [.ref 376, yI a] [.ref 376] [some (.ref 376), some (yI a)] c163_3 rfl rfl rfl rfl rfl (ycanO km160 ko376) kn160 rfl rfl ?_
  refine y_aload 1 c160_0 rfl rfl rfl ?_
  refine y_getX 4 (m 376 19) c160_1 rfl kf376_19 rfl ?_
  refine y_if 30 7 c160_4 rfl rfl (yz_eq (by omega)) (fun hb14753 => ?_) (fun hb14753 => ?_)
  · refine y_iconst 31 c160_30 rfl ?_
    refine y_ireturnK c160_31 (y_fit1 (by omega)) ?_
    refine y_if 21 9 c163_6 rfl rfl (yz_eq (by omega)) (fun hb14754 => ?_) (fun hb14754 => ?_)
    · refine y_iconst 22 c163_21 rfl ?_
      refine y_inlB 25 [.ref 376, yI 0] [] [some (.ref 376), some (yI 0)] c163_22 rfl rfl rfl rfl rfl (ycanO km162 ko376) kn162 rfl rfl ?_
      refine y_aload 1 c162_0 rfl rfl rfl ?_
      refine y_aload 2 c162_1 rfl rfl rfl ?_
      refine y_getX 5 (m 376 19) c162_2 rfl kf376_19 rfl ?_
      refine y_top 0 (by omega) ?_
      refine y_if 16 8 c162_5 rfl rfl (yz_eq (by omega)) (fun hb14755 => ?_) (fun hb14755 => ?_)
      · refine y_iconst 17 c162_16 rfl ?_
        refine y_iconst 18 c162_17 rfl ?_
        refine y_inlB 21 [.ref 376, yI 0, yI 1] [] [some (.ref 376), some (yI 0), some (yI 1)] c162_18 rfl rfl rfl rfl rfl (ycanO km23 ko376) kn23 rfl rfl ?_
        refine y_aload 1 c23_0 rfl rfl rfl ?_
        refine y_iload 2 c23_1 rfl rfl ?_
        refine y_if 9 5 c23_2 rfl rfl (yz_eq (by omega)) (fun hb14756 => ?_) (fun hb14756 => ?_)
        · refine y_iload 10 c23_9 rfl rfl ?_
          refine y_putI 13 c23_10 rfl kf376_57 (y_fit0 _) ?_
          have hT14757 := hT.up 376 57 1 0 4 rfl (by omega)
          have hF14758 := hF.up 376 57 1 rfl
          refine y_iload 14 c23_13 rfl rfl ?_
          refine y_ireturnK c23_14 (y_fit1 (by omega)) ?_
          refine y_ireturnK c162_21 (y_fit1 (by omega)) ?_
          refine y_if 42 28 c163_25 rfl rfl (yz_eq (by omega)) (fun hb14759 => ?_) (fun hb14759 => ?_)
          · refine y_iconst 43 c163_42 rfl ?_
            exact y_ireturn c163_43 (y_fit0 _) ⟨_, rfl, rfl, hF14758, (hMI.fr hT14757 (fun a q ha => (yup_ne (by rintro ⟨rfl, rfl⟩; simp [vGq] at ha))))⟩
          · exfalso; omega
        · exfalso; omega
      · exfalso; omega
    · exfalso; omega
  · refine y_iload 8 c160_7 rfl rfl ?_
    refine y_iconst 9 c160_8 rfl ?_
    refine y_aload 10 c160_9 rfl rfl rfl ?_
    refine y_getR 13 c160_10 rfl kf376_26 ?_
    refine y_aload 14 c160_13 rfl rfl rfl ?_
    refine y_getX 17 (m 376 18) c160_14 rfl kf376_18 rfl ?_
    have tb14760 := hT.atp 376 18 0 1 rfl
    refine y_top 1 (by omega) ?_
    refine y_iaX 18 (m 389 1) c160_17 rfl ka389 (by decide) rfl ?_
    refine y_iconst 19 c160_18 rfl ?_
    refine y_isub 20 c160_19 rfl ?_
    refine y_callP 23 [yI a, yI 0, yI ((m 389 1) - 1)] [] c160_20 rfl rfl rfl rfl rfl (ycanS km22) (t22m (by omega) (by omega) (by omega)) (fun r14761 hr14761 => ?_)
    refine y_if 30 26 c160_23 rfl rfl (yz_eq (by omega)) (fun hb14762 => ?_) (fun hb14762 => ?_)
    · refine y_iconst 31 c160_30 rfl ?_
      refine y_ireturnK c160_31 (y_fit1 (by omega)) ?_
      refine y_if 21 9 c163_6 rfl rfl (yz_eq (by omega)) (fun hb14763 => ?_) (fun hb14763 => ?_)
      · refine y_iconst 22 c163_21 rfl ?_
        refine y_inlB 25 [.ref 376, yI 0] [] [some (.ref 376), some (yI 0)] c163_22 rfl rfl rfl rfl rfl (ycanO km162 ko376) kn162 rfl rfl ?_
        refine y_aload 1 c162_0 rfl rfl rfl ?_
        refine y_aload 2 c162_1 rfl rfl rfl ?_
        refine y_getX 5 (m 376 19) c162_2 rfl kf376_19 rfl ?_
        refine y_top 1 (by omega) ?_
        refine y_if 16 8 c162_5 rfl rfl (yz_eq (by omega)) (fun hb14764 => ?_) (fun hb14764 => ?_)
        · exfalso; omega
        · refine y_iload 9 c162_8 rfl rfl ?_
          refine y_if 16 12 c162_9 rfl rfl (yz_eq (by omega)) (fun hb14765 => ?_) (fun hb14765 => ?_)
          · refine y_iconst 17 c162_16 rfl ?_
            refine y_iconst 18 c162_17 rfl ?_
            refine y_inlB 21 [.ref 376, yI 0, yI 1] [] [some (.ref 376), some (yI 0), some (yI 1)] c162_18 rfl rfl rfl rfl rfl (ycanO km23 ko376) kn23 rfl rfl ?_
            refine y_aload 1 c23_0 rfl rfl rfl ?_
            refine y_iload 2 c23_1 rfl rfl ?_
            refine y_if 9 5 c23_2 rfl rfl (yz_eq (by omega)) (fun hb14766 => ?_) (fun hb14766 => ?_)
            · refine y_iload 10 c23_9 rfl rfl ?_
              refine y_putI 13 c23_10 rfl kf376_57 (y_fit0 _) ?_
              have hT14767 := hT.up 376 57 1 0 4 rfl (by omega)
              have hF14768 := hF.up 376 57 1 rfl
              refine y_iload 14 c23_13 rfl rfl ?_
              refine y_ireturnK c23_14 (y_fit1 (by omega)) ?_
              refine y_ireturnK c162_21 (y_fit1 (by omega)) ?_
              refine y_if 42 28 c163_25 rfl rfl (yz_eq (by omega)) (fun hb14769 => ?_) (fun hb14769 => ?_)
              · refine y_iconst 43 c163_42 rfl ?_
                exact y_ireturn c163_43 (y_fit0 _) ⟨_, rfl, rfl, hF14768, (hMI.fr hT14767 (fun a q ha => (yup_ne (by rintro ⟨rfl, rfl⟩; simp [vGq] at ha))))⟩
              · exfalso; omega
            · exfalso; omega
          · exfalso; omega
      · exfalso; omega
    · refine y_iconst 27 c160_26 rfl ?_
      refine y_goto 31 c160_27 rfl ?_
      refine y_ireturnK c160_31 (y_fit1 (by omega)) ?_
      refine y_if 21 9 c163_6 rfl rfl (yz_eq (by omega)) (fun hb14770 => ?_) (fun hb14770 => ?_)
      · exfalso; omega
      · refine y_aload 10 c163_9 rfl rfl rfl ?_
        refine y_iload 11 c163_10 rfl rfl ?_
        refine y_inlB 14 [.ref 376, yI b] [.ref 376] [some (.ref 376), some (yI b)] c163_11 rfl rfl rfl rfl rfl (ycanO km161 ko376) kn161 rfl rfl ?_
        refine y_aload 1 c161_0 rfl rfl rfl ?_
        refine y_getX 4 (m 376 19) c161_1 rfl kf376_19 rfl ?_
        refine y_top 1 (by omega) ?_
        refine y_if 30 7 c161_4 rfl rfl (yz_eq (by omega)) (fun hb14771 => ?_) (fun hb14771 => ?_)
        · exfalso; omega
        · refine y_iload 8 c161_7 rfl rfl ?_
          refine y_iconst 9 c161_8 rfl ?_
          refine y_aload 10 c161_9 rfl rfl rfl ?_
          refine y_getR 13 c161_10 rfl kf376_25 ?_
          refine y_aload 14 c161_13 rfl rfl rfl ?_
          refine y_getX 17 (m 376 18) c161_14 rfl kf376_18 rfl ?_
          refine y_top 1 (by omega) ?_
          refine y_iaX 18 (m 388 1) c161_17 rfl ka388 (by decide) rfl ?_
          refine y_iconst 19 c161_18 rfl ?_
          refine y_isub 20 c161_19 rfl ?_
          refine y_callP 23 [yI b, yI 0, yI ((m 388 1) - 1)] [] c161_20 rfl rfl rfl rfl rfl (ycanS km22) (t22m (by omega) (by omega) (by omega)) (fun r14772 hr14772 => ?_)
          refine y_if 30 26 c161_23 rfl rfl (yz_eq (by omega)) (fun hb14773 => ?_) (fun hb14773 => ?_)
          · refine y_iconst 31 c161_30 rfl ?_
            refine y_ireturnK c161_31 (y_fit1 (by omega)) ?_
            refine y_if 21 17 c163_14 rfl rfl (yz_eq (by omega)) (fun hb14774 => ?_) (fun hb14774 => ?_)
            · refine y_iconst 22 c163_21 rfl ?_
              refine y_inlB 25 [.ref 376, yI 0] [] [some (.ref 376), some (yI 0)] c163_22 rfl rfl rfl rfl rfl (ycanO km162 ko376) kn162 rfl rfl ?_
              refine y_aload 1 c162_0 rfl rfl rfl ?_
              refine y_aload 2 c162_1 rfl rfl rfl ?_
              refine y_getX 5 (m 376 19) c162_2 rfl kf376_19 rfl ?_
              refine y_top 1 (by omega) ?_
              refine y_if 16 8 c162_5 rfl rfl (yz_eq (by omega)) (fun hb14775 => ?_) (fun hb14775 => ?_)
              · exfalso; omega
              · refine y_iload 9 c162_8 rfl rfl ?_
                refine y_if 16 12 c162_9 rfl rfl (yz_eq (by omega)) (fun hb14776 => ?_) (fun hb14776 => ?_)
                · refine y_iconst 17 c162_16 rfl ?_
                  refine y_iconst 18 c162_17 rfl ?_
                  refine y_inlB 21 [.ref 376, yI 0, yI 1] [] [some (.ref 376), some (yI 0), some (yI 1)] c162_18 rfl rfl rfl rfl rfl (ycanO km23 ko376) kn23 rfl rfl ?_
                  refine y_aload 1 c23_0 rfl rfl rfl ?_
                  refine y_iload 2 c23_1 rfl rfl ?_
                  refine y_if 9 5 c23_2 rfl rfl (yz_eq (by omega)) (fun hb14777 => ?_) (fun hb14777 => ?_)
                  · refine y_iload 10 c23_9 rfl rfl ?_
                    refine y_putI 13 c23_10 rfl kf376_57 (y_fit0 _) ?_
                    have hT14778 := hT.up 376 57 1 0 4 rfl (by omega)
                    have hF14779 := hF.up 376 57 1 rfl
                    refine y_iload 14 c23_13 rfl rfl ?_
                    refine y_ireturnK c23_14 (y_fit1 (by omega)) ?_
                    refine y_ireturnK c162_21 (y_fit1 (by omega)) ?_
                    refine y_if 42 28 c163_25 rfl rfl (yz_eq (by omega)) (fun hb14780 => ?_) (fun hb14780 => ?_)
                    · refine y_iconst 43 c163_42 rfl ?_
                      exact y_ireturn c163_43 (y_fit0 _) ⟨_, rfl, rfl, hF14779, (hMI.fr hT14778 (fun a q ha => (yup_ne (by rintro ⟨rfl, rfl⟩; simp [vGq] at ha))))⟩
                    · exfalso; omega
                  · exfalso; omega
                · exfalso; omega
            · exfalso; omega
          · refine y_iconst 27 c161_26 rfl ?_
            refine y_goto 31 c161_27 rfl ?_
            refine y_ireturnK c161_31 (y_fit1 (by omega)) ?_
            refine y_if 21 17 c163_14 rfl rfl (yz_eq (by omega)) (fun hb14781 => ?_) (fun hb14781 => ?_)
            · exfalso; omega
            · refine y_iconst 18 c163_17 rfl ?_
              refine y_goto 22 c163_18 rfl ?_
              refine y_inlB 25 [.ref 376, yI 1] [] [some (.ref 376), some (yI 1)] c163_22 rfl rfl rfl rfl rfl (ycanO km162 ko376) kn162 rfl rfl ?_
              refine y_aload 1 c162_0 rfl rfl rfl ?_
              refine y_aload 2 c162_1 rfl rfl rfl ?_
              refine y_getX 5 (m 376 19) c162_2 rfl kf376_19 rfl ?_
              refine y_top 1 (by omega) ?_
              refine y_if 16 8 c162_5 rfl rfl (yz_eq (by omega)) (fun hb14782 => ?_) (fun hb14782 => ?_)
              · exfalso; omega
              · refine y_iload 9 c162_8 rfl rfl ?_
                refine y_if 16 12 c162_9 rfl rfl (yz_eq (by omega)) (fun hb14783 => ?_) (fun hb14783 => ?_)
                · exfalso; omega
                · refine y_iconst 13 c162_12 rfl ?_
                  refine y_goto 17 c162_13 rfl ?_
                  refine y_iconst 18 c162_17 rfl ?_
                  refine y_inlB 21 [.ref 376, yI 1, yI 1] [] [some (.ref 376), some (yI 1), some (yI 1)] c162_18 rfl rfl rfl rfl rfl (ycanO km23 ko376) kn23 rfl rfl ?_
                  refine y_aload 1 c23_0 rfl rfl rfl ?_
                  refine y_iload 2 c23_1 rfl rfl ?_
                  refine y_if 9 5 c23_2 rfl rfl (yz_eq (by omega)) (fun hb14784 => ?_) (fun hb14784 => ?_)
                  · exfalso; omega
                  · refine y_iconst 6 c23_5 rfl ?_
                    refine y_goto 10 c23_6 rfl ?_
                    refine y_putI 13 c23_10 rfl kf376_57 (y_fit0 _) ?_
                    have hT14785 := hT.up 376 57 0 0 4 rfl (by omega)
                    have hF14786 := hF.up 376 57 0 rfl
                    refine y_iload 14 c23_13 rfl rfl ?_
                    refine y_ireturnK c23_14 (y_fit1 (by omega)) ?_
                    refine y_ireturnK c162_21 (y_fit1 (by omega)) ?_
                    refine y_if 42 28 c163_25 rfl rfl (yz_eq (by omega)) (fun hb14787 => ?_) (fun hb14787 => ?_)
                    · exfalso; omega
                    · refine y_aload 29 c163_28 rfl rfl rfl ?_
                      refine y_getR 32 c163_29 rfl kf376_41 ?_
                      refine y_iconst 34 c163_32 rfl ?_
                      refine y_iload 35 c163_34 rfl rfl ?_
                      refine y_imul 36 c163_35 rfl ?_
                      refine y_iload 37 c163_36 rfl rfl ?_
                      refine y_iadd 38 c163_37 rfl ?_
                      refine y_iaT 39 ((-2147483648)) 2147483647 c163_38 rfl ka404 (by omega) hT14785 rfl (fun v14788 hv14788 gv14788 => ?_)
                      refine y_goto 43 c163_39 rfl ?_
                      exact y_ireturn c163_43 (y_fit0 _) ⟨_, rfl, rfl, hF14786, (hMI.fr hT14785 (fun a q ha => (yup_ne (by rintro ⟨rfl, rfl⟩; simp [vGq] at ha))))⟩
set_option maxRecDepth 100000 in
theorem t166_1 {L : Nat} {xs : Nat → Int32} {d nn : Nat} {m : yM} (hT : Ty gT m) (hn : m 376 18 = 1) (hMI : MI m) {a : Int} (ra : -2147483648 ≤ a ∧ a < 2147483648) {b : Int} (rb : -2147483648 ≤ b ∧ b < 2147483648) {c : Int} (rc : -2147483648 ≤ c ∧ c < 2147483648) : YC (gZ L xs) (d + 6) 166 [.ref 376, yI a, yI b, yI c] m nn (qMd nn m) := by
  have tb383 := hT.atp 383 1 0 6 rfl
  have tb384 := hT.atp 384 1 0 10 rfl
  have tb385 := hT.atp 385 1 0 8 rfl
  have tb386 := hT.atp 386 1 0 12 rfl
  have tb387 := hT.atp 387 1 0 8 rfl
  have tb388 := hT.atp 388 1 0 12 rfl
  have tb389 := hT.atp 389 1 0 48 rfl
  have tb390 := hT.atp 390 1 0 125 rfl
  have t19 := hT.atp 376 19 0 1 rfl
  refine YC.mkB [some (.ref 376), some (yI a), some (yI b), some (yI c)] kn166 rfl rfl ?_
  have hF : Fr wML m m := Fr.rf
  refine y_aload 1 c166_0 rfl rfl rfl ?_
  refine y_aload 2 c166_1 rfl rfl rfl ?_
  refine y_iload 3 c166_2 rfl rfl ?_
  refine y_inlB 6 [.ref 376, yI a] [.ref 376] [some (.ref 376), some (yI a)] c166_3 rfl rfl rfl rfl rfl (ycanO km161 ko376) kn161 rfl rfl ?_
  refine y_aload 1 c161_0 rfl rfl rfl ?_
  refine y_getX 4 (m 376 19) c161_1 rfl kf376_19 rfl ?_
  refine y_if 30 7 c161_4 rfl rfl (yz_eq (by omega)) (fun hb14789 => ?_) (fun hb14789 => ?_)
  · refine y_iconst 31 c161_30 rfl ?_
    refine y_ireturnK c161_31 (y_fit1 (by omega)) ?_
    refine y_if 40 9 c166_6 rfl rfl (yz_eq (by omega)) (fun hb14790 => ?_) (fun hb14790 => ?_)
    · refine y_iconst 41 c166_40 rfl ?_
      refine y_inlB 44 [.ref 376, yI 0] [] [some (.ref 376), some (yI 0)] c166_41 rfl rfl rfl rfl rfl (ycanO km162 ko376) kn162 rfl rfl ?_
      refine y_aload 1 c162_0 rfl rfl rfl ?_
      refine y_aload 2 c162_1 rfl rfl rfl ?_
      refine y_getX 5 (m 376 19) c162_2 rfl kf376_19 rfl ?_
      refine y_top 0 (by omega) ?_
      refine y_if 16 8 c162_5 rfl rfl (yz_eq (by omega)) (fun hb14791 => ?_) (fun hb14791 => ?_)
      · refine y_iconst 17 c162_16 rfl ?_
        refine y_iconst 18 c162_17 rfl ?_
        refine y_inlB 21 [.ref 376, yI 0, yI 1] [] [some (.ref 376), some (yI 0), some (yI 1)] c162_18 rfl rfl rfl rfl rfl (ycanO km23 ko376) kn23 rfl rfl ?_
        refine y_aload 1 c23_0 rfl rfl rfl ?_
        refine y_iload 2 c23_1 rfl rfl ?_
        refine y_if 9 5 c23_2 rfl rfl (yz_eq (by omega)) (fun hb14792 => ?_) (fun hb14792 => ?_)
        · refine y_iload 10 c23_9 rfl rfl ?_
          refine y_putI 13 c23_10 rfl kf376_57 (y_fit0 _) ?_
          have hT14793 := hT.up 376 57 1 0 4 rfl (by omega)
          have hF14794 := hF.up 376 57 1 rfl
          refine y_iload 14 c23_13 rfl rfl ?_
          refine y_ireturnK c23_14 (y_fit1 (by omega)) ?_
          refine y_ireturnK c162_21 (y_fit1 (by omega)) ?_
          refine y_if 66 47 c166_44 rfl rfl (yz_eq (by omega)) (fun hb14795 => ?_) (fun hb14795 => ?_)
          · refine y_iconst 67 c166_66 rfl ?_
            exact y_ireturn c166_67 (y_fit0 _) ⟨_, rfl, rfl, hF14794, (hMI.fr hT14793 (fun a q ha => (yup_ne (by rintro ⟨rfl, rfl⟩; simp [vGq] at ha))))⟩
          · exfalso; omega
        · exfalso; omega
      · exfalso; omega
    · exfalso; omega
  · refine y_iload 8 c161_7 rfl rfl ?_
    refine y_iconst 9 c161_8 rfl ?_
    refine y_aload 10 c161_9 rfl rfl rfl ?_
    refine y_getR 13 c161_10 rfl kf376_25 ?_
    refine y_aload 14 c161_13 rfl rfl rfl ?_
    refine y_getX 17 (m 376 18) c161_14 rfl kf376_18 rfl ?_
    have tb14796 := hT.atp 376 18 0 1 rfl
    refine y_top 1 (by omega) ?_
    refine y_iaX 18 (m 388 1) c161_17 rfl ka388 (by decide) rfl ?_
    refine y_iconst 19 c161_18 rfl ?_
    refine y_isub 20 c161_19 rfl ?_
    refine y_callP 23 [yI a, yI 0, yI ((m 388 1) - 1)] [] c161_20 rfl rfl rfl rfl rfl (ycanS km22) (t22m (by omega) (by omega) (by omega)) (fun r14797 hr14797 => ?_)
    refine y_if 30 26 c161_23 rfl rfl (yz_eq (by omega)) (fun hb14798 => ?_) (fun hb14798 => ?_)
    · refine y_iconst 31 c161_30 rfl ?_
      refine y_ireturnK c161_31 (y_fit1 (by omega)) ?_
      refine y_if 40 9 c166_6 rfl rfl (yz_eq (by omega)) (fun hb14799 => ?_) (fun hb14799 => ?_)
      · refine y_iconst 41 c166_40 rfl ?_
        refine y_inlB 44 [.ref 376, yI 0] [] [some (.ref 376), some (yI 0)] c166_41 rfl rfl rfl rfl rfl (ycanO km162 ko376) kn162 rfl rfl ?_
        refine y_aload 1 c162_0 rfl rfl rfl ?_
        refine y_aload 2 c162_1 rfl rfl rfl ?_
        refine y_getX 5 (m 376 19) c162_2 rfl kf376_19 rfl ?_
        refine y_top 1 (by omega) ?_
        refine y_if 16 8 c162_5 rfl rfl (yz_eq (by omega)) (fun hb14800 => ?_) (fun hb14800 => ?_)
        · exfalso; omega
        · refine y_iload 9 c162_8 rfl rfl ?_
          refine y_if 16 12 c162_9 rfl rfl (yz_eq (by omega)) (fun hb14801 => ?_) (fun hb14801 => ?_)
          · refine y_iconst 17 c162_16 rfl ?_
            refine y_iconst 18 c162_17 rfl ?_
            refine y_inlB 21 [.ref 376, yI 0, yI 1] [] [some (.ref 376), some (yI 0), some (yI 1)] c162_18 rfl rfl rfl rfl rfl (ycanO km23 ko376) kn23 rfl rfl ?_
            refine y_aload 1 c23_0 rfl rfl rfl ?_
            refine y_iload 2 c23_1 rfl rfl ?_
            refine y_if 9 5 c23_2 rfl rfl (yz_eq (by omega)) (fun hb14802 => ?_) (fun hb14802 => ?_)
            · refine y_iload 10 c23_9 rfl rfl ?_
              refine y_putI 13 c23_10 rfl kf376_57 (y_fit0 _) ?_
              have hT14803 := hT.up 376 57 1 0 4 rfl (by omega)
              have hF14804 := hF.up 376 57 1 rfl
              refine y_iload 14 c23_13 rfl rfl ?_
              refine y_ireturnK c23_14 (y_fit1 (by omega)) ?_
              refine y_ireturnK c162_21 (y_fit1 (by omega)) ?_
              refine y_if 66 47 c166_44 rfl rfl (yz_eq (by omega)) (fun hb14805 => ?_) (fun hb14805 => ?_)
              · refine y_iconst 67 c166_66 rfl ?_
                exact y_ireturn c166_67 (y_fit0 _) ⟨_, rfl, rfl, hF14804, (hMI.fr hT14803 (fun a q ha => (yup_ne (by rintro ⟨rfl, rfl⟩; simp [vGq] at ha))))⟩
              · exfalso; omega
            · exfalso; omega
          · exfalso; omega
      · exfalso; omega
    · refine y_iconst 27 c161_26 rfl ?_
      refine y_goto 31 c161_27 rfl ?_
      refine y_ireturnK c161_31 (y_fit1 (by omega)) ?_
      refine y_if 40 9 c166_6 rfl rfl (yz_eq (by omega)) (fun hb14806 => ?_) (fun hb14806 => ?_)
      · exfalso; omega
      · refine y_aload 10 c166_9 rfl rfl rfl ?_
        refine y_iload 11 c166_10 rfl rfl ?_
        refine y_inlB 14 [.ref 376, yI c] [.ref 376] [some (.ref 376), some (yI c)] c166_11 rfl rfl rfl rfl rfl (ycanO km161 ko376) kn161 rfl rfl ?_
        refine y_aload 1 c161_0 rfl rfl rfl ?_
        refine y_getX 4 (m 376 19) c161_1 rfl kf376_19 rfl ?_
        refine y_top 1 (by omega) ?_
        refine y_if 30 7 c161_4 rfl rfl (yz_eq (by omega)) (fun hb14807 => ?_) (fun hb14807 => ?_)
        · exfalso; omega
        · refine y_iload 8 c161_7 rfl rfl ?_
          refine y_iconst 9 c161_8 rfl ?_
          refine y_aload 10 c161_9 rfl rfl rfl ?_
          refine y_getR 13 c161_10 rfl kf376_25 ?_
          refine y_aload 14 c161_13 rfl rfl rfl ?_
          refine y_getX 17 (m 376 18) c161_14 rfl kf376_18 rfl ?_
          refine y_top 1 (by omega) ?_
          refine y_iaX 18 (m 388 1) c161_17 rfl ka388 (by decide) rfl ?_
          refine y_iconst 19 c161_18 rfl ?_
          refine y_isub 20 c161_19 rfl ?_
          refine y_callP 23 [yI c, yI 0, yI ((m 388 1) - 1)] [] c161_20 rfl rfl rfl rfl rfl (ycanS km22) (t22m (by omega) (by omega) (by omega)) (fun r14808 hr14808 => ?_)
          refine y_if 30 26 c161_23 rfl rfl (yz_eq (by omega)) (fun hb14809 => ?_) (fun hb14809 => ?_)
          · refine y_iconst 31 c161_30 rfl ?_
            refine y_ireturnK c161_31 (y_fit1 (by omega)) ?_
            refine y_if 40 17 c166_14 rfl rfl (yz_eq (by omega)) (fun hb14810 => ?_) (fun hb14810 => ?_)
            · refine y_iconst 41 c166_40 rfl ?_
              refine y_inlB 44 [.ref 376, yI 0] [] [some (.ref 376), some (yI 0)] c166_41 rfl rfl rfl rfl rfl (ycanO km162 ko376) kn162 rfl rfl ?_
              refine y_aload 1 c162_0 rfl rfl rfl ?_
              refine y_aload 2 c162_1 rfl rfl rfl ?_
              refine y_getX 5 (m 376 19) c162_2 rfl kf376_19 rfl ?_
              refine y_top 1 (by omega) ?_
              refine y_if 16 8 c162_5 rfl rfl (yz_eq (by omega)) (fun hb14811 => ?_) (fun hb14811 => ?_)
              · exfalso; omega
              · refine y_iload 9 c162_8 rfl rfl ?_
                refine y_if 16 12 c162_9 rfl rfl (yz_eq (by omega)) (fun hb14812 => ?_) (fun hb14812 => ?_)
                · refine y_iconst 17 c162_16 rfl ?_
                  refine y_iconst 18 c162_17 rfl ?_
                  refine y_inlB 21 [.ref 376, yI 0, yI 1] [] [some (.ref 376), some (yI 0), some (yI 1)] c162_18 rfl rfl rfl rfl rfl (ycanO km23 ko376) kn23 rfl rfl ?_
                  refine y_aload 1 c23_0 rfl rfl rfl ?_
                  refine y_iload 2 c23_1 rfl rfl ?_
                  refine y_if 9 5 c23_2 rfl rfl (yz_eq (by omega)) (fun hb14813 => ?_) (fun hb14813 => ?_)
                  · refine y_iload 10 c23_9 rfl rfl ?_
                    refine y_putI 13 c23_10 rfl kf376_57 (y_fit0 _) ?_
                    have hT14814 := hT.up 376 57 1 0 4 rfl (by omega)
                    have hF14815 := hF.up 376 57 1 rfl
                    refine y_iload 14 c23_13 rfl rfl ?_
                    refine y_ireturnK c23_14 (y_fit1 (by omega)) ?_
                    refine y_ireturnK c162_21 (y_fit1 (by omega)) ?_
                    refine y_if 66 47 c166_44 rfl rfl (yz_eq (by omega)) (fun hb14816 => ?_) (fun hb14816 => ?_)
                    · refine y_iconst 67 c166_66 rfl ?_
                      exact y_ireturn c166_67 (y_fit0 _) ⟨_, rfl, rfl, hF14815, (hMI.fr hT14814 (fun a q ha => (yup_ne (by rintro ⟨rfl, rfl⟩; simp [vGq] at ha))))⟩
                    · exfalso; omega
                  · exfalso; omega
                · exfalso; omega
            · exfalso; omega
          · refine y_iconst 27 c161_26 rfl ?_
            refine y_goto 31 c161_27 rfl ?_
            refine y_ireturnK c161_31 (y_fit1 (by omega)) ?_
            refine y_if 40 17 c166_14 rfl rfl (yz_eq (by omega)) (fun hb14817 => ?_) (fun hb14817 => ?_)
            · exfalso; omega
            · refine y_iload 18 c166_17 rfl rfl ?_
              refine y_iconst 19 c166_18 rfl ?_
              refine y_aload 20 c166_19 rfl rfl rfl ?_
              refine y_getR 23 c166_20 rfl kf376_22 ?_
              refine y_aload 24 c166_23 rfl rfl rfl ?_
              refine y_getX 27 (m 376 18) c166_24 rfl kf376_18 rfl ?_
              refine y_top 1 (by omega) ?_
              refine y_iaX 28 (m 385 1) c166_27 rfl ka385 (by decide) rfl ?_
              refine y_iconst 29 c166_28 rfl ?_
              refine y_isub 30 c166_29 rfl ?_
              refine y_callP 33 [yI b, yI 0, yI ((m 385 1) - 1)] [.ref 376] c166_30 rfl rfl rfl rfl rfl (ycanS km22) (t22m (by omega) (by omega) (by omega)) (fun r14818 hr14818 => ?_)
              refine y_if 40 36 c166_33 rfl rfl (yz_eq (by omega)) (fun hb14819 => ?_) (fun hb14819 => ?_)
              · refine y_iconst 41 c166_40 rfl ?_
                refine y_inlB 44 [.ref 376, yI 0] [] [some (.ref 376), some (yI 0)] c166_41 rfl rfl rfl rfl rfl (ycanO km162 ko376) kn162 rfl rfl ?_
                refine y_aload 1 c162_0 rfl rfl rfl ?_
                refine y_aload 2 c162_1 rfl rfl rfl ?_
                refine y_getX 5 (m 376 19) c162_2 rfl kf376_19 rfl ?_
                refine y_top 1 (by omega) ?_
                refine y_if 16 8 c162_5 rfl rfl (yz_eq (by omega)) (fun hb14820 => ?_) (fun hb14820 => ?_)
                · exfalso; omega
                · refine y_iload 9 c162_8 rfl rfl ?_
                  refine y_if 16 12 c162_9 rfl rfl (yz_eq (by omega)) (fun hb14821 => ?_) (fun hb14821 => ?_)
                  · refine y_iconst 17 c162_16 rfl ?_
                    refine y_iconst 18 c162_17 rfl ?_
                    refine y_inlB 21 [.ref 376, yI 0, yI 1] [] [some (.ref 376), some (yI 0), some (yI 1)] c162_18 rfl rfl rfl rfl rfl (ycanO km23 ko376) kn23 rfl rfl ?_
                    refine y_aload 1 c23_0 rfl rfl rfl ?_
                    refine y_iload 2 c23_1 rfl rfl ?_
                    refine y_if 9 5 c23_2 rfl rfl (yz_eq (by omega)) (fun hb14822 => ?_) (fun hb14822 => ?_)
                    · refine y_iload 10 c23_9 rfl rfl ?_
                      refine y_putI 13 c23_10 rfl kf376_57 (y_fit0 _) ?_
                      have hT14823 := hT.up 376 57 1 0 4 rfl (by omega)
                      have hF14824 := hF.up 376 57 1 rfl
                      refine y_iload 14 c23_13 rfl rfl ?_
                      refine y_ireturnK c23_14 (y_fit1 (by omega)) ?_
                      refine y_ireturnK c162_21 (y_fit1 (by omega)) ?_
                      refine y_if 66 47 c166_44 rfl rfl (yz_eq (by omega)) (fun hb14825 => ?_) (fun hb14825 => ?_)
                      · refine y_iconst 67 c166_66 rfl ?_
                        exact y_ireturn c166_67 (y_fit0 _) ⟨_, rfl, rfl, hF14824, (hMI.fr hT14823 (fun a q ha => (yup_ne (by rintro ⟨rfl, rfl⟩; simp [vGq] at ha))))⟩
                      · exfalso; omega
                    · exfalso; omega
                  · exfalso; omega
              · refine y_iconst 37 c166_36 rfl ?_
                refine y_goto 41 c166_37 rfl ?_
                refine y_inlB 44 [.ref 376, yI 1] [] [some (.ref 376), some (yI 1)] c166_41 rfl rfl rfl rfl rfl (ycanO km162 ko376) kn162 rfl rfl ?_
                refine y_aload 1 c162_0 rfl rfl rfl ?_
                refine y_aload 2 c162_1 rfl rfl rfl ?_
                refine y_getX 5 (m 376 19) c162_2 rfl kf376_19 rfl ?_
                refine y_top 1 (by omega) ?_
                refine y_if 16 8 c162_5 rfl rfl (yz_eq (by omega)) (fun hb14826 => ?_) (fun hb14826 => ?_)
                · exfalso; omega
                · refine y_iload 9 c162_8 rfl rfl ?_
                  refine y_if 16 12 c162_9 rfl rfl (yz_eq (by omega)) (fun hb14827 => ?_) (fun hb14827 => ?_)
                  · exfalso; omega
                  · refine y_iconst 13 c162_12 rfl ?_
                    refine y_goto 17 c162_13 rfl ?_
                    refine y_iconst 18 c162_17 rfl ?_
                    refine y_inlB 21 [.ref 376, yI 1, yI 1] [] [some (.ref 376), some (yI 1), some (yI 1)] c162_18 rfl rfl rfl rfl rfl (ycanO km23 ko376) kn23 rfl rfl ?_
                    refine y_aload 1 c23_0 rfl rfl rfl ?_
                    refine y_iload 2 c23_1 rfl rfl ?_
                    refine y_if 9 5 c23_2 rfl rfl (yz_eq (by omega)) (fun hb14828 => ?_) (fun hb14828 => ?_)
                    · exfalso; omega
                    · refine y_iconst 6 c23_5 rfl ?_
                      refine y_goto 10 c23_6 rfl ?_
                      refine y_putI 13 c23_10 rfl kf376_57 (y_fit0 _) ?_
                      have hT14829 := hT.up 376 57 0 0 4 rfl (by omega)
                      have hF14830 := hF.up 376 57 0 rfl
                      refine y_iload 14 c23_13 rfl rfl ?_
                      refine y_ireturnK c23_14 (y_fit1 (by omega)) ?_
                      refine y_ireturnK c162_21 (y_fit1 (by omega)) ?_
                      refine y_if 66 47 c166_44 rfl rfl (yz_eq (by omega)) (fun hb14831 => ?_) (fun hb14831 => ?_)
                      · exfalso; omega
                      · refine y_aload 48 c166_47 rfl rfl rfl ?_
                        refine y_getR 51 c166_48 rfl kf376_42 ?_
                        refine y_iconst 53 c166_51 rfl ?_
                        refine y_iload 54 c166_53 rfl rfl ?_
                        refine y_imul 55 c166_54 rfl ?_
                        refine y_iconst 57 c166_55 rfl ?_
                        refine y_iload 58 c166_57 rfl rfl ?_
                        refine y_imul 59 c166_58 rfl ?_
                        refine y_iadd 60 c166_59 rfl ?_
                        refine y_iload 61 c166_60 rfl rfl ?_
                        refine y_iadd 62 c166_61 rfl ?_
                        refine y_iaT 63 ((-2147483648)) 2147483647 c166_62 rfl ka405 (by omega) hT14829 rfl (fun v14832 hv14832 gv14832 => ?_)
                        refine y_goto 67 c166_63 rfl ?_
                        exact y_ireturn c166_67 (y_fit0 _) ⟨_, rfl, rfl, hF14830, (hMI.fr hT14829 (fun a q ha => (yup_ne (by rintro ⟨rfl, rfl⟩; simp [vGq] at ha))))⟩
set_option maxRecDepth 100000 in
theorem t171_1 {L : Nat} {xs : Nat → Int32} {d nn : Nat} {m : yM} (hT : Ty gT m) (hn : m 376 18 = 1) (hMI : MI m) {a : Int} (ra : -2147483648 ≤ a ∧ a < 2147483648) {b : Int} (rb : -2147483648 ≤ b ∧ b < 2147483648) : YC (gZ L xs) (d + 6) 171 [.ref 376, yI a, yI b] m nn (qMd nn m) := by
  have tb383 := hT.atp 383 1 0 6 rfl
  have tb384 := hT.atp 384 1 0 10 rfl
  have tb385 := hT.atp 385 1 0 8 rfl
  have tb386 := hT.atp 386 1 0 12 rfl
  have tb387 := hT.atp 387 1 0 8 rfl
  have tb388 := hT.atp 388 1 0 12 rfl
  have tb389 := hT.atp 389 1 0 48 rfl
  have tb390 := hT.atp 390 1 0 125 rfl
  have t19 := hT.atp 376 19 0 1 rfl
  refine YC.mkB [some (.ref 376), some (yI a), some (yI b)] kn171 rfl rfl ?_
  have hF : Fr wML m m := Fr.rf
  refine y_aload 1 c171_0 rfl rfl rfl ?_
  refine y_aload 2 c171_1 rfl rfl rfl ?_
  refine y_iload 3 c171_2 rfl rfl ?_
  refine y_inlB 6 [.ref 376, yI b] [.ref 376] [some (.ref 376), some (yI b)] c171_3 rfl rfl rfl rfl rfl (ycanO km170 ko376) kn170 rfl rfl ?_
  refine y_aload 1 c170_0 rfl rfl rfl ?_
  refine y_getX 4 (m 376 19) c170_1 rfl kf376_19 rfl ?_
  refine y_if 30 7 c170_4 rfl rfl (yz_eq (by omega)) (fun hb14833 => ?_) (fun hb14833 => ?_)
  · refine y_iconst 31 c170_30 rfl ?_
    refine y_ireturnK c170_31 (y_fit1 (by omega)) ?_
    refine y_if 32 9 c171_6 rfl rfl (yz_eq (by omega)) (fun hb14834 => ?_) (fun hb14834 => ?_)
    · refine y_iconst 33 c171_32 rfl ?_
      refine y_inlB 36 [.ref 376, yI 0] [] [some (.ref 376), some (yI 0)] c171_33 rfl rfl rfl rfl rfl (ycanO km162 ko376) kn162 rfl rfl ?_
      refine y_aload 1 c162_0 rfl rfl rfl ?_
      refine y_aload 2 c162_1 rfl rfl rfl ?_
      refine y_getX 5 (m 376 19) c162_2 rfl kf376_19 rfl ?_
      refine y_top 0 (by omega) ?_
      refine y_if 16 8 c162_5 rfl rfl (yz_eq (by omega)) (fun hb14835 => ?_) (fun hb14835 => ?_)
      · refine y_iconst 17 c162_16 rfl ?_
        refine y_iconst 18 c162_17 rfl ?_
        refine y_inlB 21 [.ref 376, yI 0, yI 1] [] [some (.ref 376), some (yI 0), some (yI 1)] c162_18 rfl rfl rfl rfl rfl (ycanO km23 ko376) kn23 rfl rfl ?_
        refine y_aload 1 c23_0 rfl rfl rfl ?_
        refine y_iload 2 c23_1 rfl rfl ?_
        refine y_if 9 5 c23_2 rfl rfl (yz_eq (by omega)) (fun hb14836 => ?_) (fun hb14836 => ?_)
        · refine y_iload 10 c23_9 rfl rfl ?_
          refine y_putI 13 c23_10 rfl kf376_57 (y_fit0 _) ?_
          have hT14837 := hT.up 376 57 1 0 4 rfl (by omega)
          have hF14838 := hF.up 376 57 1 rfl
          refine y_iload 14 c23_13 rfl rfl ?_
          refine y_ireturnK c23_14 (y_fit1 (by omega)) ?_
          refine y_ireturnK c162_21 (y_fit1 (by omega)) ?_
          refine y_if 53 39 c171_36 rfl rfl (yz_eq (by omega)) (fun hb14839 => ?_) (fun hb14839 => ?_)
          · refine y_iconst 54 c171_53 rfl ?_
            exact y_ireturn c171_54 (y_fit0 _) ⟨_, rfl, rfl, hF14838, (hMI.fr hT14837 (fun a q ha => (yup_ne (by rintro ⟨rfl, rfl⟩; simp [vGq] at ha))))⟩
          · exfalso; omega
        · exfalso; omega
      · exfalso; omega
    · exfalso; omega
  · refine y_iload 8 c170_7 rfl rfl ?_
    refine y_iconst 9 c170_8 rfl ?_
    refine y_aload 10 c170_9 rfl rfl rfl ?_
    refine y_getR 13 c170_10 rfl kf376_21 ?_
    refine y_aload 14 c170_13 rfl rfl rfl ?_
    refine y_getX 17 (m 376 18) c170_14 rfl kf376_18 rfl ?_
    have tb14840 := hT.atp 376 18 0 1 rfl
    refine y_top 1 (by omega) ?_
    refine y_iaX 18 (m 384 1) c170_17 rfl ka384 (by decide) rfl ?_
    refine y_iconst 19 c170_18 rfl ?_
    refine y_isub 20 c170_19 rfl ?_
    refine y_callP 23 [yI b, yI 0, yI ((m 384 1) - 1)] [] c170_20 rfl rfl rfl rfl rfl (ycanS km22) (t22m (by omega) (by omega) (by omega)) (fun r14841 hr14841 => ?_)
    refine y_if 30 26 c170_23 rfl rfl (yz_eq (by omega)) (fun hb14842 => ?_) (fun hb14842 => ?_)
    · refine y_iconst 31 c170_30 rfl ?_
      refine y_ireturnK c170_31 (y_fit1 (by omega)) ?_
      refine y_if 32 9 c171_6 rfl rfl (yz_eq (by omega)) (fun hb14843 => ?_) (fun hb14843 => ?_)
      · refine y_iconst 33 c171_32 rfl ?_
        refine y_inlB 36 [.ref 376, yI 0] [] [some (.ref 376), some (yI 0)] c171_33 rfl rfl rfl rfl rfl (ycanO km162 ko376) kn162 rfl rfl ?_
        refine y_aload 1 c162_0 rfl rfl rfl ?_
        refine y_aload 2 c162_1 rfl rfl rfl ?_
        refine y_getX 5 (m 376 19) c162_2 rfl kf376_19 rfl ?_
        refine y_top 1 (by omega) ?_
        refine y_if 16 8 c162_5 rfl rfl (yz_eq (by omega)) (fun hb14844 => ?_) (fun hb14844 => ?_)
        · exfalso; omega
        · refine y_iload 9 c162_8 rfl rfl ?_
          refine y_if 16 12 c162_9 rfl rfl (yz_eq (by omega)) (fun hb14845 => ?_) (fun hb14845 => ?_)
          · refine y_iconst 17 c162_16 rfl ?_
            refine y_iconst 18 c162_17 rfl ?_
            refine y_inlB 21 [.ref 376, yI 0, yI 1] [] [some (.ref 376), some (yI 0), some (yI 1)] c162_18 rfl rfl rfl rfl rfl (ycanO km23 ko376) kn23 rfl rfl ?_
            refine y_aload 1 c23_0 rfl rfl rfl ?_
            refine y_iload 2 c23_1 rfl rfl ?_
            refine y_if 9 5 c23_2 rfl rfl (yz_eq (by omega)) (fun hb14846 => ?_) (fun hb14846 => ?_)
            · refine y_iload 10 c23_9 rfl rfl ?_
              refine y_putI 13 c23_10 rfl kf376_57 (y_fit0 _) ?_
              have hT14847 := hT.up 376 57 1 0 4 rfl (by omega)
              have hF14848 := hF.up 376 57 1 rfl
              refine y_iload 14 c23_13 rfl rfl ?_
              refine y_ireturnK c23_14 (y_fit1 (by omega)) ?_
              refine y_ireturnK c162_21 (y_fit1 (by omega)) ?_
              refine y_if 53 39 c171_36 rfl rfl (yz_eq (by omega)) (fun hb14849 => ?_) (fun hb14849 => ?_)
              · refine y_iconst 54 c171_53 rfl ?_
                exact y_ireturn c171_54 (y_fit0 _) ⟨_, rfl, rfl, hF14848, (hMI.fr hT14847 (fun a q ha => (yup_ne (by rintro ⟨rfl, rfl⟩; simp [vGq] at ha))))⟩
              · exfalso; omega
            · exfalso; omega
          · exfalso; omega
      · exfalso; omega
    · refine y_iconst 27 c170_26 rfl ?_
      refine y_goto 31 c170_27 rfl ?_
      refine y_ireturnK c170_31 (y_fit1 (by omega)) ?_
      refine y_if 32 9 c171_6 rfl rfl (yz_eq (by omega)) (fun hb14850 => ?_) (fun hb14850 => ?_)
      · exfalso; omega
      · refine y_iload 10 c171_9 rfl rfl ?_
        refine y_iconst 11 c171_10 rfl ?_
        refine y_aload 12 c171_11 rfl rfl rfl ?_
        refine y_getR 15 c171_12 rfl kf376_23 ?_
        refine y_aload 16 c171_15 rfl rfl rfl ?_
        refine y_getX 19 (m 376 18) c171_16 rfl kf376_18 rfl ?_
        refine y_top 1 (by omega) ?_
        refine y_iaX 20 (m 386 1) c171_19 rfl ka386 (by decide) rfl ?_
        refine y_iconst 21 c171_20 rfl ?_
        refine y_isub 22 c171_21 rfl ?_
        refine y_callP 25 [yI a, yI 0, yI ((m 386 1) - 1)] [.ref 376] c171_22 rfl rfl rfl rfl rfl (ycanS km22) (t22m (by omega) (by omega) (by omega)) (fun r14851 hr14851 => ?_)
        refine y_if 32 28 c171_25 rfl rfl (yz_eq (by omega)) (fun hb14852 => ?_) (fun hb14852 => ?_)
        · refine y_iconst 33 c171_32 rfl ?_
          refine y_inlB 36 [.ref 376, yI 0] [] [some (.ref 376), some (yI 0)] c171_33 rfl rfl rfl rfl rfl (ycanO km162 ko376) kn162 rfl rfl ?_
          refine y_aload 1 c162_0 rfl rfl rfl ?_
          refine y_aload 2 c162_1 rfl rfl rfl ?_
          refine y_getX 5 (m 376 19) c162_2 rfl kf376_19 rfl ?_
          refine y_top 1 (by omega) ?_
          refine y_if 16 8 c162_5 rfl rfl (yz_eq (by omega)) (fun hb14853 => ?_) (fun hb14853 => ?_)
          · exfalso; omega
          · refine y_iload 9 c162_8 rfl rfl ?_
            refine y_if 16 12 c162_9 rfl rfl (yz_eq (by omega)) (fun hb14854 => ?_) (fun hb14854 => ?_)
            · refine y_iconst 17 c162_16 rfl ?_
              refine y_iconst 18 c162_17 rfl ?_
              refine y_inlB 21 [.ref 376, yI 0, yI 1] [] [some (.ref 376), some (yI 0), some (yI 1)] c162_18 rfl rfl rfl rfl rfl (ycanO km23 ko376) kn23 rfl rfl ?_
              refine y_aload 1 c23_0 rfl rfl rfl ?_
              refine y_iload 2 c23_1 rfl rfl ?_
              refine y_if 9 5 c23_2 rfl rfl (yz_eq (by omega)) (fun hb14855 => ?_) (fun hb14855 => ?_)
              · refine y_iload 10 c23_9 rfl rfl ?_
                refine y_putI 13 c23_10 rfl kf376_57 (y_fit0 _) ?_
                have hT14856 := hT.up 376 57 1 0 4 rfl (by omega)
                have hF14857 := hF.up 376 57 1 rfl
                refine y_iload 14 c23_13 rfl rfl ?_
                refine y_ireturnK c23_14 (y_fit1 (by omega)) ?_
                refine y_ireturnK c162_21 (y_fit1 (by omega)) ?_
                refine y_if 53 39 c171_36 rfl rfl (yz_eq (by omega)) (fun hb14858 => ?_) (fun hb14858 => ?_)
                · refine y_iconst 54 c171_53 rfl ?_
                  exact y_ireturn c171_54 (y_fit0 _) ⟨_, rfl, rfl, hF14857, (hMI.fr hT14856 (fun a q ha => (yup_ne (by rintro ⟨rfl, rfl⟩; simp [vGq] at ha))))⟩
                · exfalso; omega
              · exfalso; omega
            · exfalso; omega
        · refine y_iconst 29 c171_28 rfl ?_
          refine y_goto 33 c171_29 rfl ?_
          refine y_inlB 36 [.ref 376, yI 1] [] [some (.ref 376), some (yI 1)] c171_33 rfl rfl rfl rfl rfl (ycanO km162 ko376) kn162 rfl rfl ?_
          refine y_aload 1 c162_0 rfl rfl rfl ?_
          refine y_aload 2 c162_1 rfl rfl rfl ?_
          refine y_getX 5 (m 376 19) c162_2 rfl kf376_19 rfl ?_
          refine y_top 1 (by omega) ?_
          refine y_if 16 8 c162_5 rfl rfl (yz_eq (by omega)) (fun hb14859 => ?_) (fun hb14859 => ?_)
          · exfalso; omega
          · refine y_iload 9 c162_8 rfl rfl ?_
            refine y_if 16 12 c162_9 rfl rfl (yz_eq (by omega)) (fun hb14860 => ?_) (fun hb14860 => ?_)
            · exfalso; omega
            · refine y_iconst 13 c162_12 rfl ?_
              refine y_goto 17 c162_13 rfl ?_
              refine y_iconst 18 c162_17 rfl ?_
              refine y_inlB 21 [.ref 376, yI 1, yI 1] [] [some (.ref 376), some (yI 1), some (yI 1)] c162_18 rfl rfl rfl rfl rfl (ycanO km23 ko376) kn23 rfl rfl ?_
              refine y_aload 1 c23_0 rfl rfl rfl ?_
              refine y_iload 2 c23_1 rfl rfl ?_
              refine y_if 9 5 c23_2 rfl rfl (yz_eq (by omega)) (fun hb14861 => ?_) (fun hb14861 => ?_)
              · exfalso; omega
              · refine y_iconst 6 c23_5 rfl ?_
                refine y_goto 10 c23_6 rfl ?_
                refine y_putI 13 c23_10 rfl kf376_57 (y_fit0 _) ?_
                have hT14862 := hT.up 376 57 0 0 4 rfl (by omega)
                have hF14863 := hF.up 376 57 0 rfl
                refine y_iload 14 c23_13 rfl rfl ?_
                refine y_ireturnK c23_14 (y_fit1 (by omega)) ?_
                refine y_ireturnK c162_21 (y_fit1 (by omega)) ?_
                refine y_if 53 39 c171_36 rfl rfl (yz_eq (by omega)) (fun hb14864 => ?_) (fun hb14864 => ?_)
                · exfalso; omega
                · refine y_aload 40 c171_39 rfl rfl rfl ?_
                  refine y_getR 43 c171_40 rfl kf376_43 ?_
                  refine y_iconst 45 c171_43 rfl ?_
                  refine y_iload 46 c171_45 rfl rfl ?_
                  refine y_imul 47 c171_46 rfl ?_
                  refine y_iload 48 c171_47 rfl rfl ?_
                  refine y_iadd 49 c171_48 rfl ?_
                  refine y_iaT 50 ((-2147483648)) 2147483647 c171_49 rfl ka406 (by omega) hT14862 rfl (fun v14865 hv14865 gv14865 => ?_)
                  refine y_goto 54 c171_50 rfl ?_
                  exact y_ireturn c171_54 (y_fit0 _) ⟨_, rfl, rfl, hF14863, (hMI.fr hT14862 (fun a q ha => (yup_ne (by rintro ⟨rfl, rfl⟩; simp [vGq] at ha))))⟩
set_option maxRecDepth 100000 in
theorem t174_1 {L : Nat} {xs : Nat → Int32} {d nn : Nat} {m : yM} (hT : Ty gT m) (hn : m 376 18 = 1) (hMI : MI m) {a : Int} (ra : -2147483648 ≤ a ∧ a < 2147483648) : YC (gZ L xs) (d + 6) 174 [.ref 376, yI a] m nn (qMd nn m) := by
  have tb383 := hT.atp 383 1 0 6 rfl
  have tb384 := hT.atp 384 1 0 10 rfl
  have tb385 := hT.atp 385 1 0 8 rfl
  have tb386 := hT.atp 386 1 0 12 rfl
  have tb387 := hT.atp 387 1 0 8 rfl
  have tb388 := hT.atp 388 1 0 12 rfl
  have tb389 := hT.atp 389 1 0 48 rfl
  have tb390 := hT.atp 390 1 0 125 rfl
  have t19 := hT.atp 376 19 0 1 rfl
  refine YC.mkB [some (.ref 376), some (yI a)] kn174 rfl rfl ?_
  have hF : Fr wML m m := Fr.rf
  refine y_aload 1 c174_0 rfl rfl rfl ?_
  refine y_aload 2 c174_1 rfl rfl rfl ?_
  refine y_iload 3 c174_2 rfl rfl ?_
  refine y_inlB 6 [.ref 376, yI a] [.ref 376] [some (.ref 376), some (yI a)] c174_3 rfl rfl rfl rfl rfl (ycanO km170 ko376) kn170 rfl rfl ?_
  refine y_aload 1 c170_0 rfl rfl rfl ?_
  refine y_getX 4 (m 376 19) c170_1 rfl kf376_19 rfl ?_
  refine y_if 30 7 c170_4 rfl rfl (yz_eq (by omega)) (fun hb14866 => ?_) (fun hb14866 => ?_)
  · refine y_iconst 31 c170_30 rfl ?_
    refine y_ireturnK c170_31 (y_fit1 (by omega)) ?_
    refine y_inlB 9 [.ref 376, yI 0] [] [some (.ref 376), some (yI 0)] c174_6 rfl rfl rfl rfl rfl (ycanO km162 ko376) kn162 rfl rfl ?_
    refine y_aload 1 c162_0 rfl rfl rfl ?_
    refine y_aload 2 c162_1 rfl rfl rfl ?_
    refine y_getX 5 (m 376 19) c162_2 rfl kf376_19 rfl ?_
    refine y_top 0 (by omega) ?_
    refine y_if 16 8 c162_5 rfl rfl (yz_eq (by omega)) (fun hb14867 => ?_) (fun hb14867 => ?_)
    · refine y_iconst 17 c162_16 rfl ?_
      refine y_iconst 18 c162_17 rfl ?_
      refine y_inlB 21 [.ref 376, yI 0, yI 1] [] [some (.ref 376), some (yI 0), some (yI 1)] c162_18 rfl rfl rfl rfl rfl (ycanO km23 ko376) kn23 rfl rfl ?_
      refine y_aload 1 c23_0 rfl rfl rfl ?_
      refine y_iload 2 c23_1 rfl rfl ?_
      refine y_if 9 5 c23_2 rfl rfl (yz_eq (by omega)) (fun hb14868 => ?_) (fun hb14868 => ?_)
      · refine y_iload 10 c23_9 rfl rfl ?_
        refine y_putI 13 c23_10 rfl kf376_57 (y_fit0 _) ?_
        have hT14869 := hT.up 376 57 1 0 4 rfl (by omega)
        have hF14870 := hF.up 376 57 1 rfl
        refine y_iload 14 c23_13 rfl rfl ?_
        refine y_ireturnK c23_14 (y_fit1 (by omega)) ?_
        refine y_ireturnK c162_21 (y_fit1 (by omega)) ?_
        refine y_if 21 12 c174_9 rfl rfl (yz_eq (by omega)) (fun hb14871 => ?_) (fun hb14871 => ?_)
        · refine y_iconst 22 c174_21 rfl ?_
          exact y_ireturn c174_22 (y_fit0 _) ⟨_, rfl, rfl, hF14870, (hMI.fr hT14869 (fun a q ha => (yup_ne (by rintro ⟨rfl, rfl⟩; simp [vGq] at ha))))⟩
        · exfalso; omega
      · exfalso; omega
    · exfalso; omega
  · refine y_iload 8 c170_7 rfl rfl ?_
    refine y_iconst 9 c170_8 rfl ?_
    refine y_aload 10 c170_9 rfl rfl rfl ?_
    refine y_getR 13 c170_10 rfl kf376_21 ?_
    refine y_aload 14 c170_13 rfl rfl rfl ?_
    refine y_getX 17 (m 376 18) c170_14 rfl kf376_18 rfl ?_
    have tb14872 := hT.atp 376 18 0 1 rfl
    refine y_top 1 (by omega) ?_
    refine y_iaX 18 (m 384 1) c170_17 rfl ka384 (by decide) rfl ?_
    refine y_iconst 19 c170_18 rfl ?_
    refine y_isub 20 c170_19 rfl ?_
    refine y_callP 23 [yI a, yI 0, yI ((m 384 1) - 1)] [] c170_20 rfl rfl rfl rfl rfl (ycanS km22) (t22m (by omega) (by omega) (by omega)) (fun r14873 hr14873 => ?_)
    refine y_if 30 26 c170_23 rfl rfl (yz_eq (by omega)) (fun hb14874 => ?_) (fun hb14874 => ?_)
    · refine y_iconst 31 c170_30 rfl ?_
      refine y_ireturnK c170_31 (y_fit1 (by omega)) ?_
      refine y_inlB 9 [.ref 376, yI 0] [] [some (.ref 376), some (yI 0)] c174_6 rfl rfl rfl rfl rfl (ycanO km162 ko376) kn162 rfl rfl ?_
      refine y_aload 1 c162_0 rfl rfl rfl ?_
      refine y_aload 2 c162_1 rfl rfl rfl ?_
      refine y_getX 5 (m 376 19) c162_2 rfl kf376_19 rfl ?_
      refine y_top 1 (by omega) ?_
      refine y_if 16 8 c162_5 rfl rfl (yz_eq (by omega)) (fun hb14875 => ?_) (fun hb14875 => ?_)
      · exfalso; omega
      · refine y_iload 9 c162_8 rfl rfl ?_
        refine y_if 16 12 c162_9 rfl rfl (yz_eq (by omega)) (fun hb14876 => ?_) (fun hb14876 => ?_)
        · refine y_iconst 17 c162_16 rfl ?_
          refine y_iconst 18 c162_17 rfl ?_
          refine y_inlB 21 [.ref 376, yI 0, yI 1] [] [some (.ref 376), some (yI 0), some (yI 1)] c162_18 rfl rfl rfl rfl rfl (ycanO km23 ko376) kn23 rfl rfl ?_
          refine y_aload 1 c23_0 rfl rfl rfl ?_
          refine y_iload 2 c23_1 rfl rfl ?_
          refine y_if 9 5 c23_2 rfl rfl (yz_eq (by omega)) (fun hb14877 => ?_) (fun hb14877 => ?_)
          · refine y_iload 10 c23_9 rfl rfl ?_
            refine y_putI 13 c23_10 rfl kf376_57 (y_fit0 _) ?_
            have hT14878 := hT.up 376 57 1 0 4 rfl (by omega)
            have hF14879 := hF.up 376 57 1 rfl
            refine y_iload 14 c23_13 rfl rfl ?_
            refine y_ireturnK c23_14 (y_fit1 (by omega)) ?_
            refine y_ireturnK c162_21 (y_fit1 (by omega)) ?_
            refine y_if 21 12 c174_9 rfl rfl (yz_eq (by omega)) (fun hb14880 => ?_) (fun hb14880 => ?_)
            · refine y_iconst 22 c174_21 rfl ?_
              exact y_ireturn c174_22 (y_fit0 _) ⟨_, rfl, rfl, hF14879, (hMI.fr hT14878 (fun a q ha => (yup_ne (by rintro ⟨rfl, rfl⟩; simp [vGq] at ha))))⟩
            · exfalso; omega
          · exfalso; omega
        · exfalso; omega
    · refine y_iconst 27 c170_26 rfl ?_
      refine y_goto 31 c170_27 rfl ?_
      refine y_ireturnK c170_31 (y_fit1 (by omega)) ?_
      refine y_inlB 9 [.ref 376, yI 1] [] [some (.ref 376), some (yI 1)] c174_6 rfl rfl rfl rfl rfl (ycanO km162 ko376) kn162 rfl rfl ?_
      refine y_aload 1 c162_0 rfl rfl rfl ?_
      refine y_aload 2 c162_1 rfl rfl rfl ?_
      refine y_getX 5 (m 376 19) c162_2 rfl kf376_19 rfl ?_
      refine y_top 1 (by omega) ?_
      refine y_if 16 8 c162_5 rfl rfl (yz_eq (by omega)) (fun hb14881 => ?_) (fun hb14881 => ?_)
      · exfalso; omega
      · refine y_iload 9 c162_8 rfl rfl ?_
        refine y_if 16 12 c162_9 rfl rfl (yz_eq (by omega)) (fun hb14882 => ?_) (fun hb14882 => ?_)
        · exfalso; omega
        · refine y_iconst 13 c162_12 rfl ?_
          refine y_goto 17 c162_13 rfl ?_
          refine y_iconst 18 c162_17 rfl ?_
          refine y_inlB 21 [.ref 376, yI 1, yI 1] [] [some (.ref 376), some (yI 1), some (yI 1)] c162_18 rfl rfl rfl rfl rfl (ycanO km23 ko376) kn23 rfl rfl ?_
          refine y_aload 1 c23_0 rfl rfl rfl ?_
          refine y_iload 2 c23_1 rfl rfl ?_
          refine y_if 9 5 c23_2 rfl rfl (yz_eq (by omega)) (fun hb14883 => ?_) (fun hb14883 => ?_)
          · exfalso; omega
          · refine y_iconst 6 c23_5 rfl ?_
            refine y_goto 10 c23_6 rfl ?_
            refine y_putI 13 c23_10 rfl kf376_57 (y_fit0 _) ?_
            have hT14884 := hT.up 376 57 0 0 4 rfl (by omega)
            have hF14885 := hF.up 376 57 0 rfl
            refine y_iload 14 c23_13 rfl rfl ?_
            refine y_ireturnK c23_14 (y_fit1 (by omega)) ?_
            refine y_ireturnK c162_21 (y_fit1 (by omega)) ?_
            refine y_if 21 12 c174_9 rfl rfl (yz_eq (by omega)) (fun hb14886 => ?_) (fun hb14886 => ?_)
            · exfalso; omega
            · refine y_aload 13 c174_12 rfl rfl rfl ?_
              refine y_getR 16 c174_13 rfl kf376_44 ?_
              refine y_iload 17 c174_16 rfl rfl ?_
              refine y_iaT 18 ((-2147483648)) 2147483647 c174_17 rfl ka407 (by omega) hT14884 rfl (fun v14887 hv14887 gv14887 => ?_)
              refine y_goto 22 c174_18 rfl ?_
              exact y_ireturn c174_22 (y_fit0 _) ⟨_, rfl, rfl, hF14885, (hMI.fr hT14884 (fun a q ha => (yup_ne (by rintro ⟨rfl, rfl⟩; simp [vGq] at ha))))⟩
set_option maxRecDepth 100000 in
theorem t185_1 {L : Nat} {xs : Nat → Int32} {d nn : Nat} {m : yM} (hT : Ty gT m) (hn : m 376 18 = 1) (hMI : MI m) {a : Int} (ra : -2147483648 ≤ a ∧ a < 2147483648) {b : Int} (rb : -2147483648 ≤ b ∧ b < 2147483648) : YC (gZ L xs) (d + 6) 185 [.ref 376, yI a, yI b] m nn (qMd nn m) := by
  have tb383 := hT.atp 383 1 0 6 rfl
  have tb384 := hT.atp 384 1 0 10 rfl
  have tb385 := hT.atp 385 1 0 8 rfl
  have tb386 := hT.atp 386 1 0 12 rfl
  have tb387 := hT.atp 387 1 0 8 rfl
  have tb388 := hT.atp 388 1 0 12 rfl
  have tb389 := hT.atp 389 1 0 48 rfl
  have tb390 := hT.atp 390 1 0 125 rfl
  have t19 := hT.atp 376 19 0 1 rfl
  refine YC.mkB [some (.ref 376), some (yI a), some (yI b), none] kn185 rfl rfl ?_
  have hF : Fr wML m m := Fr.rf
  refine y_aload 1 c185_0 rfl rfl rfl ?_
  refine y_aload 2 c185_1 rfl rfl rfl ?_
  refine y_iload 3 c185_2 rfl rfl ?_
  refine y_inlB 6 [.ref 376, yI a] [.ref 376] [some (.ref 376), some (yI a)] c185_3 rfl rfl rfl rfl rfl (ycanO km170 ko376) kn170 rfl rfl ?_
  refine y_aload 1 c170_0 rfl rfl rfl ?_
  refine y_getX 4 (m 376 19) c170_1 rfl kf376_19 rfl ?_
  refine y_if 30 7 c170_4 rfl rfl (yz_eq (by omega)) (fun hb14888 => ?_) (fun hb14888 => ?_)
  · refine y_iconst 31 c170_30 rfl ?_
    refine y_ireturnK c170_31 (y_fit1 (by omega)) ?_
    refine y_inlB 9 [.ref 376, yI 0] [] [some (.ref 376), some (yI 0)] c185_6 rfl rfl rfl rfl rfl (ycanO km162 ko376) kn162 rfl rfl ?_
    refine y_aload 1 c162_0 rfl rfl rfl ?_
    refine y_aload 2 c162_1 rfl rfl rfl ?_
    refine y_getX 5 (m 376 19) c162_2 rfl kf376_19 rfl ?_
    refine y_top 0 (by omega) ?_
    refine y_if 16 8 c162_5 rfl rfl (yz_eq (by omega)) (fun hb14889 => ?_) (fun hb14889 => ?_)
    · refine y_iconst 17 c162_16 rfl ?_
      refine y_iconst 18 c162_17 rfl ?_
      refine y_inlB 21 [.ref 376, yI 0, yI 1] [] [some (.ref 376), some (yI 0), some (yI 1)] c162_18 rfl rfl rfl rfl rfl (ycanO km23 ko376) kn23 rfl rfl ?_
      refine y_aload 1 c23_0 rfl rfl rfl ?_
      refine y_iload 2 c23_1 rfl rfl ?_
      refine y_if 9 5 c23_2 rfl rfl (yz_eq (by omega)) (fun hb14890 => ?_) (fun hb14890 => ?_)
      · refine y_iload 10 c23_9 rfl rfl ?_
        refine y_putI 13 c23_10 rfl kf376_57 (y_fit0 _) ?_
        have hT14891 := hT.up 376 57 1 0 4 rfl (by omega)
        have hF14892 := hF.up 376 57 1 rfl
        refine y_iload 14 c23_13 rfl rfl ?_
        refine y_ireturnK c23_14 (y_fit1 (by omega)) ?_
        refine y_ireturnK c162_21 (y_fit1 (by omega)) ?_
        refine y_if 14 12 c185_9 rfl rfl (yz_ne (by omega)) (fun hb14893 => ?_) (fun hb14893 => ?_)
        · exfalso; omega
        · refine y_iconst 13 c185_12 rfl ?_
          exact y_ireturn c185_13 (y_fit0 _) ⟨_, rfl, rfl, hF14892, (hMI.fr hT14891 (fun a q ha => (yup_ne (by rintro ⟨rfl, rfl⟩; simp [vGq] at ha))))⟩
      · exfalso; omega
    · exfalso; omega
  · refine y_iload 8 c170_7 rfl rfl ?_
    refine y_iconst 9 c170_8 rfl ?_
    refine y_aload 10 c170_9 rfl rfl rfl ?_
    refine y_getR 13 c170_10 rfl kf376_21 ?_
    refine y_aload 14 c170_13 rfl rfl rfl ?_
    refine y_getX 17 (m 376 18) c170_14 rfl kf376_18 rfl ?_
    have tb14894 := hT.atp 376 18 0 1 rfl
    refine y_top 1 (by omega) ?_
    refine y_iaX 18 (m 384 1) c170_17 rfl ka384 (by decide) rfl ?_
    refine y_iconst 19 c170_18 rfl ?_
    refine y_isub 20 c170_19 rfl ?_
    refine y_callP 23 [yI a, yI 0, yI ((m 384 1) - 1)] [] c170_20 rfl rfl rfl rfl rfl (ycanS km22) (t22m (by omega) (by omega) (by omega)) (fun r14895 hr14895 => ?_)
    refine y_if 30 26 c170_23 rfl rfl (yz_eq (by omega)) (fun hb14896 => ?_) (fun hb14896 => ?_)
    · refine y_iconst 31 c170_30 rfl ?_
      refine y_ireturnK c170_31 (y_fit1 (by omega)) ?_
      refine y_inlB 9 [.ref 376, yI 0] [] [some (.ref 376), some (yI 0)] c185_6 rfl rfl rfl rfl rfl (ycanO km162 ko376) kn162 rfl rfl ?_
      refine y_aload 1 c162_0 rfl rfl rfl ?_
      refine y_aload 2 c162_1 rfl rfl rfl ?_
      refine y_getX 5 (m 376 19) c162_2 rfl kf376_19 rfl ?_
      refine y_top 1 (by omega) ?_
      refine y_if 16 8 c162_5 rfl rfl (yz_eq (by omega)) (fun hb14897 => ?_) (fun hb14897 => ?_)
      · exfalso; omega
      · refine y_iload 9 c162_8 rfl rfl ?_
        refine y_if 16 12 c162_9 rfl rfl (yz_eq (by omega)) (fun hb14898 => ?_) (fun hb14898 => ?_)
        · refine y_iconst 17 c162_16 rfl ?_
          refine y_iconst 18 c162_17 rfl ?_
          refine y_inlB 21 [.ref 376, yI 0, yI 1] [] [some (.ref 376), some (yI 0), some (yI 1)] c162_18 rfl rfl rfl rfl rfl (ycanO km23 ko376) kn23 rfl rfl ?_
          refine y_aload 1 c23_0 rfl rfl rfl ?_
          refine y_iload 2 c23_1 rfl rfl ?_
          refine y_if 9 5 c23_2 rfl rfl (yz_eq (by omega)) (fun hb14899 => ?_) (fun hb14899 => ?_)
          · refine y_iload 10 c23_9 rfl rfl ?_
            refine y_putI 13 c23_10 rfl kf376_57 (y_fit0 _) ?_
            have hT14900 := hT.up 376 57 1 0 4 rfl (by omega)
            have hF14901 := hF.up 376 57 1 rfl
            refine y_iload 14 c23_13 rfl rfl ?_
            refine y_ireturnK c23_14 (y_fit1 (by omega)) ?_
            refine y_ireturnK c162_21 (y_fit1 (by omega)) ?_
            refine y_if 14 12 c185_9 rfl rfl (yz_ne (by omega)) (fun hb14902 => ?_) (fun hb14902 => ?_)
            · exfalso; omega
            · refine y_iconst 13 c185_12 rfl ?_
              exact y_ireturn c185_13 (y_fit0 _) ⟨_, rfl, rfl, hF14901, (hMI.fr hT14900 (fun a q ha => (yup_ne (by rintro ⟨rfl, rfl⟩; simp [vGq] at ha))))⟩
          · exfalso; omega
        · exfalso; omega
    · refine y_iconst 27 c170_26 rfl ?_
      refine y_goto 31 c170_27 rfl ?_
      refine y_ireturnK c170_31 (y_fit1 (by omega)) ?_
      refine y_inlB 9 [.ref 376, yI 1] [] [some (.ref 376), some (yI 1)] c185_6 rfl rfl rfl rfl rfl (ycanO km162 ko376) kn162 rfl rfl ?_
      refine y_aload 1 c162_0 rfl rfl rfl ?_
      refine y_aload 2 c162_1 rfl rfl rfl ?_
      refine y_getX 5 (m 376 19) c162_2 rfl kf376_19 rfl ?_
      refine y_top 1 (by omega) ?_
      refine y_if 16 8 c162_5 rfl rfl (yz_eq (by omega)) (fun hb14903 => ?_) (fun hb14903 => ?_)
      · exfalso; omega
      · refine y_iload 9 c162_8 rfl rfl ?_
        refine y_if 16 12 c162_9 rfl rfl (yz_eq (by omega)) (fun hb14904 => ?_) (fun hb14904 => ?_)
        · exfalso; omega
        · refine y_iconst 13 c162_12 rfl ?_
          refine y_goto 17 c162_13 rfl ?_
          refine y_iconst 18 c162_17 rfl ?_
          refine y_inlB 21 [.ref 376, yI 1, yI 1] [] [some (.ref 376), some (yI 1), some (yI 1)] c162_18 rfl rfl rfl rfl rfl (ycanO km23 ko376) kn23 rfl rfl ?_
          refine y_aload 1 c23_0 rfl rfl rfl ?_
          refine y_iload 2 c23_1 rfl rfl ?_
          refine y_if 9 5 c23_2 rfl rfl (yz_eq (by omega)) (fun hb14905 => ?_) (fun hb14905 => ?_)
          · exfalso; omega
          · refine y_iconst 6 c23_5 rfl ?_
            refine y_goto 10 c23_6 rfl ?_
            refine y_putI 13 c23_10 rfl kf376_57 (y_fit0 _) ?_
            have hT14906 := hT.up 376 57 0 0 4 rfl (by omega)
            have hF14907 := hF.up 376 57 0 rfl
            refine y_iload 14 c23_13 rfl rfl ?_
            refine y_ireturnK c23_14 (y_fit1 (by omega)) ?_
            refine y_ireturnK c162_21 (y_fit1 (by omega)) ?_
            refine y_if 14 12 c185_9 rfl rfl (yz_ne (by omega)) (fun hb14908 => ?_) (fun hb14908 => ?_)
            · refine y_aload 15 c185_14 rfl rfl rfl ?_
              refine y_iload 16 c185_15 rfl rfl ?_
              refine y_iconst 17 c185_16 rfl ?_
              refine y_iconst 18 c185_17 rfl ?_
              refine y_callP 21 [yI b, yI 0, yI 4] [.ref 376] c185_18 rfl rfl rfl rfl rfl (ycanS km22) (t22m (by omega) (by omega) (by omega)) (fun r14909 hr14909 => ?_)
              refine y_iconst 22 c185_21 rfl ?_
              refine y_inlB 25 [.ref 376, yI r14909, yI 2] [] [some (.ref 376), some (yI r14909), some (yI 2)] c185_22 rfl rfl rfl rfl rfl (ycanO km23 ko376) kn23 rfl rfl ?_
              refine y_aload 1 c23_0 rfl rfl rfl ?_
              refine y_iload 2 c23_1 rfl rfl ?_
              refine y_if 9 5 c23_2 rfl rfl (yz_eq (by omega)) (fun hb14910 => ?_) (fun hb14910 => ?_)
              · refine y_iload 10 c23_9 rfl rfl ?_
                refine y_putI 13 c23_10 rfl kf376_57 (y_fit0 _) ?_
                have hT14911 := hT14906.up 376 57 2 0 4 rfl (by omega)
                have hF14912 := hF14907.up 376 57 2 rfl
                refine y_iload 14 c23_13 rfl rfl ?_
                refine y_ireturnK c23_14 (y_fit1 (by omega)) ?_
                refine y_if 30 28 c185_25 rfl rfl (yz_ne (by omega)) (fun hb14913 => ?_) (fun hb14913 => ?_)
                · exfalso; omega
                · refine y_iconst 29 c185_28 rfl ?_
                  exact y_ireturn c185_29 (y_fit0 _) ⟨_, rfl, rfl, hF14912, (hMI.fr hT14911 (fun a q ha => ((yup_ne (by rintro ⟨rfl, rfl⟩; simp [vGq] at ha)).trans (yup_ne (by rintro ⟨rfl, rfl⟩; simp [vGq] at ha)))))⟩
              · refine y_iconst 6 c23_5 rfl ?_
                refine y_goto 10 c23_6 rfl ?_
                refine y_putI 13 c23_10 rfl kf376_57 (y_fit0 _) ?_
                have hT14914 := hT14906.up 376 57 0 0 4 rfl (by omega)
                have hF14915 := hF14907.up 376 57 0 rfl
                refine y_iload 14 c23_13 rfl rfl ?_
                refine y_ireturnK c23_14 (y_fit1 (by omega)) ?_
                refine y_if 30 28 c185_25 rfl rfl (yz_ne (by omega)) (fun hb14916 => ?_) (fun hb14916 => ?_)
                · refine y_iconst 32 c185_30 rfl ?_
                  refine y_aload 33 c185_32 rfl rfl rfl ?_
                  refine y_getX 36 (m 376 18) c185_33 rfl kf376_18 rfl ?_
                  refine y_top 1 (by omega) ?_
                  refine y_imul 37 c185_36 rfl ?_
                  refine y_top 10 (by decide) ?_
                  refine y_iload 38 c185_37 rfl rfl ?_
                  refine y_iadd 39 c185_38 rfl ?_
                  refine y_istore 40 c185_39 rfl rfl ?_
                  refine y_iload 41 c185_40 rfl rfl ?_
                  refine y_iconst 42 c185_41 rfl ?_
                  refine y_icmp 52 45 c185_42 rfl rfl (yc_ne (by omega) (by omega)) (fun hb14917 => ?_) (fun hb14917 => ?_)
                  · refine y_iload 53 c185_52 rfl rfl ?_
                    refine y_iconst 54 c185_53 rfl ?_
                    refine y_isub 55 c185_54 rfl ?_
                    refine y_aload 56 c185_55 rfl rfl rfl ?_
                    refine y_getR 59 c185_56 rfl kf376_34 ?_
                    refine y_iload 60 c185_59 rfl rfl ?_
                    refine y_iaT 61 0 2 c185_60 rfl ka397 (by omega) hT14914 rfl (fun v14918 hv14918 gv14918 => ?_)
                    refine y_icmp 75 64 c185_61 rfl rfl (yc_ge (by omega) (by omega)) (fun hb14919 => ?_) (fun hb14919 => ?_)
                    · refine y_iconst 76 c185_75 rfl ?_
                      exact y_ireturn c185_76 (y_fit0 _) ⟨_, rfl, rfl, hF14915, (hMI.fr hT14914 (fun a q ha => ((yup_ne (by rintro ⟨rfl, rfl⟩; simp [vGq] at ha)).trans (yup_ne (by rintro ⟨rfl, rfl⟩; simp [vGq] at ha)))))⟩
                    · refine y_aload 65 c185_64 rfl rfl rfl ?_
                      refine y_getR 68 c185_65 rfl kf376_35 ?_
                      refine y_iload 69 c185_68 rfl rfl ?_
                      refine y_iaT 70 0 46 c185_69 rfl ka398 (by omega) hT14914 rfl (fun v14920 hv14920 gv14920 => ?_)
                      refine y_iload 71 c185_70 rfl rfl ?_
                      refine y_iadd 72 c185_71 rfl ?_
                      refine y_goto 76 c185_72 rfl ?_
                      exact y_ireturn c185_76 (y_fit0 _) ⟨_, rfl, rfl, hF14915, (hMI.fr hT14914 (fun a q ha => ((yup_ne (by rintro ⟨rfl, rfl⟩; simp [vGq] at ha)).trans (yup_ne (by rintro ⟨rfl, rfl⟩; simp [vGq] at ha)))))⟩
                  · refine y_aload 46 c185_45 rfl rfl rfl ?_
                    refine y_getR 49 c185_46 rfl kf376_33 ?_
                    refine y_iload 50 c185_49 rfl rfl ?_
                    refine y_iaT 51 0 5 c185_50 rfl ka396 (by omega) hT14914 rfl (fun v14921 hv14921 gv14921 => ?_)
                    exact y_ireturn c185_51 (y_fit0 _) ⟨_, rfl, rfl, hF14915, (hMI.fr hT14914 (fun a q ha => ((yup_ne (by rintro ⟨rfl, rfl⟩; simp [vGq] at ha)).trans (yup_ne (by rintro ⟨rfl, rfl⟩; simp [vGq] at ha)))))⟩
                · exfalso; omega
            · exfalso; omega
set_option maxRecDepth 100000 in
theorem t214_1 {L : Nat} {xs : Nat → Int32} {d nn : Nat} {m : yM} (hT : Ty gT m) (hn : m 376 18 = 1) (hMI : MI m) {a : Int} (ra : -2147483648 ≤ a ∧ a < 2147483648) {b : Int} (rb : -2147483648 ≤ b ∧ b < 2147483648) : YC (gZ L xs) (d + 6) 214 [.ref 376, yI a, yI b] m nn (qMd nn m) := by
  have tb383 := hT.atp 383 1 0 6 rfl
  have tb384 := hT.atp 384 1 0 10 rfl
  have tb385 := hT.atp 385 1 0 8 rfl
  have tb386 := hT.atp 386 1 0 12 rfl
  have tb387 := hT.atp 387 1 0 8 rfl
  have tb388 := hT.atp 388 1 0 12 rfl
  have tb389 := hT.atp 389 1 0 48 rfl
  have tb390 := hT.atp 390 1 0 125 rfl
  have t19 := hT.atp 376 19 0 1 rfl
  refine YC.mkB [some (.ref 376), some (yI a), some (yI b)] kn214 rfl rfl ?_
  have hF : Fr wML m m := Fr.rf
  refine y_aload 1 c214_0 rfl rfl rfl ?_
  refine y_aload 2 c214_1 rfl rfl rfl ?_
  refine y_iload 3 c214_2 rfl rfl ?_
  refine y_inlB 6 [.ref 376, yI a] [.ref 376] [some (.ref 376), some (yI a)] c214_3 rfl rfl rfl rfl rfl (ycanO km160 ko376) kn160 rfl rfl ?_
  refine y_aload 1 c160_0 rfl rfl rfl ?_
  refine y_getX 4 (m 376 19) c160_1 rfl kf376_19 rfl ?_
  refine y_if 30 7 c160_4 rfl rfl (yz_eq (by omega)) (fun hb14922 => ?_) (fun hb14922 => ?_)
  · refine y_iconst 31 c160_30 rfl ?_
    refine y_ireturnK c160_31 (y_fit1 (by omega)) ?_
    refine y_if 21 9 c214_6 rfl rfl (yz_eq (by omega)) (fun hb14923 => ?_) (fun hb14923 => ?_)
    · refine y_iconst 22 c214_21 rfl ?_
      refine y_inlB 25 [.ref 376, yI 0] [] [some (.ref 376), some (yI 0)] c214_22 rfl rfl rfl rfl rfl (ycanO km162 ko376) kn162 rfl rfl ?_
      refine y_aload 1 c162_0 rfl rfl rfl ?_
      refine y_aload 2 c162_1 rfl rfl rfl ?_
      refine y_getX 5 (m 376 19) c162_2 rfl kf376_19 rfl ?_
      refine y_top 0 (by omega) ?_
      refine y_if 16 8 c162_5 rfl rfl (yz_eq (by omega)) (fun hb14924 => ?_) (fun hb14924 => ?_)
      · refine y_iconst 17 c162_16 rfl ?_
        refine y_iconst 18 c162_17 rfl ?_
        refine y_inlB 21 [.ref 376, yI 0, yI 1] [] [some (.ref 376), some (yI 0), some (yI 1)] c162_18 rfl rfl rfl rfl rfl (ycanO km23 ko376) kn23 rfl rfl ?_
        refine y_aload 1 c23_0 rfl rfl rfl ?_
        refine y_iload 2 c23_1 rfl rfl ?_
        refine y_if 9 5 c23_2 rfl rfl (yz_eq (by omega)) (fun hb14925 => ?_) (fun hb14925 => ?_)
        · refine y_iload 10 c23_9 rfl rfl ?_
          refine y_putI 13 c23_10 rfl kf376_57 (y_fit0 _) ?_
          have hT14926 := hT.up 376 57 1 0 4 rfl (by omega)
          have hF14927 := hF.up 376 57 1 rfl
          refine y_iload 14 c23_13 rfl rfl ?_
          refine y_ireturnK c23_14 (y_fit1 (by omega)) ?_
          refine y_ireturnK c162_21 (y_fit1 (by omega)) ?_
          refine y_if 46 28 c214_25 rfl rfl (yz_eq (by omega)) (fun hb14928 => ?_) (fun hb14928 => ?_)
          · refine y_iconst 47 c214_46 rfl ?_
            exact y_ireturn c214_47 (y_fit0 _) ⟨_, rfl, rfl, hF14927, (hMI.fr hT14926 (fun a q ha => (yup_ne (by rintro ⟨rfl, rfl⟩; simp [vGq] at ha))))⟩
          · exfalso; omega
        · exfalso; omega
      · exfalso; omega
    · exfalso; omega
  · refine y_iload 8 c160_7 rfl rfl ?_
    refine y_iconst 9 c160_8 rfl ?_
    refine y_aload 10 c160_9 rfl rfl rfl ?_
    refine y_getR 13 c160_10 rfl kf376_26 ?_
    refine y_aload 14 c160_13 rfl rfl rfl ?_
    refine y_getX 17 (m 376 18) c160_14 rfl kf376_18 rfl ?_
    have tb14929 := hT.atp 376 18 0 1 rfl
    refine y_top 1 (by omega) ?_
    refine y_iaX 18 (m 389 1) c160_17 rfl ka389 (by decide) rfl ?_
    refine y_iconst 19 c160_18 rfl ?_
    refine y_isub 20 c160_19 rfl ?_
    refine y_callP 23 [yI a, yI 0, yI ((m 389 1) - 1)] [] c160_20 rfl rfl rfl rfl rfl (ycanS km22) (t22m (by omega) (by omega) (by omega)) (fun r14930 hr14930 => ?_)
    refine y_if 30 26 c160_23 rfl rfl (yz_eq (by omega)) (fun hb14931 => ?_) (fun hb14931 => ?_)
    · refine y_iconst 31 c160_30 rfl ?_
      refine y_ireturnK c160_31 (y_fit1 (by omega)) ?_
      refine y_if 21 9 c214_6 rfl rfl (yz_eq (by omega)) (fun hb14932 => ?_) (fun hb14932 => ?_)
      · refine y_iconst 22 c214_21 rfl ?_
        refine y_inlB 25 [.ref 376, yI 0] [] [some (.ref 376), some (yI 0)] c214_22 rfl rfl rfl rfl rfl (ycanO km162 ko376) kn162 rfl rfl ?_
        refine y_aload 1 c162_0 rfl rfl rfl ?_
        refine y_aload 2 c162_1 rfl rfl rfl ?_
        refine y_getX 5 (m 376 19) c162_2 rfl kf376_19 rfl ?_
        refine y_top 1 (by omega) ?_
        refine y_if 16 8 c162_5 rfl rfl (yz_eq (by omega)) (fun hb14933 => ?_) (fun hb14933 => ?_)
        · exfalso; omega
        · refine y_iload 9 c162_8 rfl rfl ?_
          refine y_if 16 12 c162_9 rfl rfl (yz_eq (by omega)) (fun hb14934 => ?_) (fun hb14934 => ?_)
          · refine y_iconst 17 c162_16 rfl ?_
            refine y_iconst 18 c162_17 rfl ?_
            refine y_inlB 21 [.ref 376, yI 0, yI 1] [] [some (.ref 376), some (yI 0), some (yI 1)] c162_18 rfl rfl rfl rfl rfl (ycanO km23 ko376) kn23 rfl rfl ?_
            refine y_aload 1 c23_0 rfl rfl rfl ?_
            refine y_iload 2 c23_1 rfl rfl ?_
            refine y_if 9 5 c23_2 rfl rfl (yz_eq (by omega)) (fun hb14935 => ?_) (fun hb14935 => ?_)
            · refine y_iload 10 c23_9 rfl rfl ?_
              refine y_putI 13 c23_10 rfl kf376_57 (y_fit0 _) ?_
              have hT14936 := hT.up 376 57 1 0 4 rfl (by omega)
              have hF14937 := hF.up 376 57 1 rfl
              refine y_iload 14 c23_13 rfl rfl ?_
              refine y_ireturnK c23_14 (y_fit1 (by omega)) ?_
              refine y_ireturnK c162_21 (y_fit1 (by omega)) ?_
              refine y_if 46 28 c214_25 rfl rfl (yz_eq (by omega)) (fun hb14938 => ?_) (fun hb14938 => ?_)
              · refine y_iconst 47 c214_46 rfl ?_
                exact y_ireturn c214_47 (y_fit0 _) ⟨_, rfl, rfl, hF14937, (hMI.fr hT14936 (fun a q ha => (yup_ne (by rintro ⟨rfl, rfl⟩; simp [vGq] at ha))))⟩
              · exfalso; omega
            · exfalso; omega
          · exfalso; omega
      · exfalso; omega
    · refine y_iconst 27 c160_26 rfl ?_
      refine y_goto 31 c160_27 rfl ?_
      refine y_ireturnK c160_31 (y_fit1 (by omega)) ?_
      refine y_if 21 9 c214_6 rfl rfl (yz_eq (by omega)) (fun hb14939 => ?_) (fun hb14939 => ?_)
      · exfalso; omega
      · refine y_aload 10 c214_9 rfl rfl rfl ?_
        refine y_iload 11 c214_10 rfl rfl ?_
        refine y_inlB 14 [.ref 376, yI b] [.ref 376] [some (.ref 376), some (yI b)] c214_11 rfl rfl rfl rfl rfl (ycanO km161 ko376) kn161 rfl rfl ?_
        refine y_aload 1 c161_0 rfl rfl rfl ?_
        refine y_getX 4 (m 376 19) c161_1 rfl kf376_19 rfl ?_
        refine y_top 1 (by omega) ?_
        refine y_if 30 7 c161_4 rfl rfl (yz_eq (by omega)) (fun hb14940 => ?_) (fun hb14940 => ?_)
        · exfalso; omega
        · refine y_iload 8 c161_7 rfl rfl ?_
          refine y_iconst 9 c161_8 rfl ?_
          refine y_aload 10 c161_9 rfl rfl rfl ?_
          refine y_getR 13 c161_10 rfl kf376_25 ?_
          refine y_aload 14 c161_13 rfl rfl rfl ?_
          refine y_getX 17 (m 376 18) c161_14 rfl kf376_18 rfl ?_
          refine y_top 1 (by omega) ?_
          refine y_iaX 18 (m 388 1) c161_17 rfl ka388 (by decide) rfl ?_
          refine y_iconst 19 c161_18 rfl ?_
          refine y_isub 20 c161_19 rfl ?_
          refine y_callP 23 [yI b, yI 0, yI ((m 388 1) - 1)] [] c161_20 rfl rfl rfl rfl rfl (ycanS km22) (t22m (by omega) (by omega) (by omega)) (fun r14941 hr14941 => ?_)
          refine y_if 30 26 c161_23 rfl rfl (yz_eq (by omega)) (fun hb14942 => ?_) (fun hb14942 => ?_)
          · refine y_iconst 31 c161_30 rfl ?_
            refine y_ireturnK c161_31 (y_fit1 (by omega)) ?_
            refine y_if 21 17 c214_14 rfl rfl (yz_eq (by omega)) (fun hb14943 => ?_) (fun hb14943 => ?_)
            · refine y_iconst 22 c214_21 rfl ?_
              refine y_inlB 25 [.ref 376, yI 0] [] [some (.ref 376), some (yI 0)] c214_22 rfl rfl rfl rfl rfl (ycanO km162 ko376) kn162 rfl rfl ?_
              refine y_aload 1 c162_0 rfl rfl rfl ?_
              refine y_aload 2 c162_1 rfl rfl rfl ?_
              refine y_getX 5 (m 376 19) c162_2 rfl kf376_19 rfl ?_
              refine y_top 1 (by omega) ?_
              refine y_if 16 8 c162_5 rfl rfl (yz_eq (by omega)) (fun hb14944 => ?_) (fun hb14944 => ?_)
              · exfalso; omega
              · refine y_iload 9 c162_8 rfl rfl ?_
                refine y_if 16 12 c162_9 rfl rfl (yz_eq (by omega)) (fun hb14945 => ?_) (fun hb14945 => ?_)
                · refine y_iconst 17 c162_16 rfl ?_
                  refine y_iconst 18 c162_17 rfl ?_
                  refine y_inlB 21 [.ref 376, yI 0, yI 1] [] [some (.ref 376), some (yI 0), some (yI 1)] c162_18 rfl rfl rfl rfl rfl (ycanO km23 ko376) kn23 rfl rfl ?_
                  refine y_aload 1 c23_0 rfl rfl rfl ?_
                  refine y_iload 2 c23_1 rfl rfl ?_
                  refine y_if 9 5 c23_2 rfl rfl (yz_eq (by omega)) (fun hb14946 => ?_) (fun hb14946 => ?_)
                  · refine y_iload 10 c23_9 rfl rfl ?_
                    refine y_putI 13 c23_10 rfl kf376_57 (y_fit0 _) ?_
                    have hT14947 := hT.up 376 57 1 0 4 rfl (by omega)
                    have hF14948 := hF.up 376 57 1 rfl
                    refine y_iload 14 c23_13 rfl rfl ?_
                    refine y_ireturnK c23_14 (y_fit1 (by omega)) ?_
                    refine y_ireturnK c162_21 (y_fit1 (by omega)) ?_
                    refine y_if 46 28 c214_25 rfl rfl (yz_eq (by omega)) (fun hb14949 => ?_) (fun hb14949 => ?_)
                    · refine y_iconst 47 c214_46 rfl ?_
                      exact y_ireturn c214_47 (y_fit0 _) ⟨_, rfl, rfl, hF14948, (hMI.fr hT14947 (fun a q ha => (yup_ne (by rintro ⟨rfl, rfl⟩; simp [vGq] at ha))))⟩
                    · exfalso; omega
                  · exfalso; omega
                · exfalso; omega
            · exfalso; omega
          · refine y_iconst 27 c161_26 rfl ?_
            refine y_goto 31 c161_27 rfl ?_
            refine y_ireturnK c161_31 (y_fit1 (by omega)) ?_
            refine y_if 21 17 c214_14 rfl rfl (yz_eq (by omega)) (fun hb14950 => ?_) (fun hb14950 => ?_)
            · exfalso; omega
            · refine y_iconst 18 c214_17 rfl ?_
              refine y_goto 22 c214_18 rfl ?_
              refine y_inlB 25 [.ref 376, yI 1] [] [some (.ref 376), some (yI 1)] c214_22 rfl rfl rfl rfl rfl (ycanO km162 ko376) kn162 rfl rfl ?_
              refine y_aload 1 c162_0 rfl rfl rfl ?_
              refine y_aload 2 c162_1 rfl rfl rfl ?_
              refine y_getX 5 (m 376 19) c162_2 rfl kf376_19 rfl ?_
              refine y_top 1 (by omega) ?_
              refine y_if 16 8 c162_5 rfl rfl (yz_eq (by omega)) (fun hb14951 => ?_) (fun hb14951 => ?_)
              · exfalso; omega
              · refine y_iload 9 c162_8 rfl rfl ?_
                refine y_if 16 12 c162_9 rfl rfl (yz_eq (by omega)) (fun hb14952 => ?_) (fun hb14952 => ?_)
                · exfalso; omega
                · refine y_iconst 13 c162_12 rfl ?_
                  refine y_goto 17 c162_13 rfl ?_
                  refine y_iconst 18 c162_17 rfl ?_
                  refine y_inlB 21 [.ref 376, yI 1, yI 1] [] [some (.ref 376), some (yI 1), some (yI 1)] c162_18 rfl rfl rfl rfl rfl (ycanO km23 ko376) kn23 rfl rfl ?_
                  refine y_aload 1 c23_0 rfl rfl rfl ?_
                  refine y_iload 2 c23_1 rfl rfl ?_
                  refine y_if 9 5 c23_2 rfl rfl (yz_eq (by omega)) (fun hb14953 => ?_) (fun hb14953 => ?_)
                  · exfalso; omega
                  · refine y_iconst 6 c23_5 rfl ?_
                    refine y_goto 10 c23_6 rfl ?_
                    refine y_putI 13 c23_10 rfl kf376_57 (y_fit0 _) ?_
                    have hT14954 := hT.up 376 57 0 0 4 rfl (by omega)
                    have hF14955 := hF.up 376 57 0 rfl
                    refine y_iload 14 c23_13 rfl rfl ?_
                    refine y_ireturnK c23_14 (y_fit1 (by omega)) ?_
                    refine y_ireturnK c162_21 (y_fit1 (by omega)) ?_
                    refine y_if 46 28 c214_25 rfl rfl (yz_eq (by omega)) (fun hb14956 => ?_) (fun hb14956 => ?_)
                    · exfalso; omega
                    · refine y_aload 29 c214_28 rfl rfl rfl ?_
                      refine y_getR 32 c214_29 rfl kf376_48 ?_
                      refine y_iconst 34 c214_32 rfl ?_
                      refine y_iload 35 c214_34 rfl rfl ?_
                      refine y_imul 36 c214_35 rfl ?_
                      refine y_iload 37 c214_36 rfl rfl ?_
                      refine y_iadd 38 c214_37 rfl ?_
                      refine y_iaT 39 0 1 c214_38 rfl ka408 (by omega) hT14954 rfl (fun v14957 hv14957 gv14957 => ?_)
                      refine y_if 46 42 c214_39 rfl rfl (yz_eq (by omega)) (fun hb14958 => ?_) (fun hb14958 => ?_)
                      · refine y_iconst 47 c214_46 rfl ?_
                        exact y_ireturn c214_47 (y_fit0 _) ⟨_, rfl, rfl, hF14955, (hMI.fr hT14954 (fun a q ha => (yup_ne (by rintro ⟨rfl, rfl⟩; simp [vGq] at ha))))⟩
                      · refine y_iconst 43 c214_42 rfl ?_
                        refine y_goto 47 c214_43 rfl ?_
                        exact y_ireturn c214_47 (y_fit0 _) ⟨_, rfl, rfl, hF14955, (hMI.fr hT14954 (fun a q ha => (yup_ne (by rintro ⟨rfl, rfl⟩; simp [vGq] at ha))))⟩
set_option maxRecDepth 100000 in
theorem t217_1 {L : Nat} {xs : Nat → Int32} {d nn : Nat} {m : yM} (hT : Ty gT m) (hn : m 376 18 = 1) (hMI : MI m) {a : Int} (ra : -2147483648 ≤ a ∧ a < 2147483648) : YC (gZ L xs) (d + 6) 217 [.ref 376, yI a] m nn (qMd nn m) := by
  have tb383 := hT.atp 383 1 0 6 rfl
  have tb384 := hT.atp 384 1 0 10 rfl
  have tb385 := hT.atp 385 1 0 8 rfl
  have tb386 := hT.atp 386 1 0 12 rfl
  have tb387 := hT.atp 387 1 0 8 rfl
  have tb388 := hT.atp 388 1 0 12 rfl
  have tb389 := hT.atp 389 1 0 48 rfl
  have tb390 := hT.atp 390 1 0 125 rfl
  have t19 := hT.atp 376 19 0 1 rfl
  refine YC.mkB [some (.ref 376), some (yI a)] kn217 rfl rfl ?_
  have hF : Fr wML m m := Fr.rf
  refine y_aload 1 c217_0 rfl rfl rfl ?_
  refine y_iload 2 c217_1 rfl rfl ?_
  refine y_iconst 3 c217_2 rfl ?_
  refine y_iconst 5 c217_3 rfl ?_
  refine y_callP 8 [yI a, yI 0, yI 9] [.ref 376] c217_5 rfl rfl rfl rfl rfl (ycanS km22) (t22m (by omega) (by omega) (by omega)) (fun r14959 hr14959 => ?_)
  refine y_iconst 9 c217_8 rfl ?_
  refine y_inlB 12 [.ref 376, yI r14959, yI 1] [] [some (.ref 376), some (yI r14959), some (yI 1)] c217_9 rfl rfl rfl rfl rfl (ycanO km23 ko376) kn23 rfl rfl ?_
  refine y_aload 1 c23_0 rfl rfl rfl ?_
  refine y_iload 2 c23_1 rfl rfl ?_
  refine y_if 9 5 c23_2 rfl rfl (yz_eq (by omega)) (fun hb14960 => ?_) (fun hb14960 => ?_)
  · refine y_iload 10 c23_9 rfl rfl ?_
    refine y_putI 13 c23_10 rfl kf376_57 (y_fit0 _) ?_
    have hT14961 := hT.up 376 57 1 0 4 rfl (by omega)
    have hF14962 := hF.up 376 57 1 rfl
    refine y_iload 14 c23_13 rfl rfl ?_
    refine y_ireturnK c23_14 (y_fit1 (by omega)) ?_
    refine y_if 17 15 c217_12 rfl rfl (yz_ne (by omega)) (fun hb14963 => ?_) (fun hb14963 => ?_)
    · exfalso; omega
    · refine y_iconst 16 c217_15 rfl ?_
      exact y_ireturn c217_16 (y_fit0 _) ⟨_, rfl, rfl, hF14962, (hMI.fr hT14961 (fun a q ha => (yup_ne (by rintro ⟨rfl, rfl⟩; simp [vGq] at ha))))⟩
  · refine y_iconst 6 c23_5 rfl ?_
    refine y_goto 10 c23_6 rfl ?_
    refine y_putI 13 c23_10 rfl kf376_57 (y_fit0 _) ?_
    have hT14964 := hT.up 376 57 0 0 4 rfl (by omega)
    have hF14965 := hF.up 376 57 0 rfl
    refine y_iload 14 c23_13 rfl rfl ?_
    refine y_ireturnK c23_14 (y_fit1 (by omega)) ?_
    refine y_if 17 15 c217_12 rfl rfl (yz_ne (by omega)) (fun hb14966 => ?_) (fun hb14966 => ?_)
    · refine y_iload 18 c217_17 rfl rfl ?_
      refine y_iconst 20 c217_18 rfl ?_
      refine y_icmp 28 23 c217_20 rfl rfl (yc_ne (by omega) (by omega)) (fun hb14967 => ?_) (fun hb14967 => ?_)
      · refine y_aload 29 c217_28 rfl rfl rfl ?_
        refine y_getX 32 (m 376 19) c217_29 rfl kf376_19 rfl ?_
        refine y_if 37 35 c217_32 rfl rfl (yz_ne (by omega)) (fun hb14968 => ?_) (fun hb14968 => ?_)
        · refine y_iload 38 c217_37 rfl rfl ?_
          refine y_iconst 39 c217_38 rfl ?_
          refine y_icmp 102 42 c217_39 rfl rfl (yc_ge (by omega) (by omega)) (fun hb14969 => ?_) (fun hb14969 => ?_)
          · refine y_iload 103 c217_102 rfl rfl ?_
            refine y_iconst 104 c217_103 rfl ?_
            refine y_icmp 119 107 c217_104 rfl rfl (yc_ne (by omega) (by omega)) (fun hb14970 => ?_) (fun hb14970 => ?_)
            · refine y_iload 120 c217_119 rfl rfl ?_
              refine y_iconst 121 c217_120 rfl ?_
              refine y_icmp 136 124 c217_121 rfl rfl (yc_ne (by omega) (by omega)) (fun hb14971 => ?_) (fun hb14971 => ?_)
              · refine y_iload 137 c217_136 rfl rfl ?_
                refine y_iconst 139 c217_137 rfl ?_
                refine y_icmp 154 142 c217_139 rfl rfl (yc_ne (by omega) (by omega)) (fun hb14972 => ?_) (fun hb14972 => ?_)
                · refine y_iload 155 c217_154 rfl rfl ?_
                  refine y_iconst 157 c217_155 rfl ?_
                  refine y_icmp 167 160 c217_157 rfl rfl (yc_ne (by omega) (by omega)) (fun hb14973 => ?_) (fun hb14973 => ?_)
                  · refine y_aload 168 c217_167 rfl rfl rfl ?_
                    refine y_getX 171 (m 376 51) c217_168 rfl kf376_51 rfl ?_
                    have tb14974 := hT.atp 376 51 0 30 rfl
                    exact y_ireturn c217_171 (y_fit0 _) ⟨_, rfl, rfl, hF14965, (hMI.fr hT14964 (fun a q ha => (yup_ne (by rintro ⟨rfl, rfl⟩; simp [vGq] at ha))))⟩
                  · refine y_aload 161 c217_160 rfl rfl rfl ?_
                    refine y_getX 164 (m 376 47) c217_161 rfl kf376_47 rfl ?_
                    have tb14975 := hT.atp 376 47 ((-2147483648)) 2147483647 rfl
                    refine y_goto 171 c217_164 rfl ?_
                    exact y_ireturn c217_171 (y_fit0 _) ⟨_, rfl, rfl, hF14965, (hMI.fr hT14964 (fun a q ha => (yup_ne (by rintro ⟨rfl, rfl⟩; simp [vGq] at ha))))⟩
                · refine y_aload 143 c217_142 rfl rfl rfl ?_
                  refine y_getR 146 c217_143 rfl kf376_26 ?_
                  refine y_aload 147 c217_146 rfl rfl rfl ?_
                  refine y_getX 150 (m 376 18) c217_147 rfl kf376_18 rfl ?_
                  have tb14976 := hT.atp 376 18 0 1 rfl
                  refine y_top 1 (by omega) ?_
                  refine y_iaX 151 (m 389 1) c217_150 rfl ka389 (by decide) rfl ?_
                  refine y_goto 171 c217_151 rfl ?_
                  exact y_ireturn c217_171 (y_fit0 _) ⟨_, rfl, rfl, hF14965, (hMI.fr hT14964 (fun a q ha => (yup_ne (by rintro ⟨rfl, rfl⟩; simp [vGq] at ha))))⟩
              · refine y_aload 125 c217_124 rfl rfl rfl ?_
                refine y_getR 128 c217_125 rfl kf376_25 ?_
                refine y_aload 129 c217_128 rfl rfl rfl ?_
                refine y_getX 132 (m 376 18) c217_129 rfl kf376_18 rfl ?_
                have tb14977 := hT.atp 376 18 0 1 rfl
                refine y_top 1 (by omega) ?_
                refine y_iaX 133 (m 388 1) c217_132 rfl ka388 (by decide) rfl ?_
                refine y_goto 171 c217_133 rfl ?_
                exact y_ireturn c217_171 (y_fit0 _) ⟨_, rfl, rfl, hF14965, (hMI.fr hT14964 (fun a q ha => (yup_ne (by rintro ⟨rfl, rfl⟩; simp [vGq] at ha))))⟩
            · refine y_aload 108 c217_107 rfl rfl rfl ?_
              refine y_getR 111 c217_108 rfl kf376_24 ?_
              refine y_aload 112 c217_111 rfl rfl rfl ?_
              refine y_getX 115 (m 376 18) c217_112 rfl kf376_18 rfl ?_
              have tb14978 := hT.atp 376 18 0 1 rfl
              refine y_top 1 (by omega) ?_
              refine y_iaX 116 (m 387 1) c217_115 rfl ka387 (by decide) rfl ?_
              refine y_goto 171 c217_116 rfl ?_
              exact y_ireturn c217_171 (y_fit0 _) ⟨_, rfl, rfl, hF14965, (hMI.fr hT14964 (fun a q ha => (yup_ne (by rintro ⟨rfl, rfl⟩; simp [vGq] at ha))))⟩
          · refine y_iload 43 c217_42 rfl rfl ?_
            refine y_if 58 46 c217_43 rfl rfl (yz_ne (by omega)) (fun hb14979 => ?_) (fun hb14979 => ?_)
            · refine y_iload 59 c217_58 rfl rfl ?_
              refine y_iconst 60 c217_59 rfl ?_
              refine y_icmp 75 63 c217_60 rfl rfl (yc_ne (by omega) (by omega)) (fun hb14980 => ?_) (fun hb14980 => ?_)
              · refine y_iload 76 c217_75 rfl rfl ?_
                refine y_iconst 77 c217_76 rfl ?_
                refine y_icmp 92 80 c217_77 rfl rfl (yc_ne (by omega) (by omega)) (fun hb14981 => ?_) (fun hb14981 => ?_)
                · refine y_aload 93 c217_92 rfl rfl rfl ?_
                  refine y_getR 96 c217_93 rfl kf376_23 ?_
                  refine y_aload 97 c217_96 rfl rfl rfl ?_
                  refine y_getX 100 (m 376 18) c217_97 rfl kf376_18 rfl ?_
                  have tb14982 := hT.atp 376 18 0 1 rfl
                  refine y_top 1 (by omega) ?_
                  refine y_iaX 101 (m 386 1) c217_100 rfl ka386 (by decide) rfl ?_
                  exact y_ireturn c217_101 (y_fit0 _) ⟨_, rfl, rfl, hF14965, (hMI.fr hT14964 (fun a q ha => (yup_ne (by rintro ⟨rfl, rfl⟩; simp [vGq] at ha))))⟩
                · refine y_aload 81 c217_80 rfl rfl rfl ?_
                  refine y_getR 84 c217_81 rfl kf376_22 ?_
                  refine y_aload 85 c217_84 rfl rfl rfl ?_
                  refine y_getX 88 (m 376 18) c217_85 rfl kf376_18 rfl ?_
                  have tb14983 := hT.atp 376 18 0 1 rfl
                  refine y_top 1 (by omega) ?_
                  refine y_iaX 89 (m 385 1) c217_88 rfl ka385 (by decide) rfl ?_
                  refine y_goto 101 c217_89 rfl ?_
                  exact y_ireturn c217_101 (y_fit0 _) ⟨_, rfl, rfl, hF14965, (hMI.fr hT14964 (fun a q ha => (yup_ne (by rintro ⟨rfl, rfl⟩; simp [vGq] at ha))))⟩
              · refine y_aload 64 c217_63 rfl rfl rfl ?_
                refine y_getR 67 c217_64 rfl kf376_21 ?_
                refine y_aload 68 c217_67 rfl rfl rfl ?_
                refine y_getX 71 (m 376 18) c217_68 rfl kf376_18 rfl ?_
                have tb14984 := hT.atp 376 18 0 1 rfl
                refine y_top 1 (by omega) ?_
                refine y_iaX 72 (m 384 1) c217_71 rfl ka384 (by decide) rfl ?_
                refine y_goto 101 c217_72 rfl ?_
                exact y_ireturn c217_101 (y_fit0 _) ⟨_, rfl, rfl, hF14965, (hMI.fr hT14964 (fun a q ha => (yup_ne (by rintro ⟨rfl, rfl⟩; simp [vGq] at ha))))⟩
            · refine y_aload 47 c217_46 rfl rfl rfl ?_
              refine y_getR 50 c217_47 rfl kf376_20 ?_
              refine y_aload 51 c217_50 rfl rfl rfl ?_
              refine y_getX 54 (m 376 18) c217_51 rfl kf376_18 rfl ?_
              have tb14985 := hT.atp 376 18 0 1 rfl
              refine y_top 1 (by omega) ?_
              refine y_iaX 55 (m 383 1) c217_54 rfl ka383 (by decide) rfl ?_
              refine y_goto 101 c217_55 rfl ?_
              exact y_ireturn c217_101 (y_fit0 _) ⟨_, rfl, rfl, hF14965, (hMI.fr hT14964 (fun a q ha => (yup_ne (by rintro ⟨rfl, rfl⟩; simp [vGq] at ha))))⟩
        · refine y_iconst 36 c217_35 rfl ?_
          exact y_ireturn c217_36 (y_fit0 _) ⟨_, rfl, rfl, hF14965, (hMI.fr hT14964 (fun a q ha => (yup_ne (by rintro ⟨rfl, rfl⟩; simp [vGq] at ha))))⟩
      · refine y_aload 24 c217_23 rfl rfl rfl ?_
        refine y_getX 27 (m 376 1) c217_24 rfl kf376_1 rfl ?_
        have tb14986 := hT.atp 376 1 0 320 rfl
        exact y_ireturn c217_27 (y_fit0 _) ⟨_, rfl, rfl, hF14965, (hMI.fr hT14964 (fun a q ha => (yup_ne (by rintro ⟨rfl, rfl⟩; simp [vGq] at ha))))⟩
    · exfalso; omega
set_option maxRecDepth 100000 in
theorem t154_1 {L : Nat} {xs : Nat → Int32} {d nn : Nat} {m : yM} (hT : Ty gT m) (hn : m 376 18 = 1) (hMI : MI m) : YC (gZ L xs) (d + 6) 154 [.ref 376] m nn (qMd nn m) := by
  have tb383 := hT.atp 383 1 0 6 rfl
  have tb384 := hT.atp 384 1 0 10 rfl
  have tb385 := hT.atp 385 1 0 8 rfl
  have tb386 := hT.atp 386 1 0 12 rfl
  have tb387 := hT.atp 387 1 0 8 rfl
  have tb388 := hT.atp 388 1 0 12 rfl
  have tb389 := hT.atp 389 1 0 48 rfl
  have tb390 := hT.atp 390 1 0 125 rfl
  have t19 := hT.atp 376 19 0 1 rfl
  refine YC.mkB [some (.ref 376)] kn154 rfl rfl ?_
  have hF : Fr wML m m := Fr.rf
  refine y_aload 1 c154_0 rfl rfl rfl ?_
  refine y_iconst 2 c154_1 rfl ?_
  refine y_putI 5 c154_2 rfl kf376_57 (y_fit0 _) ?_
  have hT14987 := hT.up 376 57 0 0 4 rfl (by omega)
  have hF14988 := hF.up 376 57 0 rfl
  refine y_aload 6 c154_5 rfl rfl rfl ?_
  refine y_getX 9 (m 376 2) c154_6 rfl kf376_2 rfl ?_
  have tb14989 := hT.atp 376 2 ((-2147483648)) 2147483647 rfl
  exact y_ireturn c154_9 (y_fit0 _) ⟨_, rfl, rfl, hF14988, (hMI.fr hT14987 (fun a q ha => (yup_ne (by rintro ⟨rfl, rfl⟩; simp [vGq] at ha))))⟩
set_option maxRecDepth 100000 in
theorem t182a_1 {L : Nat} {xs : Nat → Int32} {d nn : Nat} {m : yM} {Q : xO → yM → Nat → Prop} (hT : Ty gT m) (hn : m 376 18 = 1) {a b : Int} (ha : 0 ≤ a ∧ a ≤ 47) (hb : 0 ≤ b ∧ b ≤ 47) (hQ : ∀ r, (r = 0 ∨ r = 1) → Q (.inl (some (yI r))) m nn) : ∀ (km : Nat) (i : Int), m 388 1 - i = km → 0 ≤ i ∧ i ≤ m 388 1 → YW (gZ L xs) 182 (d + 6) 32 [some (.ref 376), some (yI a), some (yI b), some (yI i)] [] m nn (Q) := by
  intro km
  induction km using Nat.strongRecOn with
  | ind km ih =>
    intro i hk hi
    have tb383 := hT.atp 383 1 0 6 rfl
    have tb384 := hT.atp 384 1 0 10 rfl
    have tb385 := hT.atp 385 1 0 8 rfl
    have tb386 := hT.atp 386 1 0 12 rfl
    have tb387 := hT.atp 387 1 0 8 rfl
    have tb388 := hT.atp 388 1 0 12 rfl
    have tb389 := hT.atp 389 1 0 48 rfl
    have tb390 := hT.atp 390 1 0 125 rfl
    have t19 := hT.atp 376 19 0 1 rfl
    refine y_iload 33 c182_32 rfl rfl ?_
    refine y_aload 34 c182_33 rfl rfl rfl ?_
    refine y_getR 37 c182_34 rfl kf376_25 ?_
    refine y_aload 38 c182_37 rfl rfl rfl ?_
    refine y_getX 41 (m 376 18) c182_38 rfl kf376_18 rfl ?_
    have tb14990 := hT.atp 376 18 0 1 rfl
    refine y_top 1 (by omega) ?_
    refine y_iaX 42 (m 388 1) c182_41 rfl ka388 (by decide) rfl ?_
    refine y_icmp 81 45 c182_42 rfl rfl (yc_ge (by omega) (by omega)) (fun hb14991 => ?_) (fun hb14991 => ?_)
    · refine y_iconst 82 c182_81 rfl ?_
      exact y_ireturn c182_82 (y_fit0 _) (hQ _ (by omega))
    · refine y_aload 46 c182_45 rfl rfl rfl ?_
      refine y_getR 49 c182_46 rfl kf376_41 ?_
      refine y_iconst 51 c182_49 rfl ?_
      refine y_iload 52 c182_51 rfl rfl ?_
      refine y_imul 53 c182_52 rfl ?_
      refine y_iload 54 c182_53 rfl rfl ?_
      refine y_iadd 55 c182_54 rfl ?_
      refine y_iaT 56 ((-2147483648)) 2147483647 c182_55 rfl ka404 (by omega) hT rfl (fun v14992 hv14992 gv14992 => ?_)
      refine y_if 75 59 c182_56 rfl rfl (yz_lt (by omega)) (fun hb14993 => ?_) (fun hb14993 => ?_)
      · refine y_iinc 78 c182_75 rfl rfl rfl ?_
        refine y_goto 32 c182_78 rfl ?_
        exact ih (m 388 1 - (i + 1) : Int).toNat (by omega) (i + 1)   (by omega) (by omega)
      · refine y_aload 60 c182_59 rfl rfl rfl ?_
        refine y_getR 63 c182_60 rfl kf376_41 ?_
        refine y_iconst 65 c182_63 rfl ?_
        refine y_iload 66 c182_65 rfl rfl ?_
        refine y_imul 67 c182_66 rfl ?_
        refine y_iload 68 c182_67 rfl rfl ?_
        refine y_iadd 69 c182_68 rfl ?_
        refine y_iaT 70 ((-2147483648)) 2147483647 c182_69 rfl ka404 (by omega) hT rfl (fun v14994 hv14994 gv14994 => ?_)
        refine y_if 75 73 c182_70 rfl rfl (yz_lt (by omega)) (fun hb14995 => ?_) (fun hb14995 => ?_)
        · refine y_iinc 78 c182_75 rfl rfl rfl ?_
          refine y_goto 32 c182_78 rfl ?_
          exact ih (m 388 1 - (i + 1) : Int).toNat (by omega) (i + 1)   (by omega) (by omega)
        · refine y_iconst 74 c182_73 rfl ?_
          exact y_ireturn c182_74 (y_fit0 _) (hQ _ (by omega))
set_option maxRecDepth 100000 in
theorem t182_1 {L : Nat} {xs : Nat → Int32} {d nn : Nat} {m : yM} (hT : Ty gT m) (hn : m 376 18 = 1) (hMI : MI m) {a : Int} (ra : -2147483648 ≤ a ∧ a < 2147483648) {b : Int} (rb : -2147483648 ≤ b ∧ b < 2147483648) : YC (gZ L xs) (d + 6) 182 [.ref 376, yI a, yI b] m nn (qMd nn m) := by
  have tb383 := hT.atp 383 1 0 6 rfl
  have tb384 := hT.atp 384 1 0 10 rfl
  have tb385 := hT.atp 385 1 0 8 rfl
  have tb386 := hT.atp 386 1 0 12 rfl
  have tb387 := hT.atp 387 1 0 8 rfl
  have tb388 := hT.atp 388 1 0 12 rfl
  have tb389 := hT.atp 389 1 0 48 rfl
  have tb390 := hT.atp 390 1 0 125 rfl
  have t19 := hT.atp 376 19 0 1 rfl
  refine YC.mkB [some (.ref 376), some (yI a), some (yI b), none] kn182 rfl rfl ?_
  have hF : Fr wML m m := Fr.rf
  refine y_aload 1 c182_0 rfl rfl rfl ?_
  refine y_aload 2 c182_1 rfl rfl rfl ?_
  refine y_iload 3 c182_2 rfl rfl ?_
  refine y_inlB 6 [.ref 376, yI a] [.ref 376] [some (.ref 376), some (yI a)] c182_3 rfl rfl rfl rfl rfl (ycanO km160 ko376) kn160 rfl rfl ?_
  refine y_aload 1 c160_0 rfl rfl rfl ?_
  refine y_getX 4 (m 376 19) c160_1 rfl kf376_19 rfl ?_
  refine y_if 30 7 c160_4 rfl rfl (yz_eq (by omega)) (fun hb14996 => ?_) (fun hb14996 => ?_)
  · refine y_iconst 31 c160_30 rfl ?_
    refine y_ireturnK c160_31 (y_fit1 (by omega)) ?_
    refine y_if 21 9 c182_6 rfl rfl (yz_eq (by omega)) (fun hb14997 => ?_) (fun hb14997 => ?_)
    · refine y_iconst 22 c182_21 rfl ?_
      refine y_inlB 25 [.ref 376, yI 0] [] [some (.ref 376), some (yI 0)] c182_22 rfl rfl rfl rfl rfl (ycanO km162 ko376) kn162 rfl rfl ?_
      refine y_aload 1 c162_0 rfl rfl rfl ?_
      refine y_aload 2 c162_1 rfl rfl rfl ?_
      refine y_getX 5 (m 376 19) c162_2 rfl kf376_19 rfl ?_
      refine y_top 0 (by omega) ?_
      refine y_if 16 8 c162_5 rfl rfl (yz_eq (by omega)) (fun hb14998 => ?_) (fun hb14998 => ?_)
      · refine y_iconst 17 c162_16 rfl ?_
        refine y_iconst 18 c162_17 rfl ?_
        refine y_inlB 21 [.ref 376, yI 0, yI 1] [] [some (.ref 376), some (yI 0), some (yI 1)] c162_18 rfl rfl rfl rfl rfl (ycanO km23 ko376) kn23 rfl rfl ?_
        refine y_aload 1 c23_0 rfl rfl rfl ?_
        refine y_iload 2 c23_1 rfl rfl ?_
        refine y_if 9 5 c23_2 rfl rfl (yz_eq (by omega)) (fun hb14999 => ?_) (fun hb14999 => ?_)
        · refine y_iload 10 c23_9 rfl rfl ?_
          refine y_putI 13 c23_10 rfl kf376_57 (y_fit0 _) ?_
          have hT15000 := hT.up 376 57 1 0 4 rfl (by omega)
          have hF15001 := hF.up 376 57 1 rfl
          refine y_iload 14 c23_13 rfl rfl ?_
          refine y_ireturnK c23_14 (y_fit1 (by omega)) ?_
          refine y_ireturnK c162_21 (y_fit1 (by omega)) ?_
          refine y_if 30 28 c182_25 rfl rfl (yz_ne (by omega)) (fun hb15002 => ?_) (fun hb15002 => ?_)
          · exfalso; omega
          · refine y_iconst 29 c182_28 rfl ?_
            exact y_ireturn c182_29 (y_fit0 _) ⟨_, rfl, rfl, hF15001, (hMI.fr hT15000 (fun a q ha => (yup_ne (by rintro ⟨rfl, rfl⟩; simp [vGq] at ha))))⟩
        · exfalso; omega
      · exfalso; omega
    · exfalso; omega
  · refine y_iload 8 c160_7 rfl rfl ?_
    refine y_iconst 9 c160_8 rfl ?_
    refine y_aload 10 c160_9 rfl rfl rfl ?_
    refine y_getR 13 c160_10 rfl kf376_26 ?_
    refine y_aload 14 c160_13 rfl rfl rfl ?_
    refine y_getX 17 (m 376 18) c160_14 rfl kf376_18 rfl ?_
    have tb15003 := hT.atp 376 18 0 1 rfl
    refine y_top 1 (by omega) ?_
    refine y_iaX 18 (m 389 1) c160_17 rfl ka389 (by decide) rfl ?_
    refine y_iconst 19 c160_18 rfl ?_
    refine y_isub 20 c160_19 rfl ?_
    refine y_callP 23 [yI a, yI 0, yI ((m 389 1) - 1)] [] c160_20 rfl rfl rfl rfl rfl (ycanS km22) (t22m (by omega) (by omega) (by omega)) (fun r15004 hr15004 => ?_)
    refine y_if 30 26 c160_23 rfl rfl (yz_eq (by omega)) (fun hb15005 => ?_) (fun hb15005 => ?_)
    · refine y_iconst 31 c160_30 rfl ?_
      refine y_ireturnK c160_31 (y_fit1 (by omega)) ?_
      refine y_if 21 9 c182_6 rfl rfl (yz_eq (by omega)) (fun hb15006 => ?_) (fun hb15006 => ?_)
      · refine y_iconst 22 c182_21 rfl ?_
        refine y_inlB 25 [.ref 376, yI 0] [] [some (.ref 376), some (yI 0)] c182_22 rfl rfl rfl rfl rfl (ycanO km162 ko376) kn162 rfl rfl ?_
        refine y_aload 1 c162_0 rfl rfl rfl ?_
        refine y_aload 2 c162_1 rfl rfl rfl ?_
        refine y_getX 5 (m 376 19) c162_2 rfl kf376_19 rfl ?_
        refine y_top 1 (by omega) ?_
        refine y_if 16 8 c162_5 rfl rfl (yz_eq (by omega)) (fun hb15007 => ?_) (fun hb15007 => ?_)
        · exfalso; omega
        · refine y_iload 9 c162_8 rfl rfl ?_
          refine y_if 16 12 c162_9 rfl rfl (yz_eq (by omega)) (fun hb15008 => ?_) (fun hb15008 => ?_)
          · refine y_iconst 17 c162_16 rfl ?_
            refine y_iconst 18 c162_17 rfl ?_
            refine y_inlB 21 [.ref 376, yI 0, yI 1] [] [some (.ref 376), some (yI 0), some (yI 1)] c162_18 rfl rfl rfl rfl rfl (ycanO km23 ko376) kn23 rfl rfl ?_
            refine y_aload 1 c23_0 rfl rfl rfl ?_
            refine y_iload 2 c23_1 rfl rfl ?_
            refine y_if 9 5 c23_2 rfl rfl (yz_eq (by omega)) (fun hb15009 => ?_) (fun hb15009 => ?_)
            · refine y_iload 10 c23_9 rfl rfl ?_
              refine y_putI 13 c23_10 rfl kf376_57 (y_fit0 _) ?_
              have hT15010 := hT.up 376 57 1 0 4 rfl (by omega)
              have hF15011 := hF.up 376 57 1 rfl
              refine y_iload 14 c23_13 rfl rfl ?_
              refine y_ireturnK c23_14 (y_fit1 (by omega)) ?_
              refine y_ireturnK c162_21 (y_fit1 (by omega)) ?_
              refine y_if 30 28 c182_25 rfl rfl (yz_ne (by omega)) (fun hb15012 => ?_) (fun hb15012 => ?_)
              · exfalso; omega
              · refine y_iconst 29 c182_28 rfl ?_
                exact y_ireturn c182_29 (y_fit0 _) ⟨_, rfl, rfl, hF15011, (hMI.fr hT15010 (fun a q ha => (yup_ne (by rintro ⟨rfl, rfl⟩; simp [vGq] at ha))))⟩
            · exfalso; omega
          · exfalso; omega
      · exfalso; omega
    · refine y_iconst 27 c160_26 rfl ?_
      refine y_goto 31 c160_27 rfl ?_
      refine y_ireturnK c160_31 (y_fit1 (by omega)) ?_
      refine y_if 21 9 c182_6 rfl rfl (yz_eq (by omega)) (fun hb15013 => ?_) (fun hb15013 => ?_)
      · exfalso; omega
      · refine y_aload 10 c182_9 rfl rfl rfl ?_
        refine y_iload 11 c182_10 rfl rfl ?_
        refine y_inlB 14 [.ref 376, yI b] [.ref 376] [some (.ref 376), some (yI b)] c182_11 rfl rfl rfl rfl rfl (ycanO km160 ko376) kn160 rfl rfl ?_
        refine y_aload 1 c160_0 rfl rfl rfl ?_
        refine y_getX 4 (m 376 19) c160_1 rfl kf376_19 rfl ?_
        refine y_top 1 (by omega) ?_
        refine y_if 30 7 c160_4 rfl rfl (yz_eq (by omega)) (fun hb15014 => ?_) (fun hb15014 => ?_)
        · exfalso; omega
        · refine y_iload 8 c160_7 rfl rfl ?_
          refine y_iconst 9 c160_8 rfl ?_
          refine y_aload 10 c160_9 rfl rfl rfl ?_
          refine y_getR 13 c160_10 rfl kf376_26 ?_
          refine y_aload 14 c160_13 rfl rfl rfl ?_
          refine y_getX 17 (m 376 18) c160_14 rfl kf376_18 rfl ?_
          refine y_top 1 (by omega) ?_
          refine y_iaX 18 (m 389 1) c160_17 rfl ka389 (by decide) rfl ?_
          refine y_iconst 19 c160_18 rfl ?_
          refine y_isub 20 c160_19 rfl ?_
          refine y_callP 23 [yI b, yI 0, yI ((m 389 1) - 1)] [] c160_20 rfl rfl rfl rfl rfl (ycanS km22) (t22m (by omega) (by omega) (by omega)) (fun r15015 hr15015 => ?_)
          refine y_if 30 26 c160_23 rfl rfl (yz_eq (by omega)) (fun hb15016 => ?_) (fun hb15016 => ?_)
          · refine y_iconst 31 c160_30 rfl ?_
            refine y_ireturnK c160_31 (y_fit1 (by omega)) ?_
            refine y_if 21 17 c182_14 rfl rfl (yz_eq (by omega)) (fun hb15017 => ?_) (fun hb15017 => ?_)
            · refine y_iconst 22 c182_21 rfl ?_
              refine y_inlB 25 [.ref 376, yI 0] [] [some (.ref 376), some (yI 0)] c182_22 rfl rfl rfl rfl rfl (ycanO km162 ko376) kn162 rfl rfl ?_
              refine y_aload 1 c162_0 rfl rfl rfl ?_
              refine y_aload 2 c162_1 rfl rfl rfl ?_
              refine y_getX 5 (m 376 19) c162_2 rfl kf376_19 rfl ?_
              refine y_top 1 (by omega) ?_
              refine y_if 16 8 c162_5 rfl rfl (yz_eq (by omega)) (fun hb15018 => ?_) (fun hb15018 => ?_)
              · exfalso; omega
              · refine y_iload 9 c162_8 rfl rfl ?_
                refine y_if 16 12 c162_9 rfl rfl (yz_eq (by omega)) (fun hb15019 => ?_) (fun hb15019 => ?_)
                · refine y_iconst 17 c162_16 rfl ?_
                  refine y_iconst 18 c162_17 rfl ?_
                  refine y_inlB 21 [.ref 376, yI 0, yI 1] [] [some (.ref 376), some (yI 0), some (yI 1)] c162_18 rfl rfl rfl rfl rfl (ycanO km23 ko376) kn23 rfl rfl ?_
                  refine y_aload 1 c23_0 rfl rfl rfl ?_
                  refine y_iload 2 c23_1 rfl rfl ?_
                  refine y_if 9 5 c23_2 rfl rfl (yz_eq (by omega)) (fun hb15020 => ?_) (fun hb15020 => ?_)
                  · refine y_iload 10 c23_9 rfl rfl ?_
                    refine y_putI 13 c23_10 rfl kf376_57 (y_fit0 _) ?_
                    have hT15021 := hT.up 376 57 1 0 4 rfl (by omega)
                    have hF15022 := hF.up 376 57 1 rfl
                    refine y_iload 14 c23_13 rfl rfl ?_
                    refine y_ireturnK c23_14 (y_fit1 (by omega)) ?_
                    refine y_ireturnK c162_21 (y_fit1 (by omega)) ?_
                    refine y_if 30 28 c182_25 rfl rfl (yz_ne (by omega)) (fun hb15023 => ?_) (fun hb15023 => ?_)
                    · exfalso; omega
                    · refine y_iconst 29 c182_28 rfl ?_
                      exact y_ireturn c182_29 (y_fit0 _) ⟨_, rfl, rfl, hF15022, (hMI.fr hT15021 (fun a q ha => (yup_ne (by rintro ⟨rfl, rfl⟩; simp [vGq] at ha))))⟩
                  · exfalso; omega
                · exfalso; omega
            · exfalso; omega
          · refine y_iconst 27 c160_26 rfl ?_
            refine y_goto 31 c160_27 rfl ?_
            refine y_ireturnK c160_31 (y_fit1 (by omega)) ?_
            refine y_if 21 17 c182_14 rfl rfl (yz_eq (by omega)) (fun hb15024 => ?_) (fun hb15024 => ?_)
            · exfalso; omega
            · refine y_iconst 18 c182_17 rfl ?_
              refine y_goto 22 c182_18 rfl ?_
              refine y_inlB 25 [.ref 376, yI 1] [] [some (.ref 376), some (yI 1)] c182_22 rfl rfl rfl rfl rfl (ycanO km162 ko376) kn162 rfl rfl ?_
              refine y_aload 1 c162_0 rfl rfl rfl ?_
              refine y_aload 2 c162_1 rfl rfl rfl ?_
              refine y_getX 5 (m 376 19) c162_2 rfl kf376_19 rfl ?_
              refine y_top 1 (by omega) ?_
              refine y_if 16 8 c162_5 rfl rfl (yz_eq (by omega)) (fun hb15025 => ?_) (fun hb15025 => ?_)
              · exfalso; omega
              · refine y_iload 9 c162_8 rfl rfl ?_
                refine y_if 16 12 c162_9 rfl rfl (yz_eq (by omega)) (fun hb15026 => ?_) (fun hb15026 => ?_)
                · exfalso; omega
                · refine y_iconst 13 c162_12 rfl ?_
                  refine y_goto 17 c162_13 rfl ?_
                  refine y_iconst 18 c162_17 rfl ?_
                  refine y_inlB 21 [.ref 376, yI 1, yI 1] [] [some (.ref 376), some (yI 1), some (yI 1)] c162_18 rfl rfl rfl rfl rfl (ycanO km23 ko376) kn23 rfl rfl ?_
                  refine y_aload 1 c23_0 rfl rfl rfl ?_
                  refine y_iload 2 c23_1 rfl rfl ?_
                  refine y_if 9 5 c23_2 rfl rfl (yz_eq (by omega)) (fun hb15027 => ?_) (fun hb15027 => ?_)
                  · exfalso; omega
                  · refine y_iconst 6 c23_5 rfl ?_
                    refine y_goto 10 c23_6 rfl ?_
                    refine y_putI 13 c23_10 rfl kf376_57 (y_fit0 _) ?_
                    have hT15028 := hT.up 376 57 0 0 4 rfl (by omega)
                    have hF15029 := hF.up 376 57 0 rfl
                    refine y_iload 14 c23_13 rfl rfl ?_
                    refine y_ireturnK c23_14 (y_fit1 (by omega)) ?_
                    refine y_ireturnK c162_21 (y_fit1 (by omega)) ?_
                    refine y_if 30 28 c182_25 rfl rfl (yz_ne (by omega)) (fun hb15030 => ?_) (fun hb15030 => ?_)
                    · refine y_iconst 31 c182_30 rfl ?_
                      refine y_istore 32 c182_31 rfl rfl ?_
                      have es15031 : (yup m 376 57 0) 388 1 = m 388 1 := rfl
                      have es15032 : (yup m 376 57 0) 376 18 = m 376 18 := rfl
                      exact t182a_1 hT15028 (by omega) (by omega) (by omega) (fun r hr => ⟨_, rfl, rfl, hF15029, (hMI.fr hT15028 (fun a q ha => (yup_ne (by rintro ⟨rfl, rfl⟩; simp [vGq] at ha))))⟩) ((yup m 376 57 0) 388 1 - 0).toNat 0 (by omega) (by omega)
                    · exfalso; omega
set_option maxRecDepth 100000 in
theorem t178a_1 {L : Nat} {xs : Nat → Int32} {d nn : Nat} {m : yM} {Q : xO → yM → Nat → Prop} (hT : Ty gT m) (hn : m 376 18 = 1) (hG : GQ 1 m) {a b : Int} (ha : 0 ≤ a ∧ a ≤ 7) (hb : 0 ≤ b ∧ b ≤ 47) (hQ : ∀ r, (r = 0 ∨ r = 1) → Q (.inl (some (yI r))) m nn) : ∀ (km : Nat) (i : Int), m 388 1 - i = km → 0 ≤ i ∧ i ≤ m 388 1 → YW (gZ L xs) 178 (d + 6) 42 [some (.ref 376), some (yI a), some (yI b), some (yI i)] [] m nn (Q) := by
  intro km
  induction km using Nat.strongRecOn with
  | ind km ih =>
    intro i hk hi
    have tb383 := hT.atp 383 1 0 6 rfl
    have tb384 := hT.atp 384 1 0 10 rfl
    have tb385 := hT.atp 385 1 0 8 rfl
    have tb386 := hT.atp 386 1 0 12 rfl
    have tb387 := hT.atp 387 1 0 8 rfl
    have tb388 := hT.atp 388 1 0 12 rfl
    have tb389 := hT.atp 389 1 0 48 rfl
    have tb390 := hT.atp 390 1 0 125 rfl
    have t19 := hT.atp 376 19 0 1 rfl
    refine y_iload 43 c178_42 rfl rfl ?_
    refine y_aload 44 c178_43 rfl rfl rfl ?_
    refine y_getR 47 c178_44 rfl kf376_25 ?_
    refine y_aload 48 c178_47 rfl rfl rfl ?_
    refine y_getX 51 (m 376 18) c178_48 rfl kf376_18 rfl ?_
    have tb15033 := hT.atp 376 18 0 1 rfl
    refine y_top 1 (by omega) ?_
    refine y_iaX 52 (m 388 1) c178_51 rfl ka388 (by decide) rfl ?_
    refine y_icmp 116 55 c178_52 rfl rfl (yc_ge (by omega) (by omega)) (fun hb15034 => ?_) (fun hb15034 => ?_)
    · refine y_iconst 117 c178_116 rfl ?_
      exact y_ireturn c178_117 (y_fit0 _) (hQ _ (by omega))
    · refine y_aload 56 c178_55 rfl rfl rfl ?_
      refine y_getR 59 c178_56 rfl kf376_41 ?_
      refine y_iconst 61 c178_59 rfl ?_
      refine y_iload 62 c178_61 rfl rfl ?_
      refine y_imul 63 c178_62 rfl ?_
      refine y_iload 64 c178_63 rfl rfl ?_
      refine y_iadd 65 c178_64 rfl ?_
      refine y_iaT 66 ((-2147483648)) 2147483647 c178_65 rfl ka404 (by omega) hT rfl (fun v15035 hv15035 gv15035 => ?_)
      refine y_if 110 69 c178_66 rfl rfl (yz_lt (by omega)) (fun hb15036 => ?_) (fun hb15036 => ?_)
      · refine y_iinc 113 c178_110 rfl rfl rfl ?_
        refine y_goto 42 c178_113 rfl ?_
        exact ih (m 388 1 - (i + 1) : Int).toNat (by omega) (i + 1)   (by omega) (by omega)
      · refine y_aload 70 c178_69 rfl rfl rfl ?_
        refine y_aload 71 c178_70 rfl rfl rfl ?_
        refine y_getX 74 (m 376 18) c178_71 rfl kf376_18 rfl ?_
        refine y_top 1 (by omega) ?_
        refine y_aload 75 c178_74 rfl rfl rfl ?_
        refine y_getR 78 c178_75 rfl kf376_37 ?_
        refine y_iconst 80 c178_78 rfl ?_
        refine y_aload 81 c178_80 rfl rfl rfl ?_
        refine y_getX 84 (m 376 18) c178_81 rfl kf376_18 rfl ?_
        refine y_top 1 (by omega) ?_
        refine y_imul 85 c178_84 rfl ?_
        refine y_top 12 (by decide) ?_
        refine y_iload 86 c178_85 rfl rfl ?_
        refine y_iadd 87 c178_86 rfl ?_
        refine y_iaT 88 ((-2147483648)) 2147483647 c178_87 rfl ka400 (by omega) hT rfl (fun v15037 hv15037 gv15037 => ?_)
        have gv15037_ : -1 ≤ v15037 ∧ v15037 < m 383 1 := by have h0 := hG.2.2.2.2.2.1 i.toNat (by omega); rw [show 12 * 1 + i.toNat = (12 + i).toNat by omega, hv15037] at h0; exact h0
        refine y_aload 89 c178_88 rfl rfl rfl ?_
        refine y_getR 92 c178_89 rfl kf376_39 ?_
        refine y_iconst 94 c178_92 rfl ?_
        refine y_aload 95 c178_94 rfl rfl rfl ?_
        refine y_getX 98 (m 376 18) c178_95 rfl kf376_18 rfl ?_
        refine y_top 1 (by omega) ?_
        refine y_imul 99 c178_98 rfl ?_
        refine y_top 8 (by decide) ?_
        refine y_iload 100 c178_99 rfl rfl ?_
        refine y_iadd 101 c178_100 rfl ?_
        refine y_iaT 102 ((-2147483648)) 2147483647 c178_101 rfl ka402 (by omega) hT rfl (fun v15038 hv15038 gv15038 => ?_)
        refine y_callP 105 [.ref 376, yI 1, yI v15037, yI v15038] [] c178_102 rfl rfl rfl rfl rfl (ycanO km149 ko376) (t149_1 hT hG.2.2.2.2.1 (by omega) (by omega)) (fun r15039 hr15039 => ?_)
        refine y_if 110 108 c178_105 rfl rfl (yz_ne (by omega)) (fun hb15040 => ?_) (fun hb15040 => ?_)
        · refine y_iinc 113 c178_110 rfl rfl rfl ?_
          refine y_goto 42 c178_113 rfl ?_
          exact ih (m 388 1 - (i + 1) : Int).toNat (by omega) (i + 1)   (by omega) (by omega)
        · refine y_iconst 109 c178_108 rfl ?_
          exact y_ireturn c178_109 (y_fit0 _) (hQ _ (by omega))
set_option maxRecDepth 100000 in
theorem t178_1 {L : Nat} {xs : Nat → Int32} {d nn : Nat} {m : yM} (hT : Ty gT m) (hn : m 376 18 = 1) (hMI : MI m) {a : Int} (ra : -2147483648 ≤ a ∧ a < 2147483648) : YC (gZ L xs) (d + 6) 178 [.ref 376, yI a] m nn (qMd nn m) := by
  have tb383 := hT.atp 383 1 0 6 rfl
  have tb384 := hT.atp 384 1 0 10 rfl
  have tb385 := hT.atp 385 1 0 8 rfl
  have tb386 := hT.atp 386 1 0 12 rfl
  have tb387 := hT.atp 387 1 0 8 rfl
  have tb388 := hT.atp 388 1 0 12 rfl
  have tb389 := hT.atp 389 1 0 48 rfl
  have tb390 := hT.atp 390 1 0 125 rfl
  have t19 := hT.atp 376 19 0 1 rfl
  refine YC.mkB [some (.ref 376), some (yI a), none, none] kn178 rfl rfl ?_
  have hF : Fr wML m m := Fr.rf
  refine y_aload 1 c178_0 rfl rfl rfl ?_
  refine y_iload 2 c178_1 rfl rfl ?_
  refine y_iconst 3 c178_2 rfl ?_
  refine y_aload 4 c178_3 rfl rfl rfl ?_
  refine y_getR 7 c178_4 rfl kf376_24 ?_
  refine y_aload 8 c178_7 rfl rfl rfl ?_
  refine y_getX 11 (m 376 18) c178_8 rfl kf376_18 rfl ?_
  have tb15041 := hT.atp 376 18 0 1 rfl
  refine y_top 1 (by omega) ?_
  refine y_iaX 12 (m 387 1) c178_11 rfl ka387 (by decide) rfl ?_
  refine y_iconst 13 c178_12 rfl ?_
  refine y_isub 14 c178_13 rfl ?_
  refine y_callP 17 [yI a, yI 0, yI ((m 387 1) - 1)] [.ref 376] c178_14 rfl rfl rfl rfl rfl (ycanS km22) (t22m (by omega) (by omega) (by omega)) (fun r15042 hr15042 => ?_)
  refine y_inlB 20 [.ref 376, yI r15042] [] [some (.ref 376), some (yI r15042)] c178_17 rfl rfl rfl rfl rfl (ycanO km162 ko376) kn162 rfl rfl ?_
  refine y_aload 1 c162_0 rfl rfl rfl ?_
  refine y_aload 2 c162_1 rfl rfl rfl ?_
  refine y_getX 5 (m 376 19) c162_2 rfl kf376_19 rfl ?_
  refine y_if 16 8 c162_5 rfl rfl (yz_eq (by omega)) (fun hb15043 => ?_) (fun hb15043 => ?_)
  · refine y_iconst 17 c162_16 rfl ?_
    refine y_iconst 18 c162_17 rfl ?_
    refine y_inlB 21 [.ref 376, yI 0, yI 1] [] [some (.ref 376), some (yI 0), some (yI 1)] c162_18 rfl rfl rfl rfl rfl (ycanO km23 ko376) kn23 rfl rfl ?_
    refine y_aload 1 c23_0 rfl rfl rfl ?_
    refine y_iload 2 c23_1 rfl rfl ?_
    refine y_if 9 5 c23_2 rfl rfl (yz_eq (by omega)) (fun hb15044 => ?_) (fun hb15044 => ?_)
    · refine y_iload 10 c23_9 rfl rfl ?_
      refine y_putI 13 c23_10 rfl kf376_57 (y_fit0 _) ?_
      have hT15045 := hT.up 376 57 1 0 4 rfl (by omega)
      have hF15046 := hF.up 376 57 1 rfl
      refine y_iload 14 c23_13 rfl rfl ?_
      refine y_ireturnK c23_14 (y_fit1 (by omega)) ?_
      refine y_ireturnK c162_21 (y_fit1 (by omega)) ?_
      refine y_if 25 23 c178_20 rfl rfl (yz_ne (by omega)) (fun hb15047 => ?_) (fun hb15047 => ?_)
      · exfalso; omega
      · refine y_iconst 24 c178_23 rfl ?_
        exact y_ireturn c178_24 (y_fit0 _) ⟨_, rfl, rfl, hF15046, (hMI.fr hT15045 (fun a q ha => (yup_ne (by rintro ⟨rfl, rfl⟩; simp [vGq] at ha))))⟩
    · exfalso; omega
  · refine y_iload 9 c162_8 rfl rfl ?_
    refine y_if 16 12 c162_9 rfl rfl (yz_eq (by omega)) (fun hb15048 => ?_) (fun hb15048 => ?_)
    · refine y_iconst 17 c162_16 rfl ?_
      refine y_iconst 18 c162_17 rfl ?_
      refine y_inlB 21 [.ref 376, yI 0, yI 1] [] [some (.ref 376), some (yI 0), some (yI 1)] c162_18 rfl rfl rfl rfl rfl (ycanO km23 ko376) kn23 rfl rfl ?_
      refine y_aload 1 c23_0 rfl rfl rfl ?_
      refine y_iload 2 c23_1 rfl rfl ?_
      refine y_if 9 5 c23_2 rfl rfl (yz_eq (by omega)) (fun hb15049 => ?_) (fun hb15049 => ?_)
      · refine y_iload 10 c23_9 rfl rfl ?_
        refine y_putI 13 c23_10 rfl kf376_57 (y_fit0 _) ?_
        have hT15050 := hT.up 376 57 1 0 4 rfl (by omega)
        have hF15051 := hF.up 376 57 1 rfl
        refine y_iload 14 c23_13 rfl rfl ?_
        refine y_ireturnK c23_14 (y_fit1 (by omega)) ?_
        refine y_ireturnK c162_21 (y_fit1 (by omega)) ?_
        refine y_if 25 23 c178_20 rfl rfl (yz_ne (by omega)) (fun hb15052 => ?_) (fun hb15052 => ?_)
        · exfalso; omega
        · refine y_iconst 24 c178_23 rfl ?_
          exact y_ireturn c178_24 (y_fit0 _) ⟨_, rfl, rfl, hF15051, (hMI.fr hT15050 (fun a q ha => (yup_ne (by rintro ⟨rfl, rfl⟩; simp [vGq] at ha))))⟩
      · exfalso; omega
    · refine y_iconst 13 c162_12 rfl ?_
      refine y_goto 17 c162_13 rfl ?_
      refine y_iconst 18 c162_17 rfl ?_
      refine y_inlB 21 [.ref 376, yI 1, yI 1] [] [some (.ref 376), some (yI 1), some (yI 1)] c162_18 rfl rfl rfl rfl rfl (ycanO km23 ko376) kn23 rfl rfl ?_
      refine y_aload 1 c23_0 rfl rfl rfl ?_
      refine y_iload 2 c23_1 rfl rfl ?_
      refine y_if 9 5 c23_2 rfl rfl (yz_eq (by omega)) (fun hb15053 => ?_) (fun hb15053 => ?_)
      · exfalso; omega
      · refine y_iconst 6 c23_5 rfl ?_
        refine y_goto 10 c23_6 rfl ?_
        refine y_putI 13 c23_10 rfl kf376_57 (y_fit0 _) ?_
        have hT15054 := hT.up 376 57 0 0 4 rfl (by omega)
        have hF15055 := hF.up 376 57 0 rfl
        refine y_iload 14 c23_13 rfl rfl ?_
        refine y_ireturnK c23_14 (y_fit1 (by omega)) ?_
        refine y_ireturnK c162_21 (y_fit1 (by omega)) ?_
        refine y_if 25 23 c178_20 rfl rfl (yz_ne (by omega)) (fun hb15056 => ?_) (fun hb15056 => ?_)
        · have es15057 : (yup m 376 57 0) 387 1 = m 387 1 := rfl
          refine y_aload 26 c178_25 rfl rfl rfl ?_
          refine y_getR 29 c178_26 rfl kf376_38 ?_
          refine y_iconst 31 c178_29 rfl ?_
          refine y_aload 32 c178_31 rfl rfl rfl ?_
          refine y_getX 35 (m 376 18) c178_32 rfl kf376_18 rfl ?_
          refine y_top 1 (by omega) ?_
          refine y_imul 36 c178_35 rfl ?_
          refine y_top 8 (by decide) ?_
          refine y_iload 37 c178_36 rfl rfl ?_
          refine y_iadd 38 c178_37 rfl ?_
          refine y_iaT 39 ((-1)) 47 c178_38 rfl ka401 (by omega) hT15054 rfl (fun v15058 hv15058 gv15058 => ?_)
          have hG0 : GQ 1 m := by have h0 := hMI.2; rcases h0 with q | ⟨q1, q2⟩ | ⟨q1, q2⟩ <;> first | exact q2 | (exfalso; omega)
          have hG1 : GQ 1 (yup m 376 57 0) := hG0.fr hT (by decide) (fun a q ha => (yup_ne (by rintro ⟨rfl, rfl⟩; simp [vGq] at ha)))
          have gv15058_ : 0 ≤ v15058 := by have h0 := hG1.2.2.2.2.2.2.2.1 a.toNat (by omega); rw [show 8 * 1 + a.toNat = (8 + a).toNat by omega, hv15058] at h0; exact h0
          refine y_istore 40 c178_39 rfl rfl ?_
          refine y_iconst 41 c178_40 rfl ?_
          refine y_istore 42 c178_41 rfl rfl ?_
          have es15059 : (yup m 376 57 0) 388 1 = m 388 1 := rfl
          have es15060 : (yup m 376 57 0) 376 18 = m 376 18 := rfl
          exact t178a_1 hT15054 (by omega) hG1 (by omega) (by omega) (fun r hr => ⟨_, rfl, rfl, hF15055, (hMI.fr hT15054 (fun a q ha => (yup_ne (by rintro ⟨rfl, rfl⟩; simp [vGq] at ha))))⟩) ((yup m 376 57 0) 388 1 - 0).toNat 0 (by omega) (by omega)
        · exfalso; omega
