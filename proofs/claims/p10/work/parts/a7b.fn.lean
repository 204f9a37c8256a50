/-! FUNCTIONS OF THE METHODS: printed by wip/fn/dc.py -/
def F42 (f : Nat) (A : Nat) (x1 : Int) (m : yM) : Option (Int × yM) := (if m A 9 = 6 then (some (0, m)) else (bP (F41 f A x1 m) (fun r614 => (if r614 = (-1) then (some (1, yup (yup (yup (yup m (A + 1) (m A 9).toNat x1) (A + 2) (m A 9).toNat ((-1))) (A + 3) (m A 9).toNat 0) A 9 (wr ((m A 9) + 1)))) else (some (0, m))))))
set_option maxRecDepth 100000 in
theorem d42 {L : Nat} {xs : Nat → Int32} {k d n : Nat} {c : yS3} {f : Nat} {A : Nat} {x1 : Int} {m : yM} (hk : k ≤ f) (hA : (A = 256 ∨ A = 316)) (gx1 : rg x1) (hR : RM c m) : PC (gZ L xs) k d 42 [.ref A, yI x1] m n (qS c (F42 f A x1 m)) := by
  have hX : F42 f A x1 m = F42 f A x1 m := rfl
  have Hr : ∀ r m', F42 f A x1 m = some (r, m') → rg r → RM c m' → ∀ n' : Nat, (qS c (F42 f A x1 m)) (.inl (some (yI r))) m' n' := fun r m' e h1 h2 n' => ⟨r, rfl, h1, h2, e⟩
  refine PC.mk [some (.ref A), some (yI x1)] kn42 rfl ?_
  refine p_aload 1 c42_0 rfl rfl ?_
  refine p_getX 4 (m A 9) c42_1 rfl (kP_9 hA) rfl ?_
  refine p_iconst 6 c42_4 rfl ?_
  refine p_icmp 18 9 c42_6 rfl rfl (yc_eq (hR.rg _ _) (rgD rfl)) (fun hb580 k581 hk581 => ?_) (fun hb580 k582 hk582 => ?_)
  · have hX583 := hX.trans (if_pos hb580)
    refine p_iconst 19 c42_18 rfl ?_
    exact p_ireturn c42_19 (Hr _ _ hX583 (rgD rfl) hR _)
  · have hX584 := hX.trans (if_neg hb580)
    refine p_aload 10 c42_9 rfl rfl ?_
    refine p_iload 11 c42_10 rfl rfl ?_
    refine p_cO 14 [.ref A, yI x1] [] c42_11 rfl rfl rfl (fun k' hk' d' => d41 (f := f) (by omega) hA gx1 hR) (fun r614 hF612 hg613 n586 k585 hk585 => ?_)
    have hX615 := hX584.trans (bP_s hF612)
    refine p_iconst 15 c42_14 rfl ?_
    refine p_icmp 20 18 c42_15 rfl rfl (yc_eq hg613 (rgD rfl)) (fun hb616 k617 hk617 => ?_) (fun hb616 k618 hk618 => ?_)
    · have hX619 := hX615.trans (if_pos hb616)
      refine p_aload 21 c42_20 rfl rfl ?_
      refine p_getR 24 c42_21 rfl (kP_0 hA) ?_
      refine p_aload 25 c42_24 rfl rfl ?_
      refine p_getX 28 (m A 9) c42_25 rfl (kP_9 hA) rfl ?_
      refine p_iload 29 c42_28 rfl rfl ?_
      refine p_iaS 30 c42_29 rfl (kPa_1 hA) (hR.rg _ _) x1 (nar0 gx1) (fun hx620 => ?_)
      have hR621 := hR.up (A + 1) (m A 9).toNat (v := x1) (nselA (by omega)) gx1
      refine p_aload 31 c42_30 rfl rfl ?_
      refine p_getR 34 c42_31 rfl (kP_1 hA) ?_
      refine p_aload 35 c42_34 rfl rfl ?_
      refine p_getX 38 (m A 9) c42_35 rfl (kP_9 hA) (yup_na (by omega)) ?_
      refine p_iconst 39 c42_38 rfl ?_
      refine p_iaS 40 c42_39 rfl (kPa_2 hA) (hR.rg _ _) ((-1)) (nar0 (rgD rfl)) (fun hx622 => ?_)
      have hR623 := hR621.up (A + 2) (m A 9).toNat (v := (-1)) (nselA (by omega)) (rgD rfl)
      refine p_aload 41 c42_40 rfl rfl ?_
      refine p_getR 44 c42_41 rfl (kP_2 hA) ?_
      refine p_aload 45 c42_44 rfl rfl ?_
      refine p_getX 48 (m A 9) c42_45 rfl (kP_9 hA) ((yup_na (by omega)).trans (yup_na (by omega))) ?_
      refine p_iconst 49 c42_48 rfl ?_
      refine p_iaS 50 c42_49 rfl (kPa_3 hA) (hR.rg _ _) 0 (nar0 (rgD rfl)) (fun hx624 => ?_)
      have hR625 := hR623.up (A + 3) (m A 9).toNat (v := 0) (nselA (by omega)) (rgD rfl)
      refine p_aload 51 c42_50 rfl rfl ?_
      refine p_dup 52 c42_51 rfl rfl ?_
      refine p_getX 55 (m A 9) c42_52 rfl (kP_9 hA) ((yup_na (by omega)).trans ((yup_na (by omega)).trans (yup_na (by omega)))) ?_
      refine p_iconst 56 c42_55 rfl ?_
      refine p_iadd 57 c42_56 rfl ?_
      refine p_putI 60 c42_57 rfl (kP_9 hA) ?_
      have hR626 := hR625.up A 9 (v := wr ((m A 9) + 1)) (nselA (by omega)) (rg_wr _)
      refine p_iconst 61 c42_60 rfl ?_
      exact p_ireturn c42_61 (Hr _ _ hX619 (rgD rfl) hR626 _)
    · have hX627 := hX615.trans (if_neg hb616)
      refine p_iconst 19 c42_18 rfl ?_
      exact p_ireturn c42_19 (Hr _ _ hX627 (rgD rfl) hR _)
def F44 (f : Nat) (A : Nat) (x1 : Int) (m : yM) : Option (Int × yM) := (bP (F41 f A x1 m) (fun r681 => (if r681 = (-1) then (some (0, m)) else (if r681 = wr ((m A 9) - 1) then (some (0, m)) else (some (1, yup (yup m (A + 2) (wr ((m A 9) - 1)).toNat r681) (A + 3) (wr ((m A 9) - 1)).toNat (m (A + 3) r681.toNat)))))))
set_option maxRecDepth 100000 in
theorem d44 {L : Nat} {xs : Nat → Int32} {k d n : Nat} {c : yS3} {f : Nat} {A : Nat} {x1 : Int} {m : yM} (hk : k ≤ f) (hA : (A = 256 ∨ A = 316)) (gx1 : rg x1) (hR : RM c m) : PC (gZ L xs) k d 44 [.ref A, yI x1] m n (qS c (F44 f A x1 m)) := by
  have hX : F44 f A x1 m = F44 f A x1 m := rfl
  have Hr : ∀ r m', F44 f A x1 m = some (r, m') → rg r → RM c m' → ∀ n' : Nat, (qS c (F44 f A x1 m)) (.inl (some (yI r))) m' n' := fun r m' e h1 h2 n' => ⟨r, rfl, h1, h2, e⟩
  refine PC.mk [some (.ref A), some (yI x1), none, none] kn44 rfl ?_
  refine p_aload 1 c44_0 rfl rfl ?_
  refine p_getX 4 (m A 9) c44_1 rfl (kP_9 hA) rfl ?_
  refine p_iconst 5 c44_4 rfl ?_
  refine p_isub 6 c44_5 rfl ?_
  refine p_istore 7 c44_6 rfl rfl ?_
  refine p_aload 8 c44_7 rfl rfl ?_
  refine p_iload 9 c44_8 rfl rfl ?_
  refine p_cO 12 [.ref A, yI x1] [] c44_9 rfl rfl rfl (fun k' hk' d' => d41 (f := f) (by omega) hA gx1 hR) (fun r681 hF679 hg680 n678 k677 hk677 => ?_)
  have hX682 := hX.trans (bP_s hF679)
  refine p_istore 13 c44_12 rfl rfl ?_
  refine p_iload 14 c44_13 rfl rfl ?_
  refine p_iconst 15 c44_14 rfl ?_
  refine p_icmp 23 18 c44_15 rfl rfl (yc_eq hg680 (rgD rfl)) (fun hb683 k684 hk684 => ?_) (fun hb683 k685 hk685 => ?_)
  · have hX686 := hX682.trans (if_pos hb683)
    refine p_iconst 24 c44_23 rfl ?_
    exact p_ireturn c44_24 (Hr _ _ hX686 (rgD rfl) hR _)
  · have hX687 := hX682.trans (if_neg hb683)
    refine p_iload 19 c44_18 rfl rfl ?_
    refine p_iload 20 c44_19 rfl rfl ?_
    refine p_icmp 25 23 c44_20 rfl rfl (yc_ne hg680 (rg_wr _)) (fun hb688 k689 hk689 => ?_) (fun hb688 k690 hk690 => ?_)
    · have hX691 := hX687.trans (if_neg hb688)
      refine p_aload 26 c44_25 rfl rfl ?_
      refine p_getR 29 c44_26 rfl (kP_1 hA) ?_
      refine p_iload 30 c44_29 rfl rfl ?_
      refine p_iload 31 c44_30 rfl rfl ?_
      refine p_iaS 32 c44_31 rfl (kPa_2 hA) (rg_wr _) r681 (nar0 hg680) (fun hx692 => ?_)
      have hR693 := hR.up (A + 2) (wr ((m A 9) - 1)).toNat (v := r681) (nselA (by omega)) hg680
      refine p_aload 33 c44_32 rfl rfl ?_
      refine p_getR 36 c44_33 rfl (kP_2 hA) ?_
      refine p_iload 37 c44_36 rfl rfl ?_
      refine p_aload 38 c44_37 rfl rfl ?_
      refine p_getR 41 c44_38 rfl (kP_2 hA) ?_
      refine p_iload 42 c44_41 rfl rfl ?_
      refine p_iaX 43 (m (A + 3) r681.toNat) c44_42 rfl (kPa_3 hA) hg680 (yup_na (by omega)) (fun hx694 => ?_)
      refine p_iaS 44 c44_43 rfl (kPa_3 hA) (rg_wr _) (m (A + 3) r681.toNat) (nar0 (hR.rg _ _)) (fun hx695 => ?_)
      have hR696 := hR693.up (A + 3) (wr ((m A 9) - 1)).toNat (v := m (A + 3) r681.toNat) (nselA (by omega)) (hR.rg _ _)
      refine p_iconst 45 c44_44 rfl ?_
      exact p_ireturn c44_45 (Hr _ _ hX691 (rgD rfl) hR696 _)
    · have hX697 := hX687.trans (if_pos (Classical.not_not.mp hb688))
      refine p_iconst 24 c44_23 rfl ?_
      exact p_ireturn c44_24 (Hr _ _ hX697 (rgD rfl) hR _)
def J45_33 (f : Nat) (A : Nat) (m : yM) : Option (Int × yM) := (bI (F43 f m) (fun r569 m571 => (some (r569, m571))))
set_option maxRecDepth 100000 in
theorem tJ45_33 {L : Nat} {xs : Nat → Int32} {Q : xO → yM → Nat → Prop} {k d n : Nat} {c : yS3} {f : Nat} {A : Nat} {m : yM} (hk : k ≤ f) (hc : c.1 = pX A) (hA : (A = 256 ∨ A = 316)) (hR : RM c m) (Hr : ∀ r m', J45_33 f A m = some (r, m') → rg r → RM c m' → ∀ n', Q (.inl (some (yI r))) m' n') : PW (gZ L xs) k 45 d 33 [some (.ref 2)] [] m n Q := by
  have hX : J45_33 f A m = J45_33 f A m := rfl
  refine p_aload 34 c45_33 rfl rfl ?_
  refine p_cS 37 [.ref 2] [] c45_34 rfl rfl rfl (fun k' hk' d' => d43 (f := f) (by omega) hR) (fun r569 m571 hF567 hg568 hR572 n564 k563 hk563 => ?_)
  have hX570 := hX.trans (bI_s hF567)
  exact p_ireturn c45_37 (Hr _ _ hX570 hg568 hR572 _)
def J45_105 (f : Nat) (A : Nat) (m : yM) : Option (Int × yM) := (bI (F37 f 123 m) (fun r650 m652 => (some (r650, m652))))
set_option maxRecDepth 100000 in
theorem tJ45_105 {L : Nat} {xs : Nat → Int32} {Q : xO → yM → Nat → Prop} {k d n : Nat} {c : yS3} {f : Nat} {A : Nat} {m : yM} (hk : k ≤ f) (hc : c.1 = pX A) (hA : (A = 256 ∨ A = 316)) (hR : RM c m) (Hr : ∀ r m', J45_105 f A m = some (r, m') → rg r → RM c m' → ∀ n', Q (.inl (some (yI r))) m' n') : PW (gZ L xs) k 45 d 105 [some (.ref 2)] [] m n Q := by
  have hX : J45_105 f A m = J45_105 f A m := rfl
  refine p_aload 106 c45_105 rfl rfl ?_
  refine p_iconst 108 c45_106 rfl ?_
  refine p_cS 111 [.ref 2, yI 123] [] c45_108 rfl rfl rfl (fun k' hk' d' => d37 (f := f) (by omega) (rgD rfl) hR) (fun r650 m652 hF648 hg649 hR653 n647 k646 hk646 => ?_)
  have hX651 := hX.trans (bI_s hF648)
  exact p_ireturn c45_111 (Hr _ _ hX651 hg649 hR653 _)
def J45_90 (f : Nat) (A : Nat) (m : yM) : Option (Int × yM) := (bI (F43 f m) (fun r667 m669 => (some (r667, m669))))
set_option maxRecDepth 100000 in
theorem tJ45_90 {L : Nat} {xs : Nat → Int32} {Q : xO → yM → Nat → Prop} {k d n : Nat} {c : yS3} {f : Nat} {A : Nat} {m : yM} (hk : k ≤ f) (hc : c.1 = pX A) (hA : (A = 256 ∨ A = 316)) (hR : RM c m) (Hr : ∀ r m', J45_90 f A m = some (r, m') → rg r → RM c m' → ∀ n', Q (.inl (some (yI r))) m' n') : PW (gZ L xs) k 45 d 90 [some (.ref 2)] [] m n Q := by
  have hX : J45_90 f A m = J45_90 f A m := rfl
  refine p_aload 91 c45_90 rfl rfl ?_
  refine p_cS 94 [.ref 2] [] c45_91 rfl rfl rfl (fun k' hk' d' => d43 (f := f) (by omega) hR) (fun r667 m669 hF665 hg666 hR670 n664 k663 hk663 => ?_)
  have hX668 := hX.trans (bI_s hF665)
  exact p_ireturn c45_94 (Hr _ _ hX668 hg666 hR670 _)
def F45 (f : Nat) (A : Nat) (m : yM) : Option (Int × yM) := (bI (F37 f 1 m) (fun r547 m549 => (if r547 = 0 then (some (0, m549)) else (if F38 m549 = 11 then (bI (F42 f A (F39 m549) m549) (fun r630 m632 => (if r630 = 0 then (J45_33 f A m632) else (if F38 (yup m632 2 2 (wr ((m632 2 2) + 1))) = 58 then (if F38 (yup (yup m632 2 2 (wr ((m632 2 2) + 1))) 2 2 (wr ((wr ((m632 2 2) + 1)) + 1))) = 11 then (bI (F44 f A (F39 (yup (yup m632 2 2 (wr ((m632 2 2) + 1))) 2 2 (wr ((wr ((m632 2 2) + 1)) + 1)))) (yup (yup m632 2 2 (wr ((m632 2 2) + 1))) 2 2 (wr ((wr ((m632 2 2) + 1)) + 1)))) (fun r700 m702 => (if r700 = 0 then (J45_90 f A m702) else (J45_105 f A (yup m702 2 2 (wr ((m702 2 2) + 1))))))) else (J45_90 f A (yup (yup m632 2 2 (wr ((m632 2 2) + 1))) 2 2 (wr ((wr ((m632 2 2) + 1)) + 1))))) else (J45_105 f A (yup m632 2 2 (wr ((m632 2 2) + 1)))))))) else (J45_33 f A m549)))))
set_option maxRecDepth 100000 in
theorem d45 {L : Nat} {xs : Nat → Int32} {k d n : Nat} {c : yS3} {f : Nat} {A : Nat} {m : yM} (hk : k ≤ f) (hc : c.1 = pX A) (hA : (A = 256 ∨ A = 316)) (hR : RM c m) : PC (gZ L xs) k d 45 [.ref 2] m n (qS c (F45 f A m)) := by
  have hX : F45 f A m = F45 f A m := rfl
  have Hr : ∀ r m', F45 f A m = some (r, m') → rg r → RM c m' → ∀ n' : Nat, (qS c (F45 f A m)) (.inl (some (yI r))) m' n' := fun r m' e h1 h2 n' => ⟨r, rfl, h1, h2, e⟩
  refine PC.mk [some (.ref 2)] kn45 rfl ?_
  refine p_aload 1 c45_0 rfl rfl ?_
  refine p_iconst 2 c45_1 rfl ?_
  refine p_cS 5 [.ref 2, yI 1] [] c45_2 rfl rfl rfl (fun k' hk' d' => d37 (f := f) (by omega) (rgD rfl) hR) (fun r547 m549 hF545 hg546 hR550 n535 k534 hk534 => ?_)
  have hX548 := hX.trans (bI_s hF545)
  refine p_if 10 8 c45_5 rfl rfl (yz_ne hg546) (fun hb551 k552 hk552 => ?_) (fun hb551 k553 hk553 => ?_)
  · have hX554 := hX548.trans (if_neg hb551)
    refine p_aload 11 c45_10 rfl rfl ?_
    refine p_cX 14 [.ref 2] [] c45_11 rfl rfl rfl (fun k' hk' d' => d38 hR550) (fun hg558 n556 k555 hk555 => ?_)
    refine p_iconst 16 c45_14 rfl ?_
    refine p_icmp 33 19 c45_16 rfl rfl (yc_ne hg558 (rgD rfl)) (fun hb559 k560 hk560 => ?_) (fun hb559 k561 hk561 => ?_)
    · have hX562 := hX554.trans (if_neg hb559)
      exact tJ45_33 (f := f) (by omega) hc hA hR550 (fun r' m' e' => Hr r' m' (hX562.trans e'))
    · have hX573 := hX554.trans (if_pos (Classical.not_not.mp hb559))
      refine p_aload 20 c45_19 rfl rfl ?_
      refine p_getV 23 (.ref A) c45_20 rfl kf2_1 (pX_of hA hR550.2.2.2.1 hc) ?_
      refine p_aload 24 c45_23 rfl rfl ?_
      refine p_cX 27 [.ref 2] [.ref A] c45_24 rfl rfl rfl (fun k' hk' d' => d39 hR550) (fun hg577 n575 k574 hk574 => ?_)
      refine p_cS 30 [.ref A, yI (F39 m549)] [] c45_27 rfl rfl rfl (fun k' hk' d' => d42 (f := f) (by omega) hA hg577 hR550) (fun r630 m632 hF628 hg629 hR633 n579 k578 hk578 => ?_)
      have hX631 := hX573.trans (bI_s hF628)
      refine p_if 38 33 c45_30 rfl rfl (yz_ne hg629) (fun hb634 k635 hk635 => ?_) (fun hb634 k636 hk636 => ?_)
      · have hX637 := hX631.trans (if_neg hb634)
        refine p_aload 39 c45_38 rfl rfl ?_
        refine p_dup 40 c45_39 rfl rfl ?_
        refine p_getX 43 (m632 2 2) c45_40 rfl kf2_2 rfl ?_
        refine p_iconst 44 c45_43 rfl ?_
        refine p_iadd 45 c45_44 rfl ?_
        refine p_putI 48 c45_45 rfl kf2_2 ?_
        have hR638 := hR633.up 2 2 (v := wr ((m632 2 2) + 1)) (nselD rfl) (rg_wr _)
        refine p_aload 49 c45_48 rfl rfl ?_
        refine p_cX 52 [.ref 2] [] c45_49 rfl rfl rfl (fun k' hk' d' => d38 hR638) (fun hg641 n640 k639 hk639 => ?_)
        refine p_iconst 54 c45_52 rfl ?_
        refine p_icmp 105 57 c45_54 rfl rfl (yc_ne hg641 (rgD rfl)) (fun hb642 k643 hk643 => ?_) (fun hb642 k644 hk644 => ?_)
        · have hX645 := hX637.trans (if_neg hb642)
          exact tJ45_105 (f := f) (by omega) hc hA hR638 (fun r' m' e' => Hr r' m' (hX645.trans e'))
        · have hX654 := hX637.trans (if_pos (Classical.not_not.mp hb642))
          refine p_aload 58 c45_57 rfl rfl ?_
          refine p_dup 59 c45_58 rfl rfl ?_
          refine p_getX 62 (wr ((m632 2 2) + 1)) c45_59 rfl kf2_2 (yup_eq _ _ _ _) ?_
          refine p_iconst 63 c45_62 rfl ?_
          refine p_iadd 64 c45_63 rfl ?_
          refine p_putI 67 c45_64 rfl kf2_2 ?_
          have hR655 := hR638.up 2 2 (v := wr ((wr ((m632 2 2) + 1)) + 1)) (nselD rfl) (rg_wr _)
          refine p_aload 68 c45_67 rfl rfl ?_
          refine p_cX 71 [.ref 2] [] c45_68 rfl rfl rfl (fun k' hk' d' => d38 hR655) (fun hg658 n657 k656 hk656 => ?_)
          refine p_iconst 73 c45_71 rfl ?_
          refine p_icmp 90 76 c45_73 rfl rfl (yc_ne hg658 (rgD rfl)) (fun hb659 k660 hk660 => ?_) (fun hb659 k661 hk661 => ?_)
          · have hX662 := hX654.trans (if_neg hb659)
            exact tJ45_90 (f := f) (by omega) hc hA hR655 (fun r' m' e' => Hr r' m' (hX662.trans e'))
          · have hX671 := hX654.trans (if_pos (Classical.not_not.mp hb659))
            refine p_aload 77 c45_76 rfl rfl ?_
            refine p_getV 80 (.ref A) c45_77 rfl kf2_1 (pX_of hA hR655.2.2.2.1 hc) ?_
            refine p_aload 81 c45_80 rfl rfl ?_
            refine p_cX 84 [.ref 2] [.ref A] c45_81 rfl rfl rfl (fun k' hk' d' => d39 hR655) (fun hg674 n673 k672 hk672 => ?_)
            refine p_cS 87 [.ref A, yI (F39 (yup (yup m632 2 2 (wr ((m632 2 2) + 1))) 2 2 (wr ((wr ((m632 2 2) + 1)) + 1))))] [] c45_84 rfl rfl rfl (fun k' hk' d' => d44 (f := f) (by omega) hA hg674 hR655) (fun r700 m702 hF698 hg699 hR703 n676 k675 hk675 => ?_)
            have hX701 := hX671.trans (bI_s hF698)
            refine p_if 95 90 c45_87 rfl rfl (yz_ne hg699) (fun hb704 k705 hk705 => ?_) (fun hb704 k706 hk706 => ?_)
            · have hX707 := hX701.trans (if_neg hb704)
              refine p_aload 96 c45_95 rfl rfl ?_
              refine p_dup 97 c45_96 rfl rfl ?_
              refine p_getX 100 (m702 2 2) c45_97 rfl kf2_2 rfl ?_
              refine p_iconst 101 c45_100 rfl ?_
              refine p_iadd 102 c45_101 rfl ?_
              refine p_putI 105 c45_102 rfl kf2_2 ?_
              have hR708 := hR703.up 2 2 (v := wr ((m702 2 2) + 1)) (nselD rfl) (rg_wr _)
              exact tJ45_105 (f := f) (by omega) hc hA hR708 (fun r' m' e' => Hr r' m' (hX707.trans e'))
            · have hX709 := hX701.trans (if_pos (Classical.not_not.mp hb704))
              exact tJ45_90 (f := f) (by omega) hc hA hR703 (fun r' m' e' => Hr r' m' (hX709.trans e'))
      · have hX710 := hX631.trans (if_pos (Classical.not_not.mp hb634))
        exact tJ45_33 (f := f) (by omega) hc hA hR633 (fun r' m' e' => Hr r' m' (hX710.trans e'))
  · have hX711 := hX548.trans (if_pos (Classical.not_not.mp hb551))
    refine p_iconst 9 c45_8 rfl ?_
    exact p_ireturn c45_9 (Hr _ _ hX711 (rgD rfl) hR550 _)
def B40_8_2 (f : Nat) (a0 : Nat) (x1 : Int) (x2 : Int) (x3 : Int) (m : yM) : Option (Int ⊕ (Int ⊕ Int)) := (if x3 < x1 then (if m a0 x3.toNat = x2 then (some (.inr (.inr x3))) else (some (.inl (wr (x3 + 1))))) else (some (.inr (.inl x3))))
set_option maxRecDepth 100000 in
theorem tB40_8_2 {L : Nat} {xs : Nat → Int32} {Q : xO → yM → Nat → Prop} {k d n : Nat} {c : yS3} {f : Nat} {a0 : Nat} {x1 : Int} {x2 : Int} {x3 : Int} {m : yM} (hk : k ≤ f) (hr0 : yarr gSh 414 a0 = some (0, 8)) (hq0 : (257 ≤ a0 ∧ a0 < 261) ∨ (317 ≤ a0 ∧ a0 < 321)) (gx1 : rg x1) (gx2 : rg x2) (gx3 : rg x3) (hR : RM c m) (Hn : ∀ (y0 : Int) (n' : Nat), B40_8_2 f a0 x1 x2 x3 m = some (.inl y0) → rg y0 → ∀ k', k' < k → PW (gZ L xs) k' 40 d 2 [some (.ref a0), some (yI x1), some (yI x2), some (yI y0)] [] m n' Q) (He : ∀ (y0 : Int) (n' : Nat), B40_8_2 f a0 x1 x2 x3 m = some (.inr (.inl y0)) → rg y0 → ∀ k', k' ≤ k → PW (gZ L xs) k' 40 d 22 [some (.ref a0), some (yI x1), some (yI x2), some (yI y0)] [] m n' Q) (Hr : ∀ r, B40_8_2 f a0 x1 x2 x3 m = some (.inr (.inr r)) → rg r → ∀ n', Q (.inl (some (yI r))) m n') : PW (gZ L xs) k 40 d 2 [some (.ref a0), some (yI x1), some (yI x2), some (yI x3)] [] m n Q := by
  have hX : B40_8_2 f a0 x1 x2 x3 m = B40_8_2 f a0 x1 x2 x3 m := rfl
  refine p_iload 3 c40_2 rfl rfl ?_
  refine p_iload 4 c40_3 rfl rfl ?_
  refine p_icmp 22 7 c40_4 rfl rfl ((yc_ge gx3 gx1).trans Int.not_lt.symm) (fun hb766 k767 hk767 => ?_) (fun hb766 k768 hk768 => ?_)
  · have hX769 := hX.trans (if_neg hb766)
    exact He _ _ hX769 gx3 _ (by omega)
  · have hX770 := hX.trans (if_pos (Classical.not_not.mp hb766))
    refine p_aload 8 c40_7 rfl rfl ?_
    refine p_iload 9 c40_8 rfl rfl ?_
    refine p_iaX 10 (m a0 x3.toNat) c40_9 rfl hr0 gx3 rfl (fun hx771 => ?_)
    refine p_iload 11 c40_10 rfl rfl ?_
    refine p_icmp 16 14 c40_11 rfl rfl (yc_ne (hR.rg _ _) gx2) (fun hb772 k773 hk773 => ?_) (fun hb772 k774 hk774 => ?_)
    · have hX775 := hX770.trans (if_neg hb772)
      refine p_iinc 19 c40_16 rfl rfl rfl ?_
      refine p_gotoD 2 c40_19 rfl (fun k776 hk776 => ?_)
      exact Hn _ _ hX775 (rg_wr _) _ (by omega)
    · have hX777 := hX770.trans (if_pos (Classical.not_not.mp hb772))
      refine p_iload 15 c40_14 rfl rfl ?_
      exact p_ireturn c40_15 (Hr _ hX777 gx3 _)
def F40_8 (f : Nat) (a0 : Nat) (x1 : Int) (x2 : Int) (m : yM) : Option Int := (bQ (ploop (fun (l : Int) => B40_8_2 f a0 x1 x2 l m) f 0) (fun l778 => (some ((-1)))) (fun r => some r))
set_option maxRecDepth 100000 in
theorem d40_8 {L : Nat} {xs : Nat → Int32} {k d n : Nat} {c : yS3} {f : Nat} {a0 : Nat} {x1 : Int} {x2 : Int} {m : yM} (hk : k ≤ f) (hr0 : yarr gSh 414 a0 = some (0, 8)) (hq0 : (257 ≤ a0 ∧ a0 < 261) ∨ (317 ≤ a0 ∧ a0 < 321)) (gx1 : rg x1) (gx2 : rg x2) (hR : RM c m) : PC (gZ L xs) k d 40 [.ref a0, yI x1, yI x2] m n (qO m (F40_8 f a0 x1 x2 m)) := by
  have hX : F40_8 f a0 x1 x2 m = F40_8 f a0 x1 x2 m := rfl
  have Hr : ∀ r, F40_8 f a0 x1 x2 m = some r → rg r → ∀ n' : Nat, (qO m (F40_8 f a0 x1 x2 m)) (.inl (some (yI r))) m n' := fun r e h n' => ⟨r, rfl, h, rfl, e⟩
  refine PC.mk [some (.ref a0), some (yI x1), some (yI x2), none] kn40 rfl ?_
  refine p_iconst 1 c40_0 rfl ?_
  refine p_istore 2 c40_1 rfl rfl ?_
  refine PW.ploop (K := k) (pce := 22) (fun (l : Int) => B40_8_2 f a0 x1 x2 l m) (fun (l : Int) j => [some (.ref a0), some (yI x1), some (yI x2), some (yI l)]) (fun (l : Int) => rg l) (fun r' => rg r' → ∀ n' : Nat, (qO m (F40_8 f a0 x1 x2 m)) (.inl (some (yI r'))) m n') (fun k' hk' l j n' hl Hn' He' Hr' => tB40_8_2 (f := f) (by omega) hr0 (by omega) gx1 gx2 hl hR (fun y0 n2 e h0 => Hn' y0 (fun q => ([none, none, none, none] : List (Option Value)).getD q none) n2 e h0) (fun y0 n2 e h0 => He' y0 (fun q => ([none, none, none, none] : List (Option Value)).getD q none) n2 e h0) Hr') f k (by omega) (Nat.le_refl _) 0 (fun q => ([some (.ref a0), some (yI x1), some (yI x2), some (yI 0)] : xL).getD q none) _ (rgD rfl) (fun l778 j781 n783 e780 hl779 k782 hk782 => ?_) (fun r' e' => ?_)
  · have hX784 := hX.trans (bQ_l e780)
    refine p_iconst 23 c40_22 rfl ?_
    exact p_ireturn c40_23 (Hr _ hX784 (rgD rfl) _)
  · exact Hr r' (hX.trans (bQ_r e'))
def F46 (f : Nat) (A : Nat) (x1 : Int) (m : yM) : Option Int := (bP (F40_8 f (A + 4) (m A 11) x1 m) (fun r787 => (some r787)))
set_option maxRecDepth 100000 in
theorem d46 {L : Nat} {xs : Nat → Int32} {k d n : Nat} {c : yS3} {f : Nat} {A : Nat} {x1 : Int} {m : yM} (hk : k ≤ f) (hA : (A = 256 ∨ A = 316)) (gx1 : rg x1) (hR : RM c m) : PC (gZ L xs) k d 46 [.ref A, yI x1] m n (qO m (F46 f A x1 m)) := by
  have hX : F46 f A x1 m = F46 f A x1 m := rfl
  have Hr : ∀ r, F46 f A x1 m = some r → rg r → ∀ n' : Nat, (qO m (F46 f A x1 m)) (.inl (some (yI r))) m n' := fun r e h n' => ⟨r, rfl, h, rfl, e⟩
  refine PC.mk [some (.ref A), some (yI x1)] kn46 rfl ?_
  refine p_aload 1 c46_0 rfl rfl ?_
  refine p_getR 4 c46_1 rfl (kP_3 hA) ?_
  refine p_aload 5 c46_4 rfl rfl ?_
  refine p_getX 8 (m A 11) c46_5 rfl (kP_11 hA) rfl ?_
  refine p_iload 9 c46_8 rfl rfl ?_
  refine p_cO 12 [.ref (A + 4), yI (m A 11), yI x1] [] c46_9 rfl rfl rfl (fun k' hk' d' => d40_8 (f := f) (by omega) (kPa_4 hA) (by omega) (hR.rg _ _) gx1 hR) (fun r787 hF785 hg786 n765 k764 hk764 => ?_)
  have hX788 := hX.trans (bP_s hF785)
  exact p_ireturn c46_12 (Hr _ hX788 hg786 _)
def F47 (A : Nat) (x1 : Int) (x2 : Int) (m : yM) : Int := (if x2 = (-1) then 0 else (if iAnd (iShr (m (A + 3) x1.toNat) x2) 1 = 1 then 1 else 0))
set_option maxRecDepth 100000 in
theorem d47 {L : Nat} {xs : Nat → Int32} {k d n : Nat} {c : yS3} {A : Nat} {x1 : Int} {x2 : Int} {m : yM} (hA : (A = 256 ∨ A = 316)) (gx1 : rg x1) (gx2 : rg x2) (hR : RM c m) : PC (gZ L xs) k d 47 [.ref A, yI x1, yI x2] m n (qX m (F47 A x1 x2 m)) := by
  have hX : F47 A x1 x2 m = F47 A x1 x2 m := rfl
  have Hr : ∀ r, F47 A x1 x2 m = r → rg r → ∀ n' : Nat, (qX m (F47 A x1 x2 m)) (.inl (some (yI r))) m n' := fun r e h n' => by subst e; exact ⟨rfl, h, rfl⟩
  refine PC.mk [some (.ref A), some (yI x1), some (yI x2)] kn47 rfl ?_
  refine p_iload 1 c47_0 rfl rfl ?_
  refine p_iconst 2 c47_1 rfl ?_
  refine p_icmp 23 5 c47_2 rfl rfl (yc_eq gx2 (rgD rfl)) (fun hb799 k800 hk800 => ?_) (fun hb799 k801 hk801 => ?_)
  · have hX802 := hX.trans (if_pos hb799)
    refine p_iconst 24 c47_23 rfl ?_
    exact p_ireturn c47_24 (Hr _ hX802 (rgD rfl) _)
  · have hX803 := hX.trans (if_neg hb799)
    refine p_aload 6 c47_5 rfl rfl ?_
    refine p_getR 9 c47_6 rfl (kP_2 hA) ?_
    refine p_iload 10 c47_9 rfl rfl ?_
    refine p_iaX 11 (m (A + 3) x1.toNat) c47_10 rfl (kPa_3 hA) gx1 rfl (fun hx804 => ?_)
    refine p_iload 12 c47_11 rfl rfl ?_
    refine p_ishr 13 c47_12 rfl ?_
    refine p_iconst 14 c47_13 rfl ?_
    refine p_iand 15 c47_14 rfl ?_
    refine p_iconst 16 c47_15 rfl ?_
    refine p_icmp 23 19 c47_16 rfl rfl (yc_ne (rg_to _) (rgD rfl)) (fun hb805 k806 hk806 => ?_) (fun hb805 k807 hk807 => ?_)
    · have hX808 := hX803.trans (if_neg hb805)
      refine p_iconst 24 c47_23 rfl ?_
      exact p_ireturn c47_24 (Hr _ hX808 (rgD rfl) _)
    · have hX809 := hX803.trans (if_pos (Classical.not_not.mp hb805))
      refine p_iconst 20 c47_19 rfl ?_
      refine p_goto 24 c47_20 rfl ?_
      exact p_ireturn c47_24 (Hr _ hX809 (rgD rfl) _)
def J48_54 (f : Nat) (A : Nat) (x2 : Int) (x3 : Int) (m : yM) : Option (Int × yM) := (if F47 A x2 x3 m = 0 then (some (1, yup m (A + 3) x2.toNat (iOr (m (A + 3) x2.toNat) (iShl 1 x3)))) else (some (0, m)))
set_option maxRecDepth 100000 in
theorem tJ48_54 {L : Nat} {xs : Nat → Int32} {Q : xO → yM → Nat → Prop} {k d n : Nat} {c : yS3} {f : Nat} {A : Nat} {x2 : Int} {x3 : Int} {m : yM} {j1 : Option Value} (hk : k ≤ f) (hA : (A = 256 ∨ A = 316)) (gx2 : rg x2) (gx3 : rg x3) (hR : RM c m) (Hr : ∀ r m', J48_54 f A x2 x3 m = some (r, m') → rg r → RM c m' → ∀ n', Q (.inl (some (yI r))) m' n') : PW (gZ L xs) k 48 d 54 [some (.ref A), j1, some (yI x2), some (yI x3)] [] m n Q := by
  have hX : J48_54 f A x2 x3 m = J48_54 f A x2 x3 m := rfl
  refine p_aload 55 c48_54 rfl rfl ?_
  refine p_iload 56 c48_55 rfl rfl ?_
  refine p_iload 57 c48_56 rfl rfl ?_
  refine p_cX 60 [.ref A, yI x2, yI x3] [] c48_57 rfl rfl rfl (fun k' hk' d' => d47 hA gx2 gx3 hR) (fun hg810 n798 k797 hk797 => ?_)
  refine p_if 65 63 c48_60 rfl rfl (yz_eq hg810) (fun hb811 k812 hk812 => ?_) (fun hb811 k813 hk813 => ?_)
  · have hX814 := hX.trans (if_pos hb811)
    refine p_aload 66 c48_65 rfl rfl ?_
    refine p_getR 69 c48_66 rfl (kP_2 hA) ?_
    refine p_iload 70 c48_69 rfl rfl ?_
    refine p_dup2 71 c48_70 rfl ⟨rfl, rfl⟩ ?_
    refine p_iaX 72 (m (A + 3) x2.toNat) c48_71 rfl (kPa_3 hA) gx2 rfl (fun hx815 => ?_)
    refine p_iconst 73 c48_72 rfl ?_
    refine p_iload 74 c48_73 rfl rfl ?_
    refine p_ishl 75 c48_74 rfl ?_
    refine p_ior 76 c48_75 rfl ?_
    refine p_iaS 77 c48_76 rfl (kPa_3 hA) gx2 (iOr (m (A + 3) x2.toNat) (iShl 1 x3)) (nar0 (rg_to _)) (fun hx816 => ?_)
    have hR817 := hR.up (A + 3) x2.toNat (v := iOr (m (A + 3) x2.toNat) (iShl 1 x3)) (nselA (by omega)) (rg_to _)
    refine p_iconst 78 c48_77 rfl ?_
    exact p_ireturn c48_78 (Hr _ _ hX814 (rgD rfl) hR817 _)
  · have hX818 := hX.trans (if_neg hb811)
    refine p_iconst 64 c48_63 rfl ?_
    exact p_ireturn c48_64 (Hr _ _ hX818 (rgD rfl) hR _)
def F48 (f : Nat) (A : Nat) (x1 : Int) (m : yM) : Option (Int × yM) := (bP (F46 f A x1 m) (fun r791 => (if r791 = (-1) then (if m A 11 = 8 then (some (0, m)) else (J48_54 f A (wr ((m A 9) - 1)) (m A 11) (yup (yup m (A + 4) (m A 11).toNat x1) A 11 (wr ((m A 11) + 1))))) else (J48_54 f A (wr ((m A 9) - 1)) r791 m))))
set_option maxRecDepth 100000 in
theorem d48 {L : Nat} {xs : Nat → Int32} {k d n : Nat} {c : yS3} {f : Nat} {A : Nat} {x1 : Int} {m : yM} (hk : k ≤ f) (hA : (A = 256 ∨ A = 316)) (gx1 : rg x1) (hR : RM c m) : PC (gZ L xs) k d 48 [.ref A, yI x1] m n (qS c (F48 f A x1 m)) := by
  have hX : F48 f A x1 m = F48 f A x1 m := rfl
  have Hr : ∀ r m', F48 f A x1 m = some (r, m') → rg r → RM c m' → ∀ n' : Nat, (qS c (F48 f A x1 m)) (.inl (some (yI r))) m' n' := fun r m' e h1 h2 n' => ⟨r, rfl, h1, h2, e⟩
  refine PC.mk [some (.ref A), some (yI x1), none, none] kn48 rfl ?_
  refine p_aload 1 c48_0 rfl rfl ?_
  refine p_getX 4 (m A 9) c48_1 rfl (kP_9 hA) rfl ?_
  refine p_iconst 5 c48_4 rfl ?_
  refine p_isub 6 c48_5 rfl ?_
  refine p_istore 7 c48_6 rfl rfl ?_
  refine p_aload 8 c48_7 rfl rfl ?_
  refine p_iload 9 c48_8 rfl rfl ?_
  refine p_cO 12 [.ref A, yI x1] [] c48_9 rfl rfl rfl (fun k' hk' d' => d46 (f := f) (by omega) hA gx1 hR) (fun r791 hF789 hg790 n763 k762 hk762 => ?_)
  have hX792 := hX.trans (bP_s hF789)
  refine p_istore 13 c48_12 rfl rfl ?_
  refine p_iload 14 c48_13 rfl rfl ?_
  refine p_iconst 15 c48_14 rfl ?_
  refine p_icmp 54 18 c48_15 rfl rfl (yc_ne hg790 (rgD rfl)) (fun hb793 k794 hk794 => ?_) (fun hb793 k795 hk795 => ?_)
  · have hX796 := hX792.trans (if_neg hb793)
    exact tJ48_54 (f := f) (by omega) hA (rg_wr _) hg790 hR (fun r' m' e' => Hr r' m' (hX796.trans e'))
  · have hX819 := hX792.trans (if_pos (Classical.not_not.mp hb793))
    refine p_aload 19 c48_18 rfl rfl ?_
    refine p_getX 22 (m A 11) c48_19 rfl (kP_11 hA) rfl ?_
    refine p_iconst 24 c48_22 rfl ?_
    refine p_icmp 29 27 c48_24 rfl rfl (yc_ne (hR.rg _ _) (rgD rfl)) (fun hb820 k821 hk821 => ?_) (fun hb820 k822 hk822 => ?_)
    · have hX823 := hX819.trans (if_neg hb820)
      refine p_aload 30 c48_29 rfl rfl ?_
      refine p_getX 33 (m A 11) c48_30 rfl (kP_11 hA) rfl ?_
      refine p_istore 34 c48_33 rfl rfl ?_
      refine p_aload 35 c48_34 rfl rfl ?_
      refine p_getR 38 c48_35 rfl (kP_3 hA) ?_
      refine p_aload 39 c48_38 rfl rfl ?_
      refine p_getX 42 (m A 11) c48_39 rfl (kP_11 hA) rfl ?_
      refine p_iload 43 c48_42 rfl rfl ?_
      refine p_iaS 44 c48_43 rfl (kPa_4 hA) (hR.rg _ _) x1 (nar0 gx1) (fun hx824 => ?_)
      have hR825 := hR.up (A + 4) (m A 11).toNat (v := x1) (nselA (by omega)) gx1
      refine p_aload 45 c48_44 rfl rfl ?_
      refine p_dup 46 c48_45 rfl rfl ?_
      refine p_getX 49 (m A 11) c48_46 rfl (kP_11 hA) (yup_na (by omega)) ?_
      refine p_iconst 50 c48_49 rfl ?_
      refine p_iadd 51 c48_50 rfl ?_
      refine p_putI 54 c48_51 rfl (kP_11 hA) ?_
      have hR826 := hR825.up A 11 (v := wr ((m A 11) + 1)) (nselA (by omega)) (rg_wr _)
      exact tJ48_54 (f := f) (by omega) hA (rg_wr _) (hR.rg _ _) hR826 (fun r' m' e' => Hr r' m' (hX823.trans e'))
    · have hX827 := hX819.trans (if_pos (Classical.not_not.mp hb820))
      refine p_iconst 28 c48_27 rfl ?_
      exact p_ireturn c48_28 (Hr _ _ hX827 (rgD rfl) hR _)
def J49_33 (f : Nat) (A : Nat) (m : yM) : Option (Int × yM) := (bI (F43 f m) (fun r752 m754 => (some (r752, m754))))
set_option maxRecDepth 100000 in
theorem tJ49_33 {L : Nat} {xs : Nat → Int32} {Q : xO → yM → Nat → Prop} {k d n : Nat} {c : yS3} {f : Nat} {A : Nat} {m : yM} (hk : k ≤ f) (hc : c.1 = pX A) (hA : (A = 256 ∨ A = 316)) (hR : RM c m) (Hr : ∀ r m', J49_33 f A m = some (r, m') → rg r → RM c m' → ∀ n', Q (.inl (some (yI r))) m' n') : PW (gZ L xs) k 49 d 33 [some (.ref 2)] [] m n Q := by
  have hX : J49_33 f A m = J49_33 f A m := rfl
  refine p_aload 34 c49_33 rfl rfl ?_
  refine p_cS 37 [.ref 2] [] c49_34 rfl rfl rfl (fun k' hk' d' => d43 (f := f) (by omega) hR) (fun r752 m754 hF750 hg751 hR755 n749 k748 hk748 => ?_)
  have hX753 := hX.trans (bI_s hF750)
  exact p_ireturn c49_37 (Hr _ _ hX753 hg751 hR755 _)
def F49 (f : Nat) (A : Nat) (m : yM) : Option (Int × yM) := (if F38 (yup m 2 2 (wr ((m 2 2) + 1))) = 11 then (bI (F48 f A (F39 (yup m 2 2 (wr ((m 2 2) + 1)))) (yup m 2 2 (wr ((m 2 2) + 1)))) (fun r830 m832 => (if r830 = 0 then (J49_33 f A m832) else (bI (F37 f 59 (yup m832 2 2 (wr ((m832 2 2) + 1)))) (fun r843 m845 => (some (r843, m845))))))) else (J49_33 f A (yup m 2 2 (wr ((m 2 2) + 1)))))
set_option maxRecDepth 100000 in
theorem d49 {L : Nat} {xs : Nat → Int32} {k d n : Nat} {c : yS3} {f : Nat} {A : Nat} {m : yM} (hk : k ≤ f) (hc : c.1 = pX A) (hA : (A = 256 ∨ A = 316)) (hR : RM c m) : PC (gZ L xs) k d 49 [.ref 2] m n (qS c (F49 f A m)) := by
  have hX : F49 f A m = F49 f A m := rfl
  have Hr : ∀ r m', F49 f A m = some (r, m') → rg r → RM c m' → ∀ n' : Nat, (qS c (F49 f A m)) (.inl (some (yI r))) m' n' := fun r m' e h1 h2 n' => ⟨r, rfl, h1, h2, e⟩
  refine PC.mk [some (.ref 2)] kn49 rfl ?_
  refine p_aload 1 c49_0 rfl rfl ?_
  refine p_dup 2 c49_1 rfl rfl ?_
  refine p_getX 5 (m 2 2) c49_2 rfl kf2_2 rfl ?_
  refine p_iconst 6 c49_5 rfl ?_
  refine p_iadd 7 c49_6 rfl ?_
  refine p_putI 10 c49_7 rfl kf2_2 ?_
  have hR740 := hR.up 2 2 (v := wr ((m 2 2) + 1)) (nselD rfl) (rg_wr _)
  refine p_aload 11 c49_10 rfl rfl ?_
  refine p_cX 14 [.ref 2] [] c49_11 rfl rfl rfl (fun k' hk' d' => d38 hR740) (fun hg743 n742 k741 hk741 => ?_)
  refine p_iconst 16 c49_14 rfl ?_
  refine p_icmp 33 19 c49_16 rfl rfl (yc_ne hg743 (rgD rfl)) (fun hb744 k745 hk745 => ?_) (fun hb744 k746 hk746 => ?_)
  · have hX747 := hX.trans (if_neg hb744)
    exact tJ49_33 (f := f) (by omega) hc hA hR740 (fun r' m' e' => Hr r' m' (hX747.trans e'))
  · have hX756 := hX.trans (if_pos (Classical.not_not.mp hb744))
    refine p_aload 20 c49_19 rfl rfl ?_
    refine p_getV 23 (.ref A) c49_20 rfl kf2_1 (pX_of hA hR740.2.2.2.1 hc) ?_
    refine p_aload 24 c49_23 rfl rfl ?_
    refine p_cX 27 [.ref 2] [.ref A] c49_24 rfl rfl rfl (fun k' hk' d' => d39 hR740) (fun hg759 n758 k757 hk757 => ?_)
    refine p_cS 30 [.ref A, yI (F39 (yup m 2 2 (wr ((m 2 2) + 1))))] [] c49_27 rfl rfl rfl (fun k' hk' d' => d48 (f := f) (by omega) hA hg759 hR740) (fun r830 m832 hF828 hg829 hR833 n761 k760 hk760 => ?_)
    have hX831 := hX756.trans (bI_s hF828)
    refine p_if 38 33 c49_30 rfl rfl (yz_ne hg829) (fun hb834 k835 hk835 => ?_) (fun hb834 k836 hk836 => ?_)
    · have hX837 := hX831.trans (if_neg hb834)
      refine p_aload 39 c49_38 rfl rfl ?_
      refine p_dup 40 c49_39 rfl rfl ?_
      refine p_getX 43 (m832 2 2) c49_40 rfl kf2_2 rfl ?_
      refine p_iconst 44 c49_43 rfl ?_
      refine p_iadd 45 c49_44 rfl ?_
      refine p_putI 48 c49_45 rfl kf2_2 ?_
      have hR838 := hR833.up 2 2 (v := wr ((m832 2 2) + 1)) (nselD rfl) (rg_wr _)
      refine p_aload 49 c49_48 rfl rfl ?_
      refine p_iconst 51 c49_49 rfl ?_
      refine p_cS 54 [.ref 2, yI 59] [] c49_51 rfl rfl rfl (fun k' hk' d' => d37 (f := f) (by omega) (rgD rfl) hR838) (fun r843 m845 hF841 hg842 hR846 n840 k839 hk839 => ?_)
      have hX844 := hX837.trans (bI_s hF841)
      exact p_ireturn c49_54 (Hr _ _ hX844 hg842 hR846 _)
    · have hX847 := hX831.trans (if_pos (Classical.not_not.mp hb834))
      exact tJ49_33 (f := f) (by omega) hc hA hR833 (fun r' m' e' => Hr r' m' (hX847.trans e'))
def J50_38 (f : Nat) (A : Nat) (x1 : Int) (x2 : Int) (x3 : Int) : Option (Int ⊕ (Int ⊕ Int)) := (some (.inl (wr (x3 + 1))))
set_option maxRecDepth 100000 in
theorem tJ50_38 {L : Nat} {xs : Nat → Int32} {Q : xO → yM → Nat → Prop} {k d n : Nat} {c : yS3} {f : Nat} {A : Nat} {x1 : Int} {x2 : Int} {x3 : Int} {m : yM} (hk : k ≤ f) (hA : (A = 256 ∨ A = 316)) (gx1 : rg x1) (gx2 : rg x2) (gx3 : rg x3) (hR : RM c m) (Hn : ∀ (y0 : Int) (n' : Nat), J50_38 f A x1 x2 x3 = some (.inl y0) → rg y0 → ∀ k', k' < k → PW (gZ L xs) k' 50 d 2 [some (.ref A), some (yI x1), some (yI x2), some (yI y0)] [] m n' Q) (He : ∀ (y0 : Int) (n' : Nat), J50_38 f A x1 x2 x3 = some (.inr (.inl y0)) → rg y0 → ∀ k', k' ≤ k → PW (gZ L xs) k' 50 d 44 [some (.ref A), some (yI x1), some (yI x2), some (yI y0)] [] m n' Q) (Hr : ∀ r, J50_38 f A x1 x2 x3 = some (.inr (.inr r)) → rg r → ∀ n', Q (.inl (some (yI r))) m n') : PW (gZ L xs) k 50 d 38 [some (.ref A), some (yI x1), some (yI x2), some (yI x3)] [] m n Q := by
  have hX : J50_38 f A x1 x2 x3 = J50_38 f A x1 x2 x3 := rfl
  refine p_iinc 41 c50_38 rfl rfl rfl ?_
  refine p_gotoD 2 c50_41 rfl (fun k904 hk904 => ?_)
  exact Hn _ _ hX (rg_wr _) _ (by omega)
def B50_2 (f : Nat) (A : Nat) (x1 : Int) (x2 : Int) (x3 : Int) (m : yM) : Option (Int ⊕ (Int ⊕ Int)) := (if x3 < m A 10 then (if m (A + 10 + (x3).toNat) 1 = x1 then (if m (A + 10 + (x3).toNat) 0 = x2 then (some (.inr (.inr x3))) else (J50_38 f A x1 x2 x3)) else (J50_38 f A x1 x2 x3)) else (some (.inr (.inl x3))))
set_option maxRecDepth 100000 in
theorem tB50_2 {L : Nat} {xs : Nat → Int32} {Q : xO → yM → Nat → Prop} {k d n : Nat} {c : yS3} {f : Nat} {A : Nat} {x1 : Int} {x2 : Int} {x3 : Int} {m : yM} (hk : k ≤ f) (hA : (A = 256 ∨ A = 316)) (gx1 : rg x1) (gx2 : rg x2) (gx3 : rg x3) (hR : RM c m) (Hn : ∀ (y0 : Int) (n' : Nat), B50_2 f A x1 x2 x3 m = some (.inl y0) → rg y0 → ∀ k', k' < k → PW (gZ L xs) k' 50 d 2 [some (.ref A), some (yI x1), some (yI x2), some (yI y0)] [] m n' Q) (He : ∀ (y0 : Int) (n' : Nat), B50_2 f A x1 x2 x3 m = some (.inr (.inl y0)) → rg y0 → ∀ k', k' ≤ k → PW (gZ L xs) k' 50 d 44 [some (.ref A), some (yI x1), some (yI x2), some (yI y0)] [] m n' Q) (Hr : ∀ r, B50_2 f A x1 x2 x3 m = some (.inr (.inr r)) → rg r → ∀ n', Q (.inl (some (yI r))) m n') : PW (gZ L xs) k 50 d 2 [some (.ref A), some (yI x1), some (yI x2), some (yI x3)] [] m n Q := by
  have hX : B50_2 f A x1 x2 x3 m = B50_2 f A x1 x2 x3 m := rfl
  refine p_iload 3 c50_2 rfl rfl ?_
  refine p_aload 4 c50_3 rfl rfl ?_
  refine p_getX 7 (m A 10) c50_4 rfl (kP_10 hA) rfl ?_
  refine p_icmp 44 10 c50_7 rfl rfl ((yc_ge gx3 (hR.rg _ _)).trans Int.not_lt.symm) (fun hb894 k895 hk895 => ?_) (fun hb894 k896 hk896 => ?_)
  · have hX897 := hX.trans (if_neg hb894)
    exact He _ _ hX897 gx3 _ (by omega)
  · have hX898 := hX.trans (if_pos (Classical.not_not.mp hb894))
    refine p_aload 11 c50_10 rfl rfl ?_
    refine p_getR 14 c50_11 rfl (kP_5 hA) ?_
    refine p_iload 15 c50_14 rfl rfl ?_
    refine p_aaX 16 c50_15 rfl (kPr_6 hA) gx3 (fun hx899 => ?_)
    refine p_getX 19 (m (A + 10 + (x3).toNat) 1) c50_16 rfl (kM_1 (kMr hA hx899)) rfl ?_
    refine p_iload 20 c50_19 rfl rfl ?_
    refine p_icmp 38 23 c50_20 rfl rfl (yc_ne (hR.rg _ _) gx1) (fun hb900 k901 hk901 => ?_) (fun hb900 k902 hk902 => ?_)
    · have hX903 := hX898.trans (if_neg hb900)
      exact tJ50_38 (f := f) (by omega) hA gx1 gx2 gx3 hR (fun y0 n' e' h0 k' hk' => Hn y0 n' (hX903.trans e') h0 k' (by omega)) (fun y0 n' e' h0 k' hk' => He y0 n' (hX903.trans e') h0 k' (by omega)) (fun r' e' => Hr r' (hX903.trans e'))
    · have hX905 := hX898.trans (if_pos (Classical.not_not.mp hb900))
      refine p_aload 24 c50_23 rfl rfl ?_
      refine p_getR 27 c50_24 rfl (kP_5 hA) ?_
      refine p_iload 28 c50_27 rfl rfl ?_
      refine p_aaX 29 c50_28 rfl (kPr_6 hA) gx3 (fun hx906 => ?_)
      refine p_getX 32 (m (A + 10 + (x3).toNat) 0) c50_29 rfl (kM_0 (kMr hA hx906)) rfl ?_
      refine p_iload 33 c50_32 rfl rfl ?_
      refine p_icmp 38 36 c50_33 rfl rfl (yc_ne (hR.rg _ _) gx2) (fun hb907 k908 hk908 => ?_) (fun hb907 k909 hk909 => ?_)
      · have hX910 := hX905.trans (if_neg hb907)
        exact tJ50_38 (f := f) (by omega) hA gx1 gx2 gx3 hR (fun y0 n' e' h0 k' hk' => Hn y0 n' (hX910.trans e') h0 k' (by omega)) (fun y0 n' e' h0 k' hk' => He y0 n' (hX910.trans e') h0 k' (by omega)) (fun r' e' => Hr r' (hX910.trans e'))
      · have hX911 := hX905.trans (if_pos (Classical.not_not.mp hb907))
        refine p_iload 37 c50_36 rfl rfl ?_
        exact p_ireturn c50_37 (Hr _ hX911 gx3 _)
def F50 (f : Nat) (A : Nat) (x1 : Int) (x2 : Int) (m : yM) : Option Int := (bQ (ploop (fun (l : Int) => B50_2 f A x1 x2 l m) f 0) (fun l912 => (some ((-1)))) (fun r => some r))
set_option maxRecDepth 100000 in
theorem d50 {L : Nat} {xs : Nat → Int32} {k d n : Nat} {c : yS3} {f : Nat} {A : Nat} {x1 : Int} {x2 : Int} {m : yM} (hk : k ≤ f) (hA : (A = 256 ∨ A = 316)) (gx1 : rg x1) (gx2 : rg x2) (hR : RM c m) : PC (gZ L xs) k d 50 [.ref A, yI x1, yI x2] m n (qO m (F50 f A x1 x2 m)) := by
  have hX : F50 f A x1 x2 m = F50 f A x1 x2 m := rfl
  have Hr : ∀ r, F50 f A x1 x2 m = some r → rg r → ∀ n' : Nat, (qO m (F50 f A x1 x2 m)) (.inl (some (yI r))) m n' := fun r e h n' => ⟨r, rfl, h, rfl, e⟩
  refine PC.mk [some (.ref A), some (yI x1), some (yI x2), none] kn50 rfl ?_
  refine p_iconst 1 c50_0 rfl ?_
  refine p_istore 2 c50_1 rfl rfl ?_
  refine PW.ploop (K := k) (pce := 44) (fun (l : Int) => B50_2 f A x1 x2 l m) (fun (l : Int) j => [some (.ref A), some (yI x1), some (yI x2), some (yI l)]) (fun (l : Int) => rg l) (fun r' => rg r' → ∀ n' : Nat, (qO m (F50 f A x1 x2 m)) (.inl (some (yI r'))) m n') (fun k' hk' l j n' hl Hn' He' Hr' => tB50_2 (f := f) (by omega) hA gx1 gx2 hl hR (fun y0 n2 e h0 => Hn' y0 (fun q => ([none, none, none, none] : List (Option Value)).getD q none) n2 e h0) (fun y0 n2 e h0 => He' y0 (fun q => ([none, none, none, none] : List (Option Value)).getD q none) n2 e h0) Hr') f k (by omega) (Nat.le_refl _) 0 (fun q => ([some (.ref A), some (yI x1), some (yI x2), some (yI 0)] : xL).getD q none) _ (rgD rfl) (fun l912 j915 n917 e914 hl913 k916 hk916 => ?_) (fun r' e' => ?_)
  · have hX918 := hX.trans (bQ_l e914)
    refine p_iconst 45 c50_44 rfl ?_
    exact p_ireturn c50_45 (Hr _ hX918 (rgD rfl) _)
  · exact Hr r' (hX.trans (bQ_r e'))
def F51 (f : Nat) (A : Nat) (x1 : Int) (m : yM) : Option (Int × yM) := (if m A 10 = 10 then (some (0, m)) else (if 48 < wr ((m A 15) + 2) then (some (0, m)) else (bP (F50 f A (wr ((m A 9) - 1)) x1 m) (fun r921 => (if r921 = (-1) then (some (1, yup (yup (yup (yup (yup (yup (yup (yup m (A + 10 + (m A 10).toNat) 0 x1) (A + 10 + (m A 10).toNat) 1 (wr ((m A 9) - 1))) (A + 10 + (m A 10).toNat) 2 (m A 15)) (A + 10 + (m A 10).toNat) 3 0) A 10 (wr ((m A 10) + 1))) (A + 5) (m A 15).toNat 0) (A + 5) (wr ((m A 15) + 1)).toNat 0) A 15 (wr ((m A 15) + 2)))) else (some (0, m)))))))
set_option maxRecDepth 100000 in
theorem d51 {L : Nat} {xs : Nat → Int32} {k d n : Nat} {c : yS3} {f : Nat} {A : Nat} {x1 : Int} {m : yM} (hk : k ≤ f) (hA : (A = 256 ∨ A = 316)) (gx1 : rg x1) (hR : RM c m) : PC (gZ L xs) k d 51 [.ref A, yI x1] m n (qS c (F51 f A x1 m)) := by
  have hX : F51 f A x1 m = F51 f A x1 m := rfl
  have Hr : ∀ r m', F51 f A x1 m = some (r, m') → rg r → RM c m' → ∀ n' : Nat, (qS c (F51 f A x1 m)) (.inl (some (yI r))) m' n' := fun r m' e h1 h2 n' => ⟨r, rfl, h1, h2, e⟩
  refine PC.mk [some (.ref A), some (yI x1), none, none] kn51 rfl ?_
  refine p_aload 1 c51_0 rfl rfl ?_
  refine p_getX 4 (m A 9) c51_1 rfl (kP_9 hA) rfl ?_
  refine p_iconst 5 c51_4 rfl ?_
  refine p_isub 6 c51_5 rfl ?_
  refine p_istore 7 c51_6 rfl rfl ?_
  refine p_aload 8 c51_7 rfl rfl ?_
  refine p_getX 11 (m A 10) c51_8 rfl (kP_10 hA) rfl ?_
  refine p_iconst 13 c51_11 rfl ?_
  refine p_icmp 37 16 c51_13 rfl rfl (yc_eq (hR.rg _ _) (rgD rfl)) (fun hb882 k883 hk883 => ?_) (fun hb882 k884 hk884 => ?_)
  · have hX885 := hX.trans (if_pos hb882)
    refine p_iconst 38 c51_37 rfl ?_
    exact p_ireturn c51_38 (Hr _ _ hX885 (rgD rfl) hR _)
  · have hX886 := hX.trans (if_neg hb882)
    refine p_aload 17 c51_16 rfl rfl ?_
    refine p_getX 20 (m A 15) c51_17 rfl (kP_15 hA) rfl ?_
    refine p_iconst 21 c51_20 rfl ?_
    refine p_iadd 22 c51_21 rfl ?_
    refine p_iconst 24 c51_22 rfl ?_
    refine p_icmp 37 27 c51_24 rfl rfl (yc_gt (rg_wr _) (rgD rfl)) (fun hb887 k888 hk888 => ?_) (fun hb887 k889 hk889 => ?_)
    · have hX890 := hX886.trans (if_pos hb887)
      refine p_iconst 38 c51_37 rfl ?_
      exact p_ireturn c51_38 (Hr _ _ hX890 (rgD rfl) hR _)
    · have hX891 := hX886.trans (if_neg hb887)
      refine p_aload 28 c51_27 rfl rfl ?_
      refine p_iload 29 c51_28 rfl rfl ?_
      refine p_iload 30 c51_29 rfl rfl ?_
      refine p_cO 33 [.ref A, yI (wr ((m A 9) - 1)), yI x1] [] c51_30 rfl rfl rfl (fun k' hk' d' => d50 (f := f) (by omega) hA (rg_wr _) gx1 hR) (fun r921 hF919 hg920 n893 k892 hk892 => ?_)
      have hX922 := hX891.trans (bP_s hF919)
      refine p_iconst 34 c51_33 rfl ?_
      refine p_icmp 39 37 c51_34 rfl rfl (yc_eq hg920 (rgD rfl)) (fun hb923 k924 hk924 => ?_) (fun hb923 k925 hk925 => ?_)
      · have hX926 := hX922.trans (if_pos hb923)
        refine p_aload 40 c51_39 rfl rfl ?_
        refine p_getR 43 c51_40 rfl (kP_5 hA) ?_
        refine p_aload 44 c51_43 rfl rfl ?_
        refine p_getX 47 (m A 10) c51_44 rfl (kP_10 hA) rfl ?_
        refine p_aaX 48 c51_47 rfl (kPr_6 hA) (hR.rg _ _) (fun hx927 => ?_)
        refine p_astore 49 c51_48 rfl rfl ?_
        refine p_aload 50 c51_49 rfl rfl ?_
        refine p_iload 51 c51_50 rfl rfl ?_
        refine p_putI 54 c51_51 rfl (kM_0 (kMr hA hx927)) ?_
        have hR928 := hR.up (A + 10 + (m A 10).toNat) 0 (v := x1) (nselA (by omega)) gx1
        refine p_aload 55 c51_54 rfl rfl ?_
        refine p_iload 56 c51_55 rfl rfl ?_
        refine p_putI 59 c51_56 rfl (kM_1 (kMr hA hx927)) ?_
        have hR929 := hR928.up (A + 10 + (m A 10).toNat) 1 (v := wr ((m A 9) - 1)) (nselA (by omega)) (rg_wr _)
        refine p_aload 60 c51_59 rfl rfl ?_
        refine p_aload 61 c51_60 rfl rfl ?_
        refine p_getX 64 (m A 15) c51_61 rfl (kP_15 hA) ((yup_na (by omega)).trans (yup_na (by omega))) ?_
        refine p_putI 67 c51_64 rfl (kM_2 (kMr hA hx927)) ?_
        have hR930 := hR929.up (A + 10 + (m A 10).toNat) 2 (v := m A 15) (nselA (by omega)) (hR.rg _ _)
        refine p_aload 68 c51_67 rfl rfl ?_
        refine p_iconst 69 c51_68 rfl ?_
        refine p_putI 72 c51_69 rfl (kM_3 (kMr hA hx927)) ?_
        have hR931 := hR930.up (A + 10 + (m A 10).toNat) 3 (v := 0) (nselA (by omega)) (rgD rfl)
        refine p_aload 73 c51_72 rfl rfl ?_
        refine p_dup 74 c51_73 rfl rfl ?_
        refine p_getX 77 (m A 10) c51_74 rfl (kP_10 hA) ((yup_na (by omega)).trans ((yup_na (by omega)).trans ((yup_na (by omega)).trans (yup_na (by omega))))) ?_
        refine p_iconst 78 c51_77 rfl ?_
        refine p_iadd 79 c51_78 rfl ?_
        refine p_putI 82 c51_79 rfl (kP_10 hA) ?_
        have hR932 := hR931.up A 10 (v := wr ((m A 10) + 1)) (nselA (by omega)) (rg_wr _)
        refine p_aload 83 c51_82 rfl rfl ?_
        refine p_getR 86 c51_83 rfl (kP_4 hA) ?_
        refine p_aload 87 c51_86 rfl rfl ?_
        refine p_getX 90 (m A 15) c51_87 rfl (kP_15 hA) ((yup_nk (by decide)).trans ((yup_na (by omega)).trans ((yup_na (by omega)).trans ((yup_na (by omega)).trans (yup_na (by omega)))))) ?_
        refine p_iconst 91 c51_90 rfl ?_
        refine p_iaS 92 c51_91 rfl (kPa_5 hA) (hR.rg _ _) 0 (nar0 (rgD rfl)) (fun hx933 => ?_)
        have hR934 := hR932.up (A + 5) (m A 15).toNat (v := 0) (nselA (by omega)) (rgD rfl)
        refine p_aload 93 c51_92 rfl rfl ?_
        refine p_getR 96 c51_93 rfl (kP_4 hA) ?_
        refine p_aload 97 c51_96 rfl rfl ?_
        refine p_getX 100 (m A 15) c51_97 rfl (kP_15 hA) ((yup_na (by omega)).trans ((yup_nk (by decide)).trans ((yup_na (by omega)).trans ((yup_na (by omega)).trans ((yup_na (by omega)).trans (yup_na (by omega))))))) ?_
        refine p_iconst 101 c51_100 rfl ?_
        refine p_iadd 102 c51_101 rfl ?_
        refine p_iconst 103 c51_102 rfl ?_
        refine p_iaS 104 c51_103 rfl (kPa_5 hA) (rg_wr _) 0 (nar0 (rgD rfl)) (fun hx935 => ?_)
        have hR936 := hR934.up (A + 5) (wr ((m A 15) + 1)).toNat (v := 0) (nselA (by omega)) (rgD rfl)
        refine p_aload 105 c51_104 rfl rfl ?_
        refine p_dup 106 c51_105 rfl rfl ?_
        refine p_getX 109 (m A 15) c51_106 rfl (kP_15 hA) ((yup_na (by omega)).trans ((yup_na (by omega)).trans ((yup_nk (by decide)).trans ((yup_na (by omega)).trans ((yup_na (by omega)).trans ((yup_na (by omega)).trans (yup_na (by omega)))))))) ?_
        refine p_iconst 110 c51_109 rfl ?_
        refine p_iadd 111 c51_110 rfl ?_
        refine p_putI 114 c51_111 rfl (kP_15 hA) ?_
        have hR937 := hR936.up A 15 (v := wr ((m A 15) + 2)) (nselA (by omega)) (rg_wr _)
        refine p_iconst 115 c51_114 rfl ?_
        exact p_ireturn c51_115 (Hr _ _ hX926 (rgD rfl) hR937 _)
      · have hX938 := hX922.trans (if_neg hb923)
        refine p_iconst 38 c51_37 rfl ?_
        exact p_ireturn c51_38 (Hr _ _ hX938 (rgD rfl) hR _)
def B52_15 (f : Nat) (A : Nat) (x1 : Int) (x2 : Int) (m : yM) : Option ((Int × yM) ⊕ ((Int × yM) ⊕ (Int × yM))) := (if x2 < m A 15 then (if m (A + 5) x2.toNat = x1 then (some (.inr (.inr (x2, m)))) else (some (.inl ((wr (x2 + 1)), m)))) else (some (.inr (.inl (x2, m)))))
set_option maxRecDepth 100000 in
theorem tB52_15 {L : Nat} {xs : Nat → Int32} {Q : xO → yM → Nat → Prop} {k d n : Nat} {c : yS3} {f : Nat} {A : Nat} {x1 : Int} {x2 : Int} {m : yM} (hk : k ≤ f) (hA : (A = 256 ∨ A = 316)) (gx1 : rg x1) (gx2 : rg x2) (hR : RM c m) (Hn : ∀ (y0 : Int) (m' : yM) (n' : Nat), B52_15 f A x1 x2 m = some (.inl (y0, m')) → rg y0 → RM c m' → ∀ k', k' < k → PW (gZ L xs) k' 52 d 15 [some (.ref A), some (yI x1), some (yI y0)] [] m' n' Q) (He : ∀ (y0 : Int) (m' : yM) (n' : Nat), B52_15 f A x1 x2 m = some (.inr (.inl (y0, m'))) → rg y0 → RM c m' → ∀ k', k' ≤ k → PW (gZ L xs) k' 52 d 41 [some (.ref A), some (yI x1), some (yI y0)] [] m' n' Q) (Hr : ∀ r m', B52_15 f A x1 x2 m = some (.inr (.inr (r, m'))) → rg r → RM c m' → ∀ n', Q (.inl (some (yI r))) m' n') : PW (gZ L xs) k 52 d 15 [some (.ref A), some (yI x1), some (yI x2)] [] m n Q := by
  have hX : B52_15 f A x1 x2 m = B52_15 f A x1 x2 m := rfl
  refine p_iload 16 c52_15 rfl rfl ?_
  refine p_aload 17 c52_16 rfl rfl ?_
  refine p_getX 20 (m A 15) c52_17 rfl (kP_15 hA) rfl ?_
  refine p_icmp 41 23 c52_20 rfl rfl ((yc_ge gx2 (hR.rg _ _)).trans Int.not_lt.symm) (fun hb1001 k1002 hk1002 => ?_) (fun hb1001 k1003 hk1003 => ?_)
  · have hX1004 := hX.trans (if_neg hb1001)
    exact He _ _ _ hX1004 gx2 hR _ (by omega)
  · have hX1005 := hX.trans (if_pos (Classical.not_not.mp hb1001))
    refine p_aload 24 c52_23 rfl rfl ?_
    refine p_getR 27 c52_24 rfl (kP_4 hA) ?_
    refine p_iload 28 c52_27 rfl rfl ?_
    refine p_iaX 29 (m (A + 5) x2.toNat) c52_28 rfl (kPa_5 hA) gx2 rfl (fun hx1006 => ?_)
    refine p_iload 30 c52_29 rfl rfl ?_
    refine p_icmp 35 33 c52_30 rfl rfl (yc_ne (hR.rg _ _) gx1) (fun hb1007 k1008 hk1008 => ?_) (fun hb1007 k1009 hk1009 => ?_)
    · have hX1010 := hX1005.trans (if_neg hb1007)
      refine p_iinc 38 c52_35 rfl rfl rfl ?_
      refine p_gotoD 15 c52_38 rfl (fun k1011 hk1011 => ?_)
      exact Hn _ _ _ hX1010 (rg_wr _) hR _ (by omega)
    · have hX1012 := hX1005.trans (if_pos (Classical.not_not.mp hb1007))
      refine p_iload 34 c52_33 rfl rfl ?_
      exact p_ireturn c52_34 (Hr _ _ hX1012 gx2 hR _)
def F52 (f : Nat) (A : Nat) (x1 : Int) (m : yM) : Option (Int × yM) := (bL (yloop (fun (l : Int) ml => B52_15 f A x1 l ml) f (m (A + 10 + (wr ((m A 10) - 1)).toNat) 2) m) (fun l1013 m1019 => (if m1019 A 15 = 48 then (some ((-1), m1019)) else (some (wr ((wr ((m1019 A 15) + 1)) - 1), yup (yup m1019 (A + 5) (m1019 A 15).toNat x1) A 15 (wr ((m1019 A 15) + 1)))))) (fun r mr => some (r, mr)))
set_option maxRecDepth 100000 in
theorem d52 {L : Nat} {xs : Nat → Int32} {k d n : Nat} {c : yS3} {f : Nat} {A : Nat} {x1 : Int} {m : yM} (hk : k ≤ f) (hA : (A = 256 ∨ A = 316)) (gx1 : rg x1) (hR : RM c m) : PC (gZ L xs) k d 52 [.ref A, yI x1] m n (qS c (F52 f A x1 m)) := by
  have hX : F52 f A x1 m = F52 f A x1 m := rfl
  have Hr : ∀ r m', F52 f A x1 m = some (r, m') → rg r → RM c m' → ∀ n' : Nat, (qS c (F52 f A x1 m)) (.inl (some (yI r))) m' n' := fun r m' e h1 h2 n' => ⟨r, rfl, h1, h2, e⟩
  refine PC.mk [some (.ref A), some (yI x1), none] kn52 rfl ?_
  refine p_aload 1 c52_0 rfl rfl ?_
  refine p_getR 4 c52_1 rfl (kP_5 hA) ?_
  refine p_aload 5 c52_4 rfl rfl ?_
  refine p_getX 8 (m A 10) c52_5 rfl (kP_10 hA) rfl ?_
  refine p_iconst 9 c52_8 rfl ?_
  refine p_isub 10 c52_9 rfl ?_
  refine p_aaX 11 c52_10 rfl (kPr_6 hA) (rg_wr _) (fun hx1000 => ?_)
  refine p_getX 14 (m (A + 10 + (wr ((m A 10) - 1)).toNat) 2) c52_11 rfl (kM_2 (kMr hA hx1000)) rfl ?_
  refine p_istore 15 c52_14 rfl rfl ?_
  refine PW.loop (K := k) (pce := 41) (fun (l : Int) ml => B52_15 f A x1 l ml) (fun (l : Int) j => [some (.ref A), some (yI x1), some (yI l)]) (fun (l : Int) => rg l) (RM c) (fun r' m' => rg r' → RM c m' → ∀ n' : Nat, (qS c (F52 f A x1 m)) (.inl (some (yI r'))) m' n') (fun k' hk' l j m' n' hl hI Hn' He' Hr' => tB52_15 (f := f) (by omega) hA gx1 hl hI (fun y0 m2 n2 e h0 hR2 => Hn' y0 (fun q => ([none, none, none] : List (Option Value)).getD q none) m2 n2 e h0 hR2) (fun y0 m2 n2 e h0 hR2 => He' y0 (fun q => ([none, none, none] : List (Option Value)).getD q none) m2 n2 e h0 hR2) Hr') f k (by omega) (Nat.le_refl _) (m (A + 10 + (wr ((m A 10) - 1)).toNat) 2) (fun q => ([some (.ref A), some (yI x1), some (yI (m (A + 10 + (wr ((m A 10) - 1)).toNat) 2))] : xL).getD q none) _ _ (hR.rg _ _) hR (fun l1013 j1016 m1019 n1018 e1015 hl1014 hR1020 k1017 hk1017 => ?_) (fun r' m' e' => ?_)
  · have hX1021 := hX.trans (bL_l e1015)
    refine p_aload 42 c52_41 rfl rfl ?_
    refine p_getX 45 (m1019 A 15) c52_42 rfl (kP_15 hA) rfl ?_
    refine p_iconst 47 c52_45 rfl ?_
    refine p_icmp 52 50 c52_47 rfl rfl (yc_ne (hR1020.rg _ _) (rgD rfl)) (fun hb1022 k1023 hk1023 => ?_) (fun hb1022 k1024 hk1024 => ?_)
    · have hX1025 := hX1021.trans (if_neg hb1022)
      refine p_aload 53 c52_52 rfl rfl ?_
      refine p_getR 56 c52_53 rfl (kP_4 hA) ?_
      refine p_aload 57 c52_56 rfl rfl ?_
      refine p_getX 60 (m1019 A 15) c52_57 rfl (kP_15 hA) rfl ?_
      refine p_iload 61 c52_60 rfl rfl ?_
      refine p_iaS 62 c52_61 rfl (kPa_5 hA) (hR1020.rg _ _) x1 (nar0 gx1) (fun hx1026 => ?_)
      have hR1027 := hR1020.up (A + 5) (m1019 A 15).toNat (v := x1) (nselA (by omega)) gx1
      refine p_aload 63 c52_62 rfl rfl ?_
      refine p_dup 64 c52_63 rfl rfl ?_
      refine p_getX 67 (m1019 A 15) c52_64 rfl (kP_15 hA) (yup_na (by omega)) ?_
      refine p_iconst 68 c52_67 rfl ?_
      refine p_iadd 69 c52_68 rfl ?_
      refine p_putI 72 c52_69 rfl (kP_15 hA) ?_
      have hR1028 := hR1027.up A 15 (v := wr ((m1019 A 15) + 1)) (nselA (by omega)) (rg_wr _)
      refine p_aload 73 c52_72 rfl rfl ?_
      refine p_getX 76 (wr ((m1019 A 15) + 1)) c52_73 rfl (kP_15 hA) (yup_eq _ _ _ _) ?_
      refine p_iconst 77 c52_76 rfl ?_
      refine p_isub 78 c52_77 rfl ?_
      exact p_ireturn c52_78 (Hr _ _ hX1025 (rg_wr _) hR1028 _)
    · have hX1029 := hX1021.trans (if_pos (Classical.not_not.mp hb1022))
      refine p_iconst 51 c52_50 rfl ?_
      exact p_ireturn c52_51 (Hr _ _ hX1029 (rgD rfl) hR1020 _)
  · exact Hr r' m' (hX.trans (bL_r e'))
def F53 (f : Nat) (A : Nat) (x1 : Int) (m : yM) : Option (Int × yM) := (bI (F52 f A x1 m) (fun r1032 m1034 => (if m1034 A 15 = m A 15 then (some (0, m1034)) else (some (1, yup m1034 (A + 10 + (wr ((m1034 A 10) - 1)).toNat) 3 (wr ((m1034 (A + 10 + (wr ((m1034 A 10) - 1)).toNat) 3) + 1)))))))
set_option maxRecDepth 100000 in
theorem d53 {L : Nat} {xs : Nat → Int32} {k d n : Nat} {c : yS3} {f : Nat} {A : Nat} {x1 : Int} {m : yM} (hk : k ≤ f) (hA : (A = 256 ∨ A = 316)) (gx1 : rg x1) (hR : RM c m) : PC (gZ L xs) k d 53 [.ref A, yI x1] m n (qS c (F53 f A x1 m)) := by
  have hX : F53 f A x1 m = F53 f A x1 m := rfl
  have Hr : ∀ r m', F53 f A x1 m = some (r, m') → rg r → RM c m' → ∀ n' : Nat, (qS c (F53 f A x1 m)) (.inl (some (yI r))) m' n' := fun r m' e h1 h2 n' => ⟨r, rfl, h1, h2, e⟩
  refine PC.mk [some (.ref A), some (yI x1), none] kn53 rfl ?_
  refine p_aload 1 c53_0 rfl rfl ?_
  refine p_getX 4 (m A 15) c53_1 rfl (kP_15 hA) rfl ?_
  refine p_istore 5 c53_4 rfl rfl ?_
  refine p_aload 6 c53_5 rfl rfl ?_
  refine p_iload 7 c53_6 rfl rfl ?_
  refine p_cS 10 [.ref A, yI x1] [] c53_7 rfl rfl rfl (fun k' hk' d' => d52 (f := f) (by omega) hA gx1 hR) (fun r1032 m1034 hF1030 hg1031 hR1035 n999 k998 hk998 => ?_)
  have hX1033 := hX.trans (bI_s hF1030)
  refine p_pop 11 c53_10 rfl rfl ?_
  refine p_aload 12 c53_11 rfl rfl ?_
  refine p_getX 15 (m1034 A 15) c53_12 rfl (kP_15 hA) rfl ?_
  refine p_iload 16 c53_15 rfl rfl ?_
  refine p_icmp 21 19 c53_16 rfl rfl (yc_ne (hR1035.rg _ _) (hR.rg _ _)) (fun hb1036 k1037 hk1037 => ?_) (fun hb1036 k1038 hk1038 => ?_)
  · have hX1039 := hX1033.trans (if_neg hb1036)
    refine p_aload 22 c53_21 rfl rfl ?_
    refine p_getR 25 c53_22 rfl (kP_5 hA) ?_
    refine p_aload 26 c53_25 rfl rfl ?_
    refine p_getX 29 (m1034 A 10) c53_26 rfl (kP_10 hA) rfl ?_
    refine p_iconst 30 c53_29 rfl ?_
    refine p_isub 31 c53_30 rfl ?_
    refine p_aaX 32 c53_31 rfl (kPr_6 hA) (rg_wr _) (fun hx1040 => ?_)
    refine p_dup 33 c53_32 rfl rfl ?_
    refine p_getX 36 (m1034 (A + 10 + (wr ((m1034 A 10) - 1)).toNat) 3) c53_33 rfl (kM_3 (kMr hA hx1040)) rfl ?_
    refine p_iconst 37 c53_36 rfl ?_
    refine p_iadd 38 c53_37 rfl ?_
    refine p_putI 41 c53_38 rfl (kM_3 (kMr hA hx1040)) ?_
    have hR1041 := hR1035.up (A + 10 + (wr ((m1034 A 10) - 1)).toNat) 3 (v := wr ((m1034 (A + 10 + (wr ((m1034 A 10) - 1)).toNat) 3) + 1)) (nselA (by omega)) (rg_wr _)
    refine p_iconst 42 c53_41 rfl ?_
    exact p_ireturn c53_42 (Hr _ _ hX1039 (rgD rfl) hR1041 _)
  · have hX1042 := hX1033.trans (if_pos (Classical.not_not.mp hb1036))
    refine p_iconst 20 c53_19 rfl ?_
    exact p_ireturn c53_20 (Hr _ _ hX1042 (rgD rfl) hR1035 _)
def J54_23 (f : Nat) (A : Nat) (m : yM) : Option (Int × yM) := (bI (F43 f m) (fun r988 m990 => (some (r988, m990))))
set_option maxRecDepth 100000 in
theorem tJ54_23 {L : Nat} {xs : Nat → Int32} {Q : xO → yM → Nat → Prop} {k d n : Nat} {c : yS3} {f : Nat} {A : Nat} {m : yM} (hk : k ≤ f) (hc : c.1 = pX A) (hA : (A = 256 ∨ A = 316)) (hR : RM c m) (Hr : ∀ r m', J54_23 f A m = some (r, m') → rg r → RM c m' → ∀ n', Q (.inl (some (yI r))) m' n') : PW (gZ L xs) k 54 d 23 [some (.ref 2)] [] m n Q := by
  have hX : J54_23 f A m = J54_23 f A m := rfl
  refine p_aload 24 c54_23 rfl rfl ?_
  refine p_cS 27 [.ref 2] [] c54_24 rfl rfl rfl (fun k' hk' d' => d43 (f := f) (by omega) hR) (fun r988 m990 hF986 hg987 hR991 n985 k984 hk984 => ?_)
  have hX989 := hX.trans (bI_s hF986)
  exact p_ireturn c54_27 (Hr _ _ hX989 hg987 hR991 _)
def F54 (f : Nat) (A : Nat) (m : yM) : Option (Int × yM) := (if F38 m = 11 then (bI (F53 f A (F39 m) m) (fun r1045 m1047 => (if r1045 = 0 then (J54_23 f A m1047) else (some (1, yup m1047 2 2 (wr ((m1047 2 2) + 1))))))) else (J54_23 f A m))
set_option maxRecDepth 100000 in
theorem d54 {L : Nat} {xs : Nat → Int32} {k d n : Nat} {c : yS3} {f : Nat} {A : Nat} {m : yM} (hk : k ≤ f) (hc : c.1 = pX A) (hA : (A = 256 ∨ A = 316)) (hR : RM c m) : PC (gZ L xs) k d 54 [.ref 2] m n (qS c (F54 f A m)) := by
  have hX : F54 f A m = F54 f A m := rfl
  have Hr : ∀ r m', F54 f A m = some (r, m') → rg r → RM c m' → ∀ n' : Nat, (qS c (F54 f A m)) (.inl (some (yI r))) m' n' := fun r m' e h1 h2 n' => ⟨r, rfl, h1, h2, e⟩
  refine PC.mk [some (.ref 2)] kn54 rfl ?_
  refine p_aload 1 c54_0 rfl rfl ?_
  refine p_cX 4 [.ref 2] [] c54_1 rfl rfl rfl (fun k' hk' d' => d38 hR) (fun hg979 n978 k977 hk977 => ?_)
  refine p_iconst 6 c54_4 rfl ?_
  refine p_icmp 23 9 c54_6 rfl rfl (yc_ne hg979 (rgD rfl)) (fun hb980 k981 hk981 => ?_) (fun hb980 k982 hk982 => ?_)
  · have hX983 := hX.trans (if_neg hb980)
    exact tJ54_23 (f := f) (by omega) hc hA hR (fun r' m' e' => Hr r' m' (hX983.trans e'))
  · have hX992 := hX.trans (if_pos (Classical.not_not.mp hb980))
    refine p_aload 10 c54_9 rfl rfl ?_
    refine p_getV 13 (.ref A) c54_10 rfl kf2_1 (pX_of hA hR.2.2.2.1 hc) ?_
    refine p_aload 14 c54_13 rfl rfl ?_
    refine p_cX 17 [.ref 2] [.ref A] c54_14 rfl rfl rfl (fun k' hk' d' => d39 hR) (fun hg995 n994 k993 hk993 => ?_)
    refine p_cS 20 [.ref A, yI (F39 m)] [] c54_17 rfl rfl rfl (fun k' hk' d' => d53 (f := f) (by omega) hA hg995 hR) (fun r1045 m1047 hF1043 hg1044 hR1048 n997 k996 hk996 => ?_)
    have hX1046 := hX992.trans (bI_s hF1043)
    refine p_if 28 23 c54_20 rfl rfl (yz_ne hg1044) (fun hb1049 k1050 hk1050 => ?_) (fun hb1049 k1051 hk1051 => ?_)
    · have hX1052 := hX1046.trans (if_neg hb1049)
      refine p_aload 29 c54_28 rfl rfl ?_
      refine p_dup 30 c54_29 rfl rfl ?_
      refine p_getX 33 (m1047 2 2) c54_30 rfl kf2_2 rfl ?_
      refine p_iconst 34 c54_33 rfl ?_
      refine p_iadd 35 c54_34 rfl ?_
      refine p_putI 38 c54_35 rfl kf2_2 ?_
      have hR1053 := hR1048.up 2 2 (v := wr ((m1047 2 2) + 1)) (nselD rfl) (rg_wr _)
      refine p_iconst 39 c54_38 rfl ?_
      exact p_ireturn c54_39 (Hr _ _ hX1052 (rgD rfl) hR1053 _)
    · have hX1054 := hX1046.trans (if_pos (Classical.not_not.mp hb1049))
      exact tJ54_23 (f := f) (by omega) hc hA hR1048 (fun r' m' e' => Hr r' m' (hX1054.trans e'))
def F55 (f : Nat) (A : Nat) (m : yM) : Option (Int × yM) := (if F38 m = 41 then (some (1, m)) else (bI (F54 f A m) (fun r1057 m1059 => (if r1057 = 0 then (some (0, m1059)) else (if F38 m1059 = 44 then (bI (F54 f A (yup m1059 2 2 (wr ((m1059 2 2) + 1)))) (fun r1077 m1079 => (some (r1077, m1079)))) else (some (1, m1059)))))))
set_option maxRecDepth 100000 in
theorem d55 {L : Nat} {xs : Nat → Int32} {k d n : Nat} {c : yS3} {f : Nat} {A : Nat} {m : yM} (hk : k ≤ f) (hc : c.1 = pX A) (hA : (A = 256 ∨ A = 316)) (hR : RM c m) : PC (gZ L xs) k d 55 [.ref 2] m n (qS c (F55 f A m)) := by
  have hX : F55 f A m = F55 f A m := rfl
  have Hr : ∀ r m', F55 f A m = some (r, m') → rg r → RM c m' → ∀ n' : Nat, (qS c (F55 f A m)) (.inl (some (yI r))) m' n' := fun r m' e h1 h2 n' => ⟨r, rfl, h1, h2, e⟩
  refine PC.mk [some (.ref 2)] kn55 rfl ?_
  refine p_aload 1 c55_0 rfl rfl ?_
  refine p_cX 4 [.ref 2] [] c55_1 rfl rfl rfl (fun k' hk' d' => d38 hR) (fun hg970 n969 k968 hk968 => ?_)
  refine p_iconst 6 c55_4 rfl ?_
  refine p_icmp 11 9 c55_6 rfl rfl (yc_ne hg970 (rgD rfl)) (fun hb971 k972 hk972 => ?_) (fun hb971 k973 hk973 => ?_)
  · have hX974 := hX.trans (if_neg hb971)
    refine p_aload 12 c55_11 rfl rfl ?_
    refine p_cS 15 [.ref 2] [] c55_12 rfl rfl rfl (fun k' hk' d' => d54 (f := f) (by omega) hc hA hR) (fun r1057 m1059 hF1055 hg1056 hR1060 n976 k975 hk975 => ?_)
    have hX1058 := hX974.trans (bI_s hF1055)
    refine p_if 20 18 c55_15 rfl rfl (yz_ne hg1056) (fun hb1061 k1062 hk1062 => ?_) (fun hb1061 k1063 hk1063 => ?_)
    · have hX1064 := hX1058.trans (if_neg hb1061)
      refine p_aload 21 c55_20 rfl rfl ?_
      refine p_cX 24 [.ref 2] [] c55_21 rfl rfl rfl (fun k' hk' d' => d38 hR1060) (fun hg1067 n1066 k1065 hk1065 => ?_)
      refine p_iconst 26 c55_24 rfl ?_
      refine p_icmp 31 29 c55_26 rfl rfl (yc_eq hg1067 (rgD rfl)) (fun hb1068 k1069 hk1069 => ?_) (fun hb1068 k1070 hk1070 => ?_)
      · have hX1071 := hX1064.trans (if_pos hb1068)
        refine p_aload 32 c55_31 rfl rfl ?_
        refine p_dup 33 c55_32 rfl rfl ?_
        refine p_getX 36 (m1059 2 2) c55_33 rfl kf2_2 rfl ?_
        refine p_iconst 37 c55_36 rfl ?_
        refine p_iadd 38 c55_37 rfl ?_
        refine p_putI 41 c55_38 rfl kf2_2 ?_
        have hR1072 := hR1060.up 2 2 (v := wr ((m1059 2 2) + 1)) (nselD rfl) (rg_wr _)
        refine p_aload 42 c55_41 rfl rfl ?_
        refine p_cS 45 [.ref 2] [] c55_42 rfl rfl rfl (fun k' hk' d' => d54 (f := f) (by omega) hc hA hR1072) (fun r1077 m1079 hF1075 hg1076 hR1080 n1074 k1073 hk1073 => ?_)
        have hX1078 := hX1071.trans (bI_s hF1075)
        exact p_ireturn c55_45 (Hr _ _ hX1078 hg1076 hR1080 _)
      · have hX1081 := hX1064.trans (if_neg hb1068)
        refine p_iconst 30 c55_29 rfl ?_
        exact p_ireturn c55_30 (Hr _ _ hX1081 (rgD rfl) hR1060 _)
    · have hX1082 := hX1058.trans (if_pos (Classical.not_not.mp hb1061))
      refine p_iconst 19 c55_18 rfl ?_
      exact p_ireturn c55_19 (Hr _ _ hX1082 (rgD rfl) hR1060 _)
  · have hX1083 := hX.trans (if_pos (Classical.not_not.mp hb971))
    refine p_iconst 10 c55_9 rfl ?_
    exact p_ireturn c55_10 (Hr _ _ hX1083 (rgD rfl) hR _)
def F56 (f : Nat) (A : Nat) (m : yM) : Option (Nat × yM) := (some (A + 20 + (m A 16).toNat, yup (yup (yup (yup m (A + 20 + (m A 16).toNat) 1 (wr ((m A 10) - 1))) (A + 20 + (m A 16).toNat) 2 ((-1))) (A + 20 + (m A 16).toNat) 8 0) A 16 (wr ((m A 16) + 1))))
set_option maxRecDepth 100000 in
theorem d56 {L : Nat} {xs : Nat → Int32} {k d n : Nat} {c : yS3} {f : Nat} {A : Nat} {m : yM} (hk : k ≤ f) (hA : (A = 256 ∨ A = 316)) (hR : RM c m) : PC (gZ L xs) k d 56 [.ref A] m n (qR c (fun a => (276 ≤ a ∧ a < 316) ∨ (336 ≤ a ∧ a < 376)) (F56 f A m)) := by
  have hX : F56 f A m = F56 f A m := rfl
  have Hr : ∀ r m', F56 f A m = some (r, m') → (fun a => (276 ≤ a ∧ a < 316) ∨ (336 ≤ a ∧ a < 376)) r → RM c m' → ∀ n' : Nat, (qR c (fun a => (276 ≤ a ∧ a < 316) ∨ (336 ≤ a ∧ a < 376)) (F56 f A m)) (.inl (some (.ref r))) m' n' := fun r m' e h1 h2 n' => ⟨r, rfl, h1, h2, e⟩
  refine PC.mk [some (.ref A), none] kn56 rfl ?_
  refine p_aload 1 c56_0 rfl rfl ?_
  refine p_getR 4 c56_1 rfl (kP_6 hA) ?_
  refine p_aload 5 c56_4 rfl rfl ?_
  refine p_getX 8 (m A 16) c56_5 rfl (kP_16 hA) rfl ?_
  refine p_aaX 9 c56_8 rfl (kPr_7 hA) (hR.rg _ _) (fun hx1146 => ?_)
  refine p_astore 10 c56_9 rfl rfl ?_
  refine p_aload 11 c56_10 rfl rfl ?_
  refine p_aload 12 c56_11 rfl rfl ?_
  refine p_getX 15 (m A 10) c56_12 rfl (kP_10 hA) rfl ?_
  refine p_iconst 16 c56_15 rfl ?_
  refine p_isub 17 c56_16 rfl ?_
  refine p_putI 20 c56_17 rfl (kS_1 (kSr hA hx1146)) ?_
  have hR1147 := hR.up (A + 20 + (m A 16).toNat) 1 (v := wr ((m A 10) - 1)) (nselA (by omega)) (rg_wr _)
  refine p_aload 21 c56_20 rfl rfl ?_
  refine p_iconst 22 c56_21 rfl ?_
  refine p_putI 25 c56_22 rfl (kS_2 (kSr hA hx1146)) ?_
  have hR1148 := hR1147.up (A + 20 + (m A 16).toNat) 2 (v := (-1)) (nselA (by omega)) (rgD rfl)
  refine p_aload 26 c56_25 rfl rfl ?_
  refine p_iconst 27 c56_26 rfl ?_
  refine p_putI 30 c56_27 rfl (kS_8 (kSr hA hx1146)) ?_
  have hR1149 := hR1148.up (A + 20 + (m A 16).toNat) 8 (v := 0) (nselA (by omega)) (rgD rfl)
  refine p_aload 31 c56_30 rfl rfl ?_
  refine p_dup 32 c56_31 rfl rfl ?_
  refine p_getX 35 (m A 16) c56_32 rfl (kP_16 hA) ((yup_na (by omega)).trans ((yup_na (by omega)).trans (yup_na (by omega)))) ?_
  refine p_iconst 36 c56_35 rfl ?_
  refine p_iadd 37 c56_36 rfl ?_
  refine p_putI 40 c56_37 rfl (kP_16 hA) ?_
  have hR1150 := hR1149.up A 16 (v := wr ((m A 16) + 1)) (nselA (by omega)) (rg_wr _)
  refine p_aload 41 c56_40 rfl rfl ?_
  exact p_areturn c56_41 (Hr _ _ hX ((kSr hA hx1146)) hR1150 _)
def F57 (a0 : Nat) (m : yM) : Int := (wr ((m a0 2) + 1))
set_option maxRecDepth 100000 in
theorem d57 {L : Nat} {xs : Nat → Int32} {k d n : Nat} {c : yS3} {a0 : Nat} {m : yM} (hm0 : (266 ≤ a0 ∧ a0 < 276) ∨ (326 ≤ a0 ∧ a0 < 336)) (hR : RM c m) : PC (gZ L xs) k d 57 [.ref a0] m n (qX m (F57 a0 m)) := by
  have hX : F57 a0 m = F57 a0 m := rfl
  have Hr : ∀ r, F57 a0 m = r → rg r → ∀ n' : Nat, (qX m (F57 a0 m)) (.inl (some (yI r))) m n' := fun r e h n' => by subst e; exact ⟨rfl, h, rfl⟩
  refine PC.mk [some (.ref a0)] kn57 rfl ?_
  refine p_aload 1 c57_0 rfl rfl ?_
  refine p_getX 4 (m a0 2) c57_1 rfl (kM_2 hm0) rfl ?_
  refine p_iconst 5 c57_4 rfl ?_
  refine p_iadd 6 c57_5 rfl ?_
  exact p_ireturn c57_6 (Hr _ hX (rg_wr _) _)
def J58_56 (f : Nat) (A : Nat) (x1 : Int) (m : yM) : Option (Int × yM) := (if x1 = (-1) then (bI (F43 f m) (fun r1199 m1201 => (some (x1, m1201)))) else (some (x1, yup m 2 2 (wr ((m 2 2) + 1)))))
set_option maxRecDepth 100000 in
theorem tJ58_56 {L : Nat} {xs : Nat → Int32} {Q : xO → yM → Nat → Prop} {k d n : Nat} {c : yS3} {f : Nat} {A : Nat} {x1 : Int} {m : yM} (hk : k ≤ f) (hc : c.1 = pX A) (hA : (A = 256 ∨ A = 316)) (gx1 : rg x1) (hR : RM c m) (Hr : ∀ r m', J58_56 f A x1 m = some (r, m') → rg r → RM c m' → ∀ n', Q (.inl (some (yI r))) m' n') : PW (gZ L xs) k 58 d 56 [some (.ref 2), some (yI x1)] [] m n Q := by
  have hX : J58_56 f A x1 m = J58_56 f A x1 m := rfl
  refine p_iload 57 c58_56 rfl rfl ?_
  refine p_iconst 58 c58_57 rfl ?_
  refine p_icmp 69 61 c58_58 rfl rfl (yc_ne gx1 (rgD rfl)) (fun hb1189 k1190 hk1190 => ?_) (fun hb1189 k1191 hk1191 => ?_)
  · have hX1192 := hX.trans (if_neg hb1189)
    refine p_aload 70 c58_69 rfl rfl ?_
    refine p_dup 71 c58_70 rfl rfl ?_
    refine p_getX 74 (m 2 2) c58_71 rfl kf2_2 rfl ?_
    refine p_iconst 75 c58_74 rfl ?_
    refine p_iadd 76 c58_75 rfl ?_
    refine p_putI 79 c58_76 rfl kf2_2 ?_
    have hR1193 := hR.up 2 2 (v := wr ((m 2 2) + 1)) (nselD rfl) (rg_wr _)
    refine p_iload 80 c58_79 rfl rfl ?_
    exact p_ireturn c58_80 (Hr _ _ hX1192 gx1 hR1193 _)
  · have hX1194 := hX.trans (if_pos (Classical.not_not.mp hb1189))
    refine p_aload 62 c58_61 rfl rfl ?_
    refine p_cS 65 [.ref 2] [] c58_62 rfl rfl rfl (fun k' hk' d' => d43 (f := f) (by omega) hR) (fun r1199 m1201 hF1197 hg1198 hR1202 n1196 k1195 hk1195 => ?_)
    have hX1200 := hX1194.trans (bI_s hF1197)
    refine p_pop 66 c58_65 rfl rfl ?_
    refine p_goto 79 c58_66 rfl ?_
    refine p_iload 80 c58_79 rfl rfl ?_
    exact p_ireturn c58_80 (Hr _ _ hX1200 gx1 hR1202 _)
def F58 (f : Nat) (A : Nat) (m : yM) : Option (Int × yM) := (if F38 m = 10 then (J58_56 f A (F57 (A + 10 + (wr ((m A 10) - 1)).toNat) m) m) else (if F38 m = 11 then (bI (F52 f A (F39 m) m) (fun r1211 m1213 => (J58_56 f A r1211 m1213))) else (J58_56 f A ((-1)) m)))
set_option maxRecDepth 100000 in
theorem d58 {L : Nat} {xs : Nat → Int32} {k d n : Nat} {c : yS3} {f : Nat} {A : Nat} {m : yM} (hk : k ≤ f) (hc : c.1 = pX A) (hA : (A = 256 ∨ A = 316)) (hR : RM c m) : PC (gZ L xs) k d 58 [.ref 2] m n (qS c (F58 f A m)) := by
  have hX : F58 f A m = F58 f A m := rfl
  have Hr : ∀ r m', F58 f A m = some (r, m') → rg r → RM c m' → ∀ n' : Nat, (qS c (F58 f A m)) (.inl (some (yI r))) m' n' := fun r m' e h1 h2 n' => ⟨r, rfl, h1, h2, e⟩
  refine PC.mk [some (.ref 2), none] kn58 rfl ?_
  refine p_iconst 1 c58_0 rfl ?_
  refine p_istore 2 c58_1 rfl rfl ?_
  refine p_aload 3 c58_2 rfl rfl ?_
  refine p_cX 6 [.ref 2] [] c58_3 rfl rfl rfl (fun k' hk' d' => d38 hR) (fun hg1177 n1176 k1175 hk1175 => ?_)
  refine p_iconst 8 c58_6 rfl ?_
  refine p_icmp 35 11 c58_8 rfl rfl (yc_ne hg1177 (rgD rfl)) (fun hb1178 k1179 hk1179 => ?_) (fun hb1178 k1180 hk1180 => ?_)
  · have hX1181 := hX.trans (if_neg hb1178)
    refine p_aload 36 c58_35 rfl rfl ?_
    refine p_cX 39 [.ref 2] [] c58_36 rfl rfl rfl (fun k' hk' d' => d38 hR) (fun hg1184 n1183 k1182 hk1182 => ?_)
    refine p_iconst 41 c58_39 rfl ?_
    refine p_icmp 56 44 c58_41 rfl rfl (yc_ne hg1184 (rgD rfl)) (fun hb1185 k1186 hk1186 => ?_) (fun hb1185 k1187 hk1187 => ?_)
    · have hX1188 := hX1181.trans (if_neg hb1185)
      exact tJ58_56 (f := f) (by omega) hc hA (rgD rfl) hR (fun r' m' e' => Hr r' m' (hX1188.trans e'))
    · have hX1203 := hX1181.trans (if_pos (Classical.not_not.mp hb1185))
      refine p_aload 45 c58_44 rfl rfl ?_
      refine p_getV 48 (.ref A) c58_45 rfl kf2_1 (pX_of hA hR.2.2.2.1 hc) ?_
      refine p_aload 49 c58_48 rfl rfl ?_
      refine p_cX 52 [.ref 2] [.ref A] c58_49 rfl rfl rfl (fun k' hk' d' => d39 hR) (fun hg1206 n1205 k1204 hk1204 => ?_)
      refine p_cS 55 [.ref A, yI (F39 m)] [] c58_52 rfl rfl rfl (fun k' hk' d' => d52 (f := f) (by omega) hA hg1206 hR) (fun r1211 m1213 hF1209 hg1210 hR1214 n1208 k1207 hk1207 => ?_)
      have hX1212 := hX1203.trans (bI_s hF1209)
      refine p_istore 56 c58_55 rfl rfl ?_
      exact tJ58_56 (f := f) (by omega) hc hA hg1210 hR1214 (fun r' m' e' => Hr r' m' (hX1212.trans e'))
  · have hX1215 := hX.trans (if_pos (Classical.not_not.mp hb1178))
    refine p_aload 12 c58_11 rfl rfl ?_
    refine p_getV 15 (.ref A) c58_12 rfl kf2_1 (pX_of hA hR.2.2.2.1 hc) ?_
    refine p_getR 18 c58_15 rfl (kP_5 hA) ?_
    refine p_aload 19 c58_18 rfl rfl ?_
    refine p_getV 22 (.ref A) c58_19 rfl kf2_1 (pX_of hA hR.2.2.2.1 hc) ?_
    refine p_getX 25 (m A 10) c58_22 rfl (kP_10 hA) rfl ?_
    refine p_iconst 26 c58_25 rfl ?_
    refine p_isub 27 c58_26 rfl ?_
    refine p_aaX 28 c58_27 rfl (kPr_6 hA) (rg_wr _) (fun hx1216 => ?_)
    refine p_cX 31 [.ref (A + 10 + (wr ((m A 10) - 1)).toNat)] [] c58_28 rfl rfl rfl (fun k' hk' d' => d57 (kMr hA hx1216) hR) (fun hg1219 n1218 k1217 hk1217 => ?_)
    refine p_istore 32 c58_31 rfl rfl ?_
    refine p_goto 56 c58_32 rfl ?_
    exact tJ58_56 (f := f) (by omega) hc hA hg1219 hR (fun r' m' e' => Hr r' m' (hX1215.trans e'))
def J59_15 (f : Nat) (rc : Int → yM → Option (Int × yM)) (A : Nat) (a1 : Nat) (x2 : Int) (as0 : Nat) (xs1 : Int) (m : yM) : Option (Int × yM) := (bI (F58 f A (yup (yup m as0 0 xs1) 2 2 (wr ((m 2 2) + 1)))) (fun r1222 m1224 => (if r1222 = (-1) then (some (0, yup m1224 a1 3 r1222)) else (bI (rc (wr (x2 + 1)) (yup m1224 a1 3 r1222)) (fun r1236 m1238 => (if r1236 = 0 then (some (0, m1238)) else (if m1238 a1 0 = 1 then (some (1, yup m1238 a1 11 (m1238 A 16))) else (if F38 (yup m1238 a1 11 (m1238 A 16)) = 7 then (bI (rc (wr (x2 + 1)) (yup (yup m1238 a1 11 (m1238 A 16)) 2 2 (wr ((m1238 2 2) + 1)))) (fun r1262 m1264 => (some (r1262, m1264)))) else (some (1, yup m1238 a1 11 (m1238 A 16)))))))))))
set_option maxRecDepth 100000 in
theorem tJ59_15 {L : Nat} {xs : Nat → Int32} {Q : xO → yM → Nat → Prop} {k d n : Nat} {c : yS3} {f : Nat} {rc : Int → yM → Option (Int × yM)} {A : Nat} {a1 : Nat} {x2 : Int} {as0 : Nat} {xs1 : Int} {m : yM} (hk : k ≤ f) (hrc : ∀ k', k' < k → ∀ {d' : Nat} {x1 : Int} {m' : yM} {n' : Nat}, rg x1 → RM c m' → PC (gZ L xs) k' d' 69 [.ref 2, yI x1] m' n' (qS c (rc x1 m'))) (hc : c.1 = pX A) (hA : (A = 256 ∨ A = 316)) (hs1 : (276 ≤ a1 ∧ a1 < 316) ∨ (336 ≤ a1 ∧ a1 < 376)) (gx2 : rg x2) (hss0 : (276 ≤ as0 ∧ as0 < 316) ∨ (336 ≤ as0 ∧ as0 < 376)) (gxs1 : rg xs1) (hR : RM c m) (Hr : ∀ r m', J59_15 f rc A a1 x2 as0 xs1 m = some (r, m') → rg r → RM c m' → ∀ n', Q (.inl (some (yI r))) m' n') : PW (gZ L xs) k 59 d 15 [some (.ref 2), some (.ref a1), some (yI x2)] [yI xs1, .ref as0] m n Q := by
  have hX : J59_15 f rc A a1 x2 as0 xs1 m = J59_15 f rc A a1 x2 as0 xs1 m := rfl
  refine p_putI 18 c59_15 rfl (kS_0 hss0) ?_
  have hR1171 := hR.up as0 0 (v := xs1) (nselA (by omega)) gxs1
  refine p_aload 19 c59_18 rfl rfl ?_
  refine p_dup 20 c59_19 rfl rfl ?_
  refine p_getX 23 (m 2 2) c59_20 rfl kf2_2 (yup_na (by omega)) ?_
  refine p_iconst 24 c59_23 rfl ?_
  refine p_iadd 25 c59_24 rfl ?_
  refine p_putI 28 c59_25 rfl kf2_2 ?_
  have hR1172 := hR1171.up 2 2 (v := wr ((m 2 2) + 1)) (nselD rfl) (rg_wr _)
  refine p_aload 29 c59_28 rfl rfl ?_
  refine p_aload 30 c59_29 rfl rfl ?_
  refine p_cS 33 [.ref 2] [.ref a1] c59_30 rfl rfl rfl (fun k' hk' d' => d58 (f := f) (by omega) hc hA hR1172) (fun r1222 m1224 hF1220 hg1221 hR1225 n1174 k1173 hk1173 => ?_)
  have hX1223 := hX.trans (bI_s hF1220)
  refine p_putI 36 c59_33 rfl (kS_3 hs1) ?_
  have hR1226 := hR1225.up a1 3 (v := r1222) (nselA (by omega)) hg1221
  refine p_aload 37 c59_36 rfl rfl ?_
  refine p_getX 40 r1222 c59_37 rfl (kS_3 hs1) (yup_eq _ _ _ _) ?_
  refine p_iconst 41 c59_40 rfl ?_
  refine p_icmp 54 44 c59_41 rfl rfl (yc_eq hg1221 (rgD rfl)) (fun hb1227 k1228 hk1228 => ?_) (fun hb1227 k1229 hk1229 => ?_)
  · have hX1230 := hX1223.trans (if_pos hb1227)
    refine p_iconst 55 c59_54 rfl ?_
    exact p_ireturn c59_55 (Hr _ _ hX1230 (rgD rfl) hR1226 _)
  · have hX1231 := hX1223.trans (if_neg hb1227)
    refine p_aload 45 c59_44 rfl rfl ?_
    refine p_iload 46 c59_45 rfl rfl ?_
    refine p_iconst 47 c59_46 rfl ?_
    refine p_iadd 48 c59_47 rfl ?_
    refine p_cS 51 [.ref 2, yI (wr (x2 + 1))] [] c59_48 rfl rfl rfl (fun k' hk' d' => hrc k' (by omega) (rg_wr _) hR1226) (fun r1236 m1238 hF1234 hg1235 hR1239 n1233 k1232 hk1232 => ?_)
    have hX1237 := hX1231.trans (bI_s hF1234)
    refine p_if 56 54 c59_51 rfl rfl (yz_ne hg1235) (fun hb1240 k1241 hk1241 => ?_) (fun hb1240 k1242 hk1242 => ?_)
    · have hX1243 := hX1237.trans (if_neg hb1240)
      refine p_aload 57 c59_56 rfl rfl ?_
      refine p_aload 58 c59_57 rfl rfl ?_
      refine p_getV 61 (.ref A) c59_58 rfl kf2_1 (pX_of hA hR1239.2.2.2.1 hc) ?_
      refine p_getX 64 (m1238 A 16) c59_61 rfl (kP_16 hA) rfl ?_
      refine p_putI 67 c59_64 rfl (kS_11 hs1) ?_
      have hR1244 := hR1239.up a1 11 (v := m1238 A 16) (nselA (by omega)) (hR1239.rg _ _)
      refine p_aload 68 c59_67 rfl rfl ?_
      refine p_getX 71 (m1238 a1 0) c59_68 rfl (kS_0 hs1) (yup_nk (by decide)) ?_
      refine p_iconst 72 c59_71 rfl ?_
      refine p_icmp 84 75 c59_72 rfl rfl (yc_eq (hR1239.rg _ _) (rgD rfl)) (fun hb1245 k1246 hk1246 => ?_) (fun hb1245 k1247 hk1247 => ?_)
      · have hX1248 := hX1243.trans (if_pos hb1245)
        refine p_iconst 85 c59_84 rfl ?_
        exact p_ireturn c59_85 (Hr _ _ hX1248 (rgD rfl) hR1244 _)
      · have hX1249 := hX1243.trans (if_neg hb1245)
        refine p_aload 76 c59_75 rfl rfl ?_
        refine p_cX 79 [.ref 2] [] c59_76 rfl rfl rfl (fun k' hk' d' => d38 hR1244) (fun hg1252 n1251 k1250 hk1250 => ?_)
        refine p_iconst 81 c59_79 rfl ?_
        refine p_icmp 86 84 c59_81 rfl rfl (yc_eq hg1252 (rgD rfl)) (fun hb1253 k1254 hk1254 => ?_) (fun hb1253 k1255 hk1255 => ?_)
        · have hX1256 := hX1249.trans (if_pos hb1253)
          refine p_aload 87 c59_86 rfl rfl ?_
          refine p_dup 88 c59_87 rfl rfl ?_
          refine p_getX 91 (m1238 2 2) c59_88 rfl kf2_2 (yup_na (by omega)) ?_
          refine p_iconst 92 c59_91 rfl ?_
          refine p_iadd 93 c59_92 rfl ?_
          refine p_putI 96 c59_93 rfl kf2_2 ?_
          have hR1257 := hR1244.up 2 2 (v := wr ((m1238 2 2) + 1)) (nselD rfl) (rg_wr _)
          refine p_aload 97 c59_96 rfl rfl ?_
          refine p_iload 98 c59_97 rfl rfl ?_
          refine p_iconst 99 c59_98 rfl ?_
          refine p_iadd 100 c59_99 rfl ?_
          refine p_cS 103 [.ref 2, yI (wr (x2 + 1))] [] c59_100 rfl rfl rfl (fun k' hk' d' => hrc k' (by omega) (rg_wr _) hR1257) (fun r1262 m1264 hF1260 hg1261 hR1265 n1259 k1258 hk1258 => ?_)
          have hX1263 := hX1256.trans (bI_s hF1260)
          exact p_ireturn c59_103 (Hr _ _ hX1263 hg1261 hR1265 _)
        · have hX1266 := hX1249.trans (if_neg hb1253)
          refine p_iconst 85 c59_84 rfl ?_
          exact p_ireturn c59_85 (Hr _ _ hX1266 (rgD rfl) hR1244 _)
    · have hX1267 := hX1237.trans (if_pos (Classical.not_not.mp hb1240))
      refine p_iconst 55 c59_54 rfl ?_
      exact p_ireturn c59_55 (Hr _ _ hX1267 (rgD rfl) hR1239 _)
def F59 (f : Nat) (rc : Int → yM → Option (Int × yM)) (A : Nat) (a1 : Nat) (x2 : Int) (m : yM) : Option (Int × yM) := (if F38 m = 6 then (J59_15 f rc A a1 x2 a1 0 m) else (J59_15 f rc A a1 x2 a1 1 m))
set_option maxRecDepth 100000 in
theorem d59 {L : Nat} {xs : Nat → Int32} {k d n : Nat} {c : yS3} {f : Nat} {rc : Int → yM → Option (Int × yM)} {A : Nat} {a1 : Nat} {x2 : Int} {m : yM} (hk : k ≤ f) (hrc : ∀ k', k' < k → ∀ {d' : Nat} {x1 : Int} {m' : yM} {n' : Nat}, rg x1 → RM c m' → PC (gZ L xs) k' d' 69 [.ref 2, yI x1] m' n' (qS c (rc x1 m'))) (hc : c.1 = pX A) (hA : (A = 256 ∨ A = 316)) (hs1 : (276 ≤ a1 ∧ a1 < 316) ∨ (336 ≤ a1 ∧ a1 < 376)) (gx2 : rg x2) (hR : RM c m) : PC (gZ L xs) k d 59 [.ref 2, .ref a1, yI x2] m n (qS c (F59 f rc A a1 x2 m)) := by
  have hX : F59 f rc A a1 x2 m = F59 f rc A a1 x2 m := rfl
  have Hr : ∀ r m', F59 f rc A a1 x2 m = some (r, m') → rg r → RM c m' → ∀ n' : Nat, (qS c (F59 f rc A a1 x2 m)) (.inl (some (yI r))) m' n' := fun r m' e h1 h2 n' => ⟨r, rfl, h1, h2, e⟩
  refine PC.mk [some (.ref 2), some (.ref a1), some (yI x2)] kn59 rfl ?_
  refine p_aload 1 c59_0 rfl rfl ?_
  refine p_aload 2 c59_1 rfl rfl ?_
  refine p_cX 5 [.ref 2] [.ref a1] c59_2 rfl rfl rfl (fun k' hk' d' => d38 hR) (fun hg1166 n1165 k1164 hk1164 => ?_)
  refine p_iconst 7 c59_5 rfl ?_
  refine p_icmp 14 10 c59_7 rfl rfl (yc_ne hg1166 (rgD rfl)) (fun hb1167 k1168 hk1168 => ?_) (fun hb1167 k1169 hk1169 => ?_)
  · have hX1170 := hX.trans (if_neg hb1167)
    refine p_iconst 15 c59_14 rfl ?_
    exact tJ59_15 (f := f) (by omega) (fun k' h' => hrc k' (by omega)) hc hA hs1 gx2 hs1 (rgD rfl) hR (fun r' m' e' => Hr r' m' (hX1170.trans e'))
  · have hX1268 := hX.trans (if_pos (Classical.not_not.mp hb1167))
    refine p_iconst 11 c59_10 rfl ?_
    refine p_goto 15 c59_11 rfl ?_
    exact tJ59_15 (f := f) (by omega) (fun k' h' => hrc k' (by omega)) hc hA hs1 gx2 hs1 (rgD rfl) hR (fun r' m' e' => Hr r' m' (hX1268.trans e'))
def F62 (f : Nat) (x1 : Int) (a2 : Nat) (m : yM) : Option (Int × yM) := (bI (F37 f x1 m) (fun r1317 m1319 => (if r1317 = 0 then (some (0, m1319)) else (bI (F37 f 11 (yup (yup m1319 a2 4 (m1319 7 (m1319 2 2).toNat)) a2 5 (m1319 6 (m1319 2 2).toNat))) (fun r1333 m1335 => (some (r1333, m1335)))))))
set_option maxRecDepth 100000 in
theorem d62 {L : Nat} {xs : Nat → Int32} {k d n : Nat} {c : yS3} {f : Nat} {x1 : Int} {a2 : Nat} {m : yM} (hk : k ≤ f) (gx1 : rg x1) (hs2 : (276 ≤ a2 ∧ a2 < 316) ∨ (336 ≤ a2 ∧ a2 < 376)) (hR : RM c m) : PC (gZ L xs) k d 62 [.ref 2, yI x1, .ref a2] m n (qS c (F62 f x1 a2 m)) := by
  have hX : F62 f x1 a2 m = F62 f x1 a2 m := rfl
  have Hr : ∀ r m', F62 f x1 a2 m = some (r, m') → rg r → RM c m' → ∀ n' : Nat, (qS c (F62 f x1 a2 m)) (.inl (some (yI r))) m' n' := fun r m' e h1 h2 n' => ⟨r, rfl, h1, h2, e⟩
  refine PC.mk [some (.ref 2), some (yI x1), some (.ref a2)] kn62 rfl ?_
  refine p_aload 1 c62_0 rfl rfl ?_
  refine p_iload 2 c62_1 rfl rfl ?_
  refine p_cS 5 [.ref 2, yI x1] [] c62_2 rfl rfl rfl (fun k' hk' d' => d37 (f := f) (by omega) gx1 hR) (fun r1317 m1319 hF1315 hg1316 hR1320 n1314 k1313 hk1313 => ?_)
  have hX1318 := hX.trans (bI_s hF1315)
  refine p_if 10 8 c62_5 rfl rfl (yz_ne hg1316) (fun hb1321 k1322 hk1322 => ?_) (fun hb1321 k1323 hk1323 => ?_)
  · have hX1324 := hX1318.trans (if_neg hb1321)
    refine p_aload 11 c62_10 rfl rfl ?_
    refine p_aload 12 c62_11 rfl rfl ?_
    refine p_getR 15 c62_12 rfl kf2_0 ?_
    refine p_getR 18 c62_15 rfl kf3_3 ?_
    refine p_aload 19 c62_18 rfl rfl ?_
    refine p_getX 22 (m1319 2 2) c62_19 rfl kf2_2 rfl ?_
    refine p_iaX 23 (m1319 7 (m1319 2 2).toNat) c62_22 rfl ka7 (hR1320.rg _ _) rfl (fun hx1325 => ?_)
    refine p_putI 26 c62_23 rfl (kS_4 hs2) ?_
    have hR1326 := hR1320.up a2 4 (v := m1319 7 (m1319 2 2).toNat) (nselA (by omega)) (hR1320.rg _ _)
    refine p_aload 27 c62_26 rfl rfl ?_
    refine p_aload 28 c62_27 rfl rfl ?_
    refine p_getR 31 c62_28 rfl kf2_0 ?_
    refine p_getR 34 c62_31 rfl kf3_2 ?_
    refine p_aload 35 c62_34 rfl rfl ?_
    refine p_getX 38 (m1319 2 2) c62_35 rfl kf2_2 (yup_na (by omega)) ?_
    refine p_iaX 39 (m1319 6 (m1319 2 2).toNat) c62_38 rfl ka6 (hR1320.rg _ _) (yup_na (by omega)) (fun hx1327 => ?_)
    refine p_putI 42 c62_39 rfl (kS_5 hs2) ?_
    have hR1328 := hR1326.up a2 5 (v := m1319 6 (m1319 2 2).toNat) (nselA (by omega)) (hR1320.rg _ _)
    refine p_aload 43 c62_42 rfl rfl ?_
    refine p_iconst 45 c62_43 rfl ?_
    refine p_cS 48 [.ref 2, yI 11] [] c62_45 rfl rfl rfl (fun k' hk' d' => d37 (f := f) (by omega) (rgD rfl) hR1328) (fun r1333 m1335 hF1331 hg1332 hR1336 n1330 k1329 hk1329 => ?_)
    have hX1334 := hX1324.trans (bI_s hF1331)
    exact p_ireturn c62_48 (Hr _ _ hX1334 hg1332 hR1336 _)
  · have hX1337 := hX1318.trans (if_pos (Classical.not_not.mp hb1321))
    refine p_iconst 9 c62_8 rfl ?_
    exact p_ireturn c62_9 (Hr _ _ hX1337 (rgD rfl) hR1320 _)
def F67 (f : Nat) (A : Nat) (a1 : Nat) (m : yM) : Option (Int × yM) := (bI (F37 f 61 (yup (yup m a1 0 3) a1 2 (m a1 3))) (fun r1365 m1367 => (if r1365 = 0 then (some (0, m1367)) else (bI (F58 f A m1367) (fun r1377 m1379 => (if r1377 = (-1) then (some (0, yup m1379 a1 3 r1377)) else (some (1, yup m1379 a1 3 r1377))))))))
set_option maxRecDepth 100000 in
theorem d67 {L : Nat} {xs : Nat → Int32} {k d n : Nat} {c : yS3} {f : Nat} {A : Nat} {a1 : Nat} {m : yM} (hk : k ≤ f) (hc : c.1 = pX A) (hA : (A = 256 ∨ A = 316)) (hs1 : (276 ≤ a1 ∧ a1 < 316) ∨ (336 ≤ a1 ∧ a1 < 376)) (hR : RM c m) : PC (gZ L xs) k d 67 [.ref 2, .ref a1] m n (qS c (F67 f A a1 m)) := by
  have hX : F67 f A a1 m = F67 f A a1 m := rfl
  have Hr : ∀ r m', F67 f A a1 m = some (r, m') → rg r → RM c m' → ∀ n' : Nat, (qS c (F67 f A a1 m)) (.inl (some (yI r))) m' n' := fun r m' e h1 h2 n' => ⟨r, rfl, h1, h2, e⟩
  refine PC.mk [some (.ref 2), some (.ref a1)] kn67 rfl ?_
  refine p_aload 1 c67_0 rfl rfl ?_
  refine p_iconst 2 c67_1 rfl ?_
  refine p_putI 5 c67_2 rfl (kS_0 hs1) ?_
  have hR1359 := hR.up a1 0 (v := 3) (nselA (by omega)) (rgD rfl)
  refine p_aload 6 c67_5 rfl rfl ?_
  refine p_aload 7 c67_6 rfl rfl ?_
  refine p_getX 10 (m a1 3) c67_7 rfl (kS_3 hs1) (yup_nk (by decide)) ?_
  refine p_putI 13 c67_10 rfl (kS_2 hs1) ?_
  have hR1360 := hR1359.up a1 2 (v := m a1 3) (nselA (by omega)) (hR.rg _ _)
  refine p_aload 14 c67_13 rfl rfl ?_
  refine p_iconst 16 c67_14 rfl ?_
  refine p_cS 19 [.ref 2, yI 61] [] c67_16 rfl rfl rfl (fun k' hk' d' => d37 (f := f) (by omega) (rgD rfl) hR1360) (fun r1365 m1367 hF1363 hg1364 hR1368 n1362 k1361 hk1361 => ?_)
  have hX1366 := hX.trans (bI_s hF1363)
  refine p_if 24 22 c67_19 rfl rfl (yz_ne hg1364) (fun hb1369 k1370 hk1370 => ?_) (fun hb1369 k1371 hk1371 => ?_)
  · have hX1372 := hX1366.trans (if_neg hb1369)
    refine p_aload 25 c67_24 rfl rfl ?_
    refine p_aload 26 c67_25 rfl rfl ?_
    refine p_cS 29 [.ref 2] [.ref a1] c67_26 rfl rfl rfl (fun k' hk' d' => d58 (f := f) (by omega) hc hA hR1368) (fun r1377 m1379 hF1375 hg1376 hR1380 n1374 k1373 hk1373 => ?_)
    have hX1378 := hX1372.trans (bI_s hF1375)
    refine p_putI 32 c67_29 rfl (kS_3 hs1) ?_
    have hR1381 := hR1380.up a1 3 (v := r1377) (nselA (by omega)) hg1376
    refine p_aload 33 c67_32 rfl rfl ?_
    refine p_getX 36 r1377 c67_33 rfl (kS_3 hs1) (yup_eq _ _ _ _) ?_
    refine p_iconst 37 c67_36 rfl ?_
    refine p_icmp 44 40 c67_37 rfl rfl (yc_eq hg1376 (rgD rfl)) (fun hb1382 k1383 hk1383 => ?_) (fun hb1382 k1384 hk1384 => ?_)
    · have hX1385 := hX1378.trans (if_pos hb1382)
      refine p_iconst 45 c67_44 rfl ?_
      exact p_ireturn c67_45 (Hr _ _ hX1385 (rgD rfl) hR1381 _)
    · have hX1386 := hX1378.trans (if_neg hb1382)
      refine p_iconst 41 c67_40 rfl ?_
      refine p_goto 45 c67_41 rfl ?_
      exact p_ireturn c67_45 (Hr _ _ hX1386 (rgD rfl) hR1381 _)
  · have hX1387 := hX1366.trans (if_pos (Classical.not_not.mp hb1369))
    refine p_iconst 23 c67_22 rfl ?_
    exact p_ireturn c67_23 (Hr _ _ hX1387 (rgD rfl) hR1368 _)
def F65 (f : Nat) (A : Nat) (a1 : Nat) (m : yM) : Option (Int × yM) := (if m A 12 = 12 then (some (0, m)) else (some (1, yup (yup (yup m a1 0 4) a1 6 (m A 12)) A 12 (wr ((m A 12) + 1)))))
set_option maxRecDepth 100000 in
theorem d65 {L : Nat} {xs : Nat → Int32} {k d n : Nat} {c : yS3} {f : Nat} {A : Nat} {a1 : Nat} {m : yM} (hk : k ≤ f) (hA : (A = 256 ∨ A = 316)) (hs1 : (276 ≤ a1 ∧ a1 < 316) ∨ (336 ≤ a1 ∧ a1 < 376)) (hR : RM c m) : PC (gZ L xs) k d 65 [.ref A, .ref a1] m n (qS c (F65 f A a1 m)) := by
  have hX : F65 f A a1 m = F65 f A a1 m := rfl
  have Hr : ∀ r m', F65 f A a1 m = some (r, m') → rg r → RM c m' → ∀ n' : Nat, (qS c (F65 f A a1 m)) (.inl (some (yI r))) m' n' := fun r m' e h1 h2 n' => ⟨r, rfl, h1, h2, e⟩
  refine PC.mk [some (.ref A), some (.ref a1)] kn65 rfl ?_
  refine p_aload 1 c65_0 rfl rfl ?_
  refine p_getX 4 (m A 12) c65_1 rfl (kP_12 hA) rfl ?_
  refine p_iconst 6 c65_4 rfl ?_
  refine p_icmp 11 9 c65_6 rfl rfl (yc_ne (hR.rg _ _) (rgD rfl)) (fun hb1412 k1413 hk1413 => ?_) (fun hb1412 k1414 hk1414 => ?_)
  · have hX1415 := hX.trans (if_neg hb1412)
    refine p_aload 12 c65_11 rfl rfl ?_
    refine p_iconst 13 c65_12 rfl ?_
    refine p_putI 16 c65_13 rfl (kS_0 hs1) ?_
    have hR1416 := hR.up a1 0 (v := 4) (nselA (by omega)) (rgD rfl)
    refine p_aload 17 c65_16 rfl rfl ?_
    refine p_aload 18 c65_17 rfl rfl ?_
    refine p_getX 21 (m A 12) c65_18 rfl (kP_12 hA) (yup_na (by omega)) ?_
    refine p_putI 24 c65_21 rfl (kS_6 hs1) ?_
    have hR1417 := hR1416.up a1 6 (v := m A 12) (nselA (by omega)) (hR.rg _ _)
    refine p_aload 25 c65_24 rfl rfl ?_
    refine p_dup 26 c65_25 rfl rfl ?_
    refine p_getX 29 (m A 12) c65_26 rfl (kP_12 hA) ((yup_na (by omega)).trans (yup_na (by omega))) ?_
    refine p_iconst 30 c65_29 rfl ?_
    refine p_iadd 31 c65_30 rfl ?_
    refine p_putI 34 c65_31 rfl (kP_12 hA) ?_
    have hR1418 := hR1417.up A 12 (v := wr ((m A 12) + 1)) (nselA (by omega)) (rg_wr _)
    refine p_iconst 35 c65_34 rfl ?_
    exact p_ireturn c65_35 (Hr _ _ hX1415 (rgD rfl) hR1418 _)
  · have hX1419 := hX.trans (if_pos (Classical.not_not.mp hb1412))
    refine p_iconst 10 c65_9 rfl ?_
    exact p_ireturn c65_10 (Hr _ _ hX1419 (rgD rfl) hR _)
def J66_113 (f : Nat) (A : Nat) (m : yM) : Option (Int × yM) := (bI (F37 f 41 m) (fun r1446 m1448 => (some (r1446, m1448))))
set_option maxRecDepth 100000 in
theorem tJ66_113 {L : Nat} {xs : Nat → Int32} {Q : xO → yM → Nat → Prop} {k d n : Nat} {c : yS3} {f : Nat} {A : Nat} {m : yM} {j1 : Option Value} (hk : k ≤ f) (hc : c.1 = pX A) (hA : (A = 256 ∨ A = 316)) (hR : RM c m) (Hr : ∀ r m', J66_113 f A m = some (r, m') → rg r → RM c m' → ∀ n', Q (.inl (some (yI r))) m' n') : PW (gZ L xs) k 66 d 113 [some (.ref 2), j1] [] m n Q := by
  have hX : J66_113 f A m = J66_113 f A m := rfl
  refine p_aload 114 c66_113 rfl rfl ?_
  refine p_iconst 116 c66_114 rfl ?_
  refine p_cS 119 [.ref 2, yI 41] [] c66_116 rfl rfl rfl (fun k' hk' d' => d37 (f := f) (by omega) (rgD rfl) hR) (fun r1446 m1448 hF1444 hg1445 hR1449 n1443 k1442 hk1442 => ?_)
  have hX1447 := hX.trans (bI_s hF1444)
  exact p_ireturn c66_119 (Hr _ _ hX1447 hg1445 hR1449 _)
def J66_63 (f : Nat) (A : Nat) (a1 : Nat) (m : yM) : Option (Int × yM) := (if m a1 8 = 1 then (if F38 m = 44 then (bI (F58 f A (yup m 2 2 (wr ((m 2 2) + 1)))) (fun r1464 m1466 => (if r1464 = (-1) then (some (0, yup (yup m1466 a1 10 r1464) a1 8 2)) else (J66_113 f A (yup (yup m1466 a1 10 r1464) a1 8 2))))) else (J66_113 f A m)) else (J66_113 f A m))
set_option maxRecDepth 100000 in
theorem tJ66_63 {L : Nat} {xs : Nat → Int32} {Q : xO → yM → Nat → Prop} {k d n : Nat} {c : yS3} {f : Nat} {A : Nat} {a1 : Nat} {m : yM} (hk : k ≤ f) (hc : c.1 = pX A) (hA : (A = 256 ∨ A = 316)) (hs1 : (276 ≤ a1 ∧ a1 < 316) ∨ (336 ≤ a1 ∧ a1 < 376)) (hR : RM c m) (Hr : ∀ r m', J66_63 f A a1 m = some (r, m') → rg r → RM c m' → ∀ n', Q (.inl (some (yI r))) m' n') : PW (gZ L xs) k 66 d 63 [some (.ref 2), some (.ref a1)] [] m n Q := by
  have hX : J66_63 f A a1 m = J66_63 f A a1 m := rfl
  refine p_aload 64 c66_63 rfl rfl ?_
  refine p_getX 67 (m a1 8) c66_64 rfl (kS_8 hs1) rfl ?_
  refine p_iconst 68 c66_67 rfl ?_
  refine p_icmp 113 71 c66_68 rfl rfl (yc_ne (hR.rg _ _) (rgD rfl)) (fun hb1438 k1439 hk1439 => ?_) (fun hb1438 k1440 hk1440 => ?_)
  · have hX1441 := hX.trans (if_neg hb1438)
    exact tJ66_113 (f := f) (by omega) hc hA hR (fun r' m' e' => Hr r' m' (hX1441.trans e'))
  · have hX1450 := hX.trans (if_pos (Classical.not_not.mp hb1438))
    refine p_aload 72 c66_71 rfl rfl ?_
    refine p_cX 75 [.ref 2] [] c66_72 rfl rfl rfl (fun k' hk' d' => d38 hR) (fun hg1453 n1452 k1451 hk1451 => ?_)
    refine p_iconst 77 c66_75 rfl ?_
    refine p_icmp 113 80 c66_77 rfl rfl (yc_ne hg1453 (rgD rfl)) (fun hb1454 k1455 hk1455 => ?_) (fun hb1454 k1456 hk1456 => ?_)
    · have hX1457 := hX1450.trans (if_neg hb1454)
      exact tJ66_113 (f := f) (by omega) hc hA hR (fun r' m' e' => Hr r' m' (hX1457.trans e'))
    · have hX1458 := hX1450.trans (if_pos (Classical.not_not.mp hb1454))
      refine p_aload 81 c66_80 rfl rfl ?_
      refine p_dup 82 c66_81 rfl rfl ?_
      refine p_getX 85 (m 2 2) c66_82 rfl kf2_2 rfl ?_
      refine p_iconst 86 c66_85 rfl ?_
      refine p_iadd 87 c66_86 rfl ?_
      refine p_putI 90 c66_87 rfl kf2_2 ?_
      have hR1459 := hR.up 2 2 (v := wr ((m 2 2) + 1)) (nselD rfl) (rg_wr _)
      refine p_aload 91 c66_90 rfl rfl ?_
      refine p_aload 92 c66_91 rfl rfl ?_
      refine p_cS 95 [.ref 2] [.ref a1] c66_92 rfl rfl rfl (fun k' hk' d' => d58 (f := f) (by omega) hc hA hR1459) (fun r1464 m1466 hF1462 hg1463 hR1467 n1461 k1460 hk1460 => ?_)
      have hX1465 := hX1458.trans (bI_s hF1462)
      refine p_putI 98 c66_95 rfl (kS_10 hs1) ?_
      have hR1468 := hR1467.up a1 10 (v := r1464) (nselA (by omega)) hg1463
      refine p_aload 99 c66_98 rfl rfl ?_
      refine p_iconst 100 c66_99 rfl ?_
      refine p_putI 103 c66_100 rfl (kS_8 hs1) ?_
      have hR1469 := hR1468.up a1 8 (v := 2) (nselA (by omega)) (rgD rfl)
      refine p_aload 104 c66_103 rfl rfl ?_
      refine p_getX 107 r1464 c66_104 rfl (kS_10 hs1) ((yup_nk (by decide)).trans (yup_eq _ _ _ _)) ?_
      refine p_iconst 108 c66_107 rfl ?_
      refine p_icmp 113 111 c66_108 rfl rfl (yc_ne hg1463 (rgD rfl)) (fun hb1470 k1471 hk1471 => ?_) (fun hb1470 k1472 hk1472 => ?_)
      · have hX1473 := hX1465.trans (if_neg hb1470)
        exact tJ66_113 (f := f) (by omega) hc hA hR1469 (fun r' m' e' => Hr r' m' (hX1473.trans e'))
      · have hX1474 := hX1465.trans (if_pos (Classical.not_not.mp hb1470))
        refine p_iconst 112 c66_111 rfl ?_
        exact p_ireturn c66_112 (Hr _ _ hX1474 (rgD rfl) hR1469 _)
def F66 (f : Nat) (A : Nat) (a1 : Nat) (m : yM) : Option (Int × yM) := (bI (F65 f A a1 m) (fun r1422 m1424 => (if r1422 = 0 then (some (0, yup m1424 2 4 (m1424 a1 5))) else (if F38 (yup m1424 2 2 (wr ((m1424 2 2) + 1))) = 41 then (J66_63 f A a1 (yup m1424 2 2 (wr ((m1424 2 2) + 1)))) else (bI (F58 f A (yup m1424 2 2 (wr ((m1424 2 2) + 1)))) (fun r1480 m1482 => (if r1480 = (-1) then (some (0, yup (yup m1482 a1 9 r1480) a1 8 1)) else (J66_63 f A a1 (yup (yup m1482 a1 9 r1480) a1 8 1)))))))))
set_option maxRecDepth 100000 in
theorem d66 {L : Nat} {xs : Nat → Int32} {k d n : Nat} {c : yS3} {f : Nat} {A : Nat} {a1 : Nat} {m : yM} (hk : k ≤ f) (hc : c.1 = pX A) (hA : (A = 256 ∨ A = 316)) (hs1 : (276 ≤ a1 ∧ a1 < 316) ∨ (336 ≤ a1 ∧ a1 < 376)) (hR : RM c m) : PC (gZ L xs) k d 66 [.ref 2, .ref a1] m n (qS c (F66 f A a1 m)) := by
  have hX : F66 f A a1 m = F66 f A a1 m := rfl
  have Hr : ∀ r m', F66 f A a1 m = some (r, m') → rg r → RM c m' → ∀ n' : Nat, (qS c (F66 f A a1 m)) (.inl (some (yI r))) m' n' := fun r m' e h1 h2 n' => ⟨r, rfl, h1, h2, e⟩
  refine PC.mk [some (.ref 2), some (.ref a1)] kn66 rfl ?_
  refine p_aload 1 c66_0 rfl rfl ?_
  refine p_getV 4 (.ref A) c66_1 rfl kf2_1 (pX_of hA hR.2.2.2.1 hc) ?_
  refine p_aload 5 c66_4 rfl rfl ?_
  refine p_cS 8 [.ref A, .ref a1] [] c66_5 rfl rfl rfl (fun k' hk' d' => d65 (f := f) (by omega) hA hs1 hR) (fun r1422 m1424 hF1420 hg1421 hR1425 n1411 k1410 hk1410 => ?_)
  have hX1423 := hX.trans (bI_s hF1420)
  refine p_if 21 11 c66_8 rfl rfl (yz_ne hg1421) (fun hb1426 k1427 hk1427 => ?_) (fun hb1426 k1428 hk1428 => ?_)
  · have hX1429 := hX1423.trans (if_neg hb1426)
    refine p_aload 22 c66_21 rfl rfl ?_
    refine p_dup 23 c66_22 rfl rfl ?_
    refine p_getX 26 (m1424 2 2) c66_23 rfl kf2_2 rfl ?_
    refine p_iconst 27 c66_26 rfl ?_
    refine p_iadd 28 c66_27 rfl ?_
    refine p_putI 31 c66_28 rfl kf2_2 ?_
    have hR1430 := hR1425.up 2 2 (v := wr ((m1424 2 2) + 1)) (nselD rfl) (rg_wr _)
    refine p_aload 32 c66_31 rfl rfl ?_
    refine p_cX 35 [.ref 2] [] c66_32 rfl rfl rfl (fun k' hk' d' => d38 hR1430) (fun hg1433 n1432 k1431 hk1431 => ?_)
    refine p_iconst 37 c66_35 rfl ?_
    refine p_icmp 63 40 c66_37 rfl rfl (yc_eq hg1433 (rgD rfl)) (fun hb1434 k1435 hk1435 => ?_) (fun hb1434 k1436 hk1436 => ?_)
    · have hX1437 := hX1429.trans (if_pos hb1434)
      exact tJ66_63 (f := f) (by omega) hc hA hs1 hR1430 (fun r' m' e' => Hr r' m' (hX1437.trans e'))
    · have hX1475 := hX1429.trans (if_neg hb1434)
      refine p_aload 41 c66_40 rfl rfl ?_
      refine p_aload 42 c66_41 rfl rfl ?_
      refine p_cS 45 [.ref 2] [.ref a1] c66_42 rfl rfl rfl (fun k' hk' d' => d58 (f := f) (by omega) hc hA hR1430) (fun r1480 m1482 hF1478 hg1479 hR1483 n1477 k1476 hk1476 => ?_)
      have hX1481 := hX1475.trans (bI_s hF1478)
      refine p_putI 48 c66_45 rfl (kS_9 hs1) ?_
      have hR1484 := hR1483.up a1 9 (v := r1480) (nselA (by omega)) hg1479
      refine p_aload 49 c66_48 rfl rfl ?_
      refine p_iconst 50 c66_49 rfl ?_
      refine p_putI 53 c66_50 rfl (kS_8 hs1) ?_
      have hR1485 := hR1484.up a1 8 (v := 1) (nselA (by omega)) (rgD rfl)
      refine p_aload 54 c66_53 rfl rfl ?_
      refine p_getX 57 r1480 c66_54 rfl (kS_9 hs1) ((yup_nk (by decide)).trans (yup_eq _ _ _ _)) ?_
      refine p_iconst 58 c66_57 rfl ?_
      refine p_icmp 63 61 c66_58 rfl rfl (yc_ne hg1479 (rgD rfl)) (fun hb1486 k1487 hk1487 => ?_) (fun hb1486 k1488 hk1488 => ?_)
      · have hX1489 := hX1481.trans (if_neg hb1486)
        exact tJ66_63 (f := f) (by omega) hc hA hs1 hR1485 (fun r' m' e' => Hr r' m' (hX1489.trans e'))
      · have hX1490 := hX1481.trans (if_pos (Classical.not_not.mp hb1486))
        refine p_iconst 62 c66_61 rfl ?_
        exact p_ireturn c66_62 (Hr _ _ hX1490 (rgD rfl) hR1485 _)
  · have hX1491 := hX1423.trans (if_pos (Classical.not_not.mp hb1426))
    refine p_aload 12 c66_11 rfl rfl ?_
    refine p_aload 13 c66_12 rfl rfl ?_
    refine p_getX 16 (m1424 a1 5) c66_13 rfl (kS_5 hs1) rfl ?_
    refine p_putI 19 c66_16 rfl kf2_4 ?_
    have hR1492 := hR1425.up 2 4 (v := m1424 a1 5) (nselD rfl) (hR1425.rg _ _)
    refine p_iconst 20 c66_19 rfl ?_
    exact p_ireturn c66_20 (Hr _ _ hX1491 (rgD rfl) hR1492 _)
