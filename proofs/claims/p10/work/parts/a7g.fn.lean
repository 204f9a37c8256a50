/-! FUNCTIONS OF THE METHODS: printed by wip/fn/dc.py -/
def F127 (f : Nat) (x1 : Int) (x2 : Int) (x3 : Int) (x4 : Int) (m : yM) : Option (Int × yM) := (some (wr ((wr ((m 390 (F96 m).toNat) + 1)) - 1), yup (yup (yup (yup (yup (yup m 403 (wr ((wr (1000 * (F96 m))) + (wr (8 * (m 390 (F96 m).toNat))))).toNat x1) 403 (wr ((wr ((wr (1000 * (F96 m))) + (wr (8 * (m 390 (F96 m).toNat))))) + 1)).toNat (wr ((m 384 (F96 m).toNat) - 1))) 403 (wr ((wr ((wr (1000 * (F96 m))) + (wr (8 * (m 390 (F96 m).toNat))))) + 2)).toNat x2) 403 (wr ((wr ((wr (1000 * (F96 m))) + (wr (8 * (m 390 (F96 m).toNat))))) + 3)).toNat x3) 403 (wr ((wr ((wr (1000 * (F96 m))) + (wr (8 * (m 390 (F96 m).toNat))))) + 4)).toNat x4) 390 (F96 m).toNat (wr ((m 390 (F96 m).toNat) + 1))))
set_option maxRecDepth 100000 in
theorem d127 {L : Nat} {xs : Nat → Int32} {k d n : Nat} {c : yS3} {f : Nat} {x1 : Int} {x2 : Int} {x3 : Int} {x4 : Int} {m : yM} (hk : k ≤ f) (gx1 : rg x1) (gx2 : rg x2) (gx3 : rg x3) (gx4 : rg x4) (hR : RM c m) : PC (gZ L xs) k d 127 [.ref 376, yI x1, yI x2, yI x3, yI x4] m n (qS c (F127 f x1 x2 x3 x4 m)) := by
  have hX : F127 f x1 x2 x3 x4 m = F127 f x1 x2 x3 x4 m := rfl
  have Hr : ∀ r m', F127 f x1 x2 x3 x4 m = some (r, m') → rg r → RM c m' → ∀ n' : Nat, (qS c (F127 f x1 x2 x3 x4 m)) (.inl (some (yI r))) m' n' := fun r m' e h1 h2 n' => ⟨r, rfl, h1, h2, e⟩
  refine PC.mk [some (.ref 376), some (yI x1), some (yI x2), some (yI x3), some (yI x4), none, none] kn127 rfl ?_
  refine p_aload 1 c127_0 rfl rfl ?_
  refine p_cX 4 [.ref 376] [] c127_1 rfl rfl rfl (fun k' hk' d' => d96 hR) (fun hg4011 n4010 k4009 hk4009 => ?_)
  refine p_istore 6 c127_4 rfl rfl ?_
  refine p_iconst 9 c127_6 rfl ?_
  refine p_iload 11 c127_9 rfl rfl ?_
  refine p_imul 12 c127_11 rfl ?_
  refine p_iconst 14 c127_12 rfl ?_
  refine p_aload 15 c127_14 rfl rfl ?_
  refine p_getR 18 c127_15 rfl kf376_27 ?_
  refine p_iload 20 c127_18 rfl rfl ?_
  refine p_iaX 21 (m 390 (F96 m).toNat) c127_20 rfl ka390 hg4011 rfl (fun hx4012 => ?_)
  refine p_imul 22 c127_21 rfl ?_
  refine p_iadd 23 c127_22 rfl ?_
  refine p_istore 25 c127_23 rfl rfl ?_
  refine p_aload 26 c127_25 rfl rfl ?_
  refine p_getR 29 c127_26 rfl kf376_40 ?_
  refine p_iload 31 c127_29 rfl rfl ?_
  refine p_iload 32 c127_31 rfl rfl ?_
  refine p_iaS 33 c127_32 rfl ka403 (rg_wr _) x1 (nar0 gx1) (fun hx4013 => ?_)
  have hR4014 := hR.up 403 (wr ((wr (1000 * (F96 m))) + (wr (8 * (m 390 (F96 m).toNat))))).toNat (v := x1) (nselA (by decide)) gx1
  refine p_aload 34 c127_33 rfl rfl ?_
  refine p_getR 37 c127_34 rfl kf376_40 ?_
  refine p_iload 39 c127_37 rfl rfl ?_
  refine p_iconst 40 c127_39 rfl ?_
  refine p_iadd 41 c127_40 rfl ?_
  refine p_aload 42 c127_41 rfl rfl ?_
  refine p_getR 45 c127_42 rfl kf376_21 ?_
  refine p_iload 47 c127_45 rfl rfl ?_
  refine p_iaX 48 (m 384 (F96 m).toNat) c127_47 rfl ka384 hg4011 (yup_na (by decide)) (fun hx4015 => ?_)
  refine p_iconst 49 c127_48 rfl ?_
  refine p_isub 50 c127_49 rfl ?_
  refine p_iaS 51 c127_50 rfl ka403 (rg_wr _) (wr ((m 384 (F96 m).toNat) - 1)) (nar0 (rg_wr _)) (fun hx4016 => ?_)
  have hR4017 := hR4014.up 403 (wr ((wr ((wr (1000 * (F96 m))) + (wr (8 * (m 390 (F96 m).toNat))))) + 1)).toNat (v := wr ((m 384 (F96 m).toNat) - 1)) (nselA (by decide)) (rg_wr _)
  refine p_aload 52 c127_51 rfl rfl ?_
  refine p_getR 55 c127_52 rfl kf376_40 ?_
  refine p_iload 57 c127_55 rfl rfl ?_
  refine p_iconst 58 c127_57 rfl ?_
  refine p_iadd 59 c127_58 rfl ?_
  refine p_iload 60 c127_59 rfl rfl ?_
  refine p_iaS 61 c127_60 rfl ka403 (rg_wr _) x2 (nar0 gx2) (fun hx4018 => ?_)
  have hR4019 := hR4017.up 403 (wr ((wr ((wr (1000 * (F96 m))) + (wr (8 * (m 390 (F96 m).toNat))))) + 2)).toNat (v := x2) (nselA (by decide)) gx2
  refine p_aload 62 c127_61 rfl rfl ?_
  refine p_getR 65 c127_62 rfl kf376_40 ?_
  refine p_iload 67 c127_65 rfl rfl ?_
  refine p_iconst 68 c127_67 rfl ?_
  refine p_iadd 69 c127_68 rfl ?_
  refine p_iload 70 c127_69 rfl rfl ?_
  refine p_iaS 71 c127_70 rfl ka403 (rg_wr _) x3 (nar0 gx3) (fun hx4020 => ?_)
  have hR4021 := hR4019.up 403 (wr ((wr ((wr (1000 * (F96 m))) + (wr (8 * (m 390 (F96 m).toNat))))) + 3)).toNat (v := x3) (nselA (by decide)) gx3
  refine p_aload 72 c127_71 rfl rfl ?_
  refine p_getR 75 c127_72 rfl kf376_40 ?_
  refine p_iload 77 c127_75 rfl rfl ?_
  refine p_iconst 78 c127_77 rfl ?_
  refine p_iadd 79 c127_78 rfl ?_
  refine p_iload 81 c127_79 rfl rfl ?_
  refine p_iaS 82 c127_81 rfl ka403 (rg_wr _) x4 (nar0 gx4) (fun hx4022 => ?_)
  have hR4023 := hR4021.up 403 (wr ((wr ((wr (1000 * (F96 m))) + (wr (8 * (m 390 (F96 m).toNat))))) + 4)).toNat (v := x4) (nselA (by decide)) gx4
  refine p_aload 83 c127_82 rfl rfl ?_
  refine p_getR 86 c127_83 rfl kf376_27 ?_
  refine p_iload 88 c127_86 rfl rfl ?_
  refine p_dup2 89 c127_88 rfl ⟨rfl, rfl⟩ ?_
  refine p_iaX 90 (m 390 (F96 m).toNat) c127_89 rfl ka390 hg4011 ((yup_na (by decide)).trans ((yup_na (by decide)).trans ((yup_na (by decide)).trans ((yup_na (by decide)).trans (yup_na (by decide)))))) (fun hx4024 => ?_)
  refine p_iconst 91 c127_90 rfl ?_
  refine p_iadd 92 c127_91 rfl ?_
  refine p_iaS 93 c127_92 rfl ka390 hg4011 (wr ((m 390 (F96 m).toNat) + 1)) (nar0 (rg_wr _)) (fun hx4025 => ?_)
  have hR4026 := hR4023.up 390 (F96 m).toNat (v := wr ((m 390 (F96 m).toNat) + 1)) (nselA (by decide)) (rg_wr _)
  refine p_aload 94 c127_93 rfl rfl ?_
  refine p_getR 97 c127_94 rfl kf376_27 ?_
  refine p_iload 99 c127_97 rfl rfl ?_
  refine p_iaX 100 (wr ((m 390 (F96 m).toNat) + 1)) c127_99 rfl ka390 hg4011 (yup_eq _ _ _ _) (fun hx4027 => ?_)
  refine p_iconst 101 c127_100 rfl ?_
  refine p_isub 102 c127_101 rfl ?_
  exact p_ireturn c127_102 (Hr _ _ hX (rg_wr _) hR4026 _)
def J131_89 (f : Nat) (x2 : Int) (xs1 : Int) (xs3 : Int) (m : yM) : Option yM := (bI (F127 f xs3 x2 0 0 m) (fun r4030 m4032 => (some (yup (yup m4032 379 xs1.toNat r4030) 376 10 (wr ((m4032 376 10) + 1))))))
set_option maxRecDepth 100000 in
theorem tJ131_89 {L : Nat} {xs : Nat → Int32} {Q : xO → yM → Nat → Prop} {k d n : Nat} {c : yS3} {f : Nat} {x2 : Int} {xs1 : Int} {xs3 : Int} {m : yM} {j1 : Option Value} (hk : k ≤ f) (gx2 : rg x2) (gxs1 : rg xs1) (gxs3 : rg xs3) (hR : RM c m) (Hr : ∀ m', J131_89 f x2 xs1 xs3 m = some m' → RM c m' → ∀ n', Q (.inl none) m' n') : PW (gZ L xs) k 131 d 89 [some (.ref 376), j1, some (yI x2)] [yI xs3, .ref 376, yI xs1, .ref 379] m n Q := by
  have hX : J131_89 f x2 xs1 xs3 m = J131_89 f x2 xs1 xs3 m := rfl
  refine p_iload 90 c131_89 rfl rfl ?_
  refine p_iconst 91 c131_90 rfl ?_
  refine p_iconst 92 c131_91 rfl ?_
  refine p_cS 95 [.ref 376, yI xs3, yI x2, yI 0, yI 0] [yI xs1, .ref 379] c131_92 rfl rfl rfl (fun k' hk' d' => d127 (f := f) (by omega) gxs3 gx2 (rgD rfl) (rgD rfl) hR) (fun r4030 m4032 hF4028 hg4029 hR4033 n4008 k4007 hk4007 => ?_)
  have hX4031 := hX.trans (bI_s hF4028)
  refine p_iaS 96 c131_95 rfl ka379 gxs1 r4030 (nar0 hg4029) (fun hx4034 => ?_)
  have hR4035 := hR4033.up 379 xs1.toNat (v := r4030) (nselA (by decide)) hg4029
  refine p_aload 97 c131_96 rfl rfl ?_
  refine p_dup 98 c131_97 rfl rfl ?_
  refine p_getX 101 (m4032 376 10) c131_98 rfl kf376_10 (yup_na (by decide)) ?_
  refine p_iconst 102 c131_101 rfl ?_
  refine p_iadd 103 c131_102 rfl ?_
  refine p_putI 106 c131_103 rfl kf376_10 ?_
  have hR4036 := hR4035.up 376 10 (v := wr ((m4032 376 10) + 1)) (nselD rfl) (rg_wr _)
  exact p_return c131_106 (Hr _ hX4031 hR4036 _)
def J131_68 (f : Nat) (x1 : Int) (x2 : Int) (xs1 : Int) (xs2 : Int) (m : yM) : Option yM := (if x1 = 0 then (J131_89 f x2 (m 376 10) 9 (yup m 378 xs1.toNat xs2)) else (J131_89 f x2 (m 376 10) 10 (yup m 378 xs1.toNat xs2)))
set_option maxRecDepth 100000 in
theorem tJ131_68 {L : Nat} {xs : Nat → Int32} {Q : xO → yM → Nat → Prop} {k d n : Nat} {c : yS3} {f : Nat} {x1 : Int} {x2 : Int} {xs1 : Int} {xs2 : Int} {m : yM} (hk : k ≤ f) (gx1 : rg x1) (gx2 : rg x2) (gxs1 : rg xs1) (gxs2 : rg xs2) (hR : RM c m) (Hr : ∀ m', J131_68 f x1 x2 xs1 xs2 m = some m' → RM c m' → ∀ n', Q (.inl none) m' n') : PW (gZ L xs) k 131 d 68 [some (.ref 376), some (yI x1), some (yI x2)] [yI xs2, yI xs1, .ref 378] m n Q := by
  have hX : J131_68 f x1 x2 xs1 xs2 m = J131_68 f x1 x2 xs1 xs2 m := rfl
  refine p_iaS 69 c131_68 rfl ka378 gxs1 xs2 (nar0 gxs2) (fun hx4001 => ?_)
  have hR4002 := hR.up 378 xs1.toNat (v := xs2) (nselA (by decide)) gxs2
  refine p_aload 70 c131_69 rfl rfl ?_
  refine p_getR 73 c131_70 rfl kf376_12 ?_
  refine p_aload 74 c131_73 rfl rfl ?_
  refine p_getX 77 (m 376 10) c131_74 rfl kf376_10 (yup_na (by decide)) ?_
  refine p_aload 78 c131_77 rfl rfl ?_
  refine p_iload 79 c131_78 rfl rfl ?_
  refine p_if 87 82 c131_79 rfl rfl (yz_eq gx1) (fun hb4003 k4004 hk4004 => ?_) (fun hb4003 k4005 hk4005 => ?_)
  · have hX4006 := hX.trans (if_pos hb4003)
    refine p_iconst 89 c131_87 rfl ?_
    exact tJ131_89 (f := f) (by omega) gx2 (hR.rg _ _) (rgD rfl) hR4002 (fun m' e' => Hr m' (hX4006.trans e'))
  · have hX4037 := hX.trans (if_neg hb4003)
    refine p_iconst 84 c131_82 rfl ?_
    refine p_goto 89 c131_84 rfl ?_
    exact tJ131_89 (f := f) (by omega) gx2 (hR.rg _ _) (rgD rfl) hR4002 (fun m' e' => Hr m' (hX4037.trans e'))
def J131_44 (f : Nat) (x1 : Int) (x2 : Int) (xs1 : Int) (m : yM) : Option yM := (bI (F105 f xs1 m) (fun r3989 m3991 => (if r3989 = 0 then (some m3991) else (if x1 = 0 then (J131_68 f x1 x2 (m3991 376 10) 1 m3991) else (J131_68 f x1 x2 (m3991 376 10) 3 m3991)))))
set_option maxRecDepth 100000 in
theorem tJ131_44 {L : Nat} {xs : Nat → Int32} {Q : xO → yM → Nat → Prop} {k d n : Nat} {c : yS3} {f : Nat} {x1 : Int} {x2 : Int} {xs1 : Int} {m : yM} (hk : k ≤ f) (gx1 : rg x1) (gx2 : rg x2) (gxs1 : rg xs1) (hR : RM c m) (Hr : ∀ m', J131_44 f x1 x2 xs1 m = some m' → RM c m' → ∀ n', Q (.inl none) m' n') : PW (gZ L xs) k 131 d 44 [some (.ref 376), some (yI x1), some (yI x2)] [yI xs1, .ref 376] m n Q := by
  have hX : J131_44 f x1 x2 xs1 m = J131_44 f x1 x2 xs1 m := rfl
  refine p_cS 47 [.ref 376, yI xs1] [] c131_44 rfl rfl rfl (fun k' hk' d' => d105 (f := f) (by omega) gxs1 hR) (fun r3989 m3991 hF3987 hg3988 hR3992 n3986 k3985 hk3985 => ?_)
  have hX3990 := hX.trans (bI_s hF3987)
  refine p_if 51 50 c131_47 rfl rfl (yz_ne hg3988) (fun hb3993 k3994 hk3994 => ?_) (fun hb3993 k3995 hk3995 => ?_)
  · have hX3996 := hX3990.trans (if_neg hb3993)
    refine p_aload 52 c131_51 rfl rfl ?_
    refine p_getR 55 c131_52 rfl kf376_11 ?_
    refine p_aload 56 c131_55 rfl rfl ?_
    refine p_getX 59 (m3991 376 10) c131_56 rfl kf376_10 rfl ?_
    refine p_iload 60 c131_59 rfl rfl ?_
    refine p_if 67 63 c131_60 rfl rfl (yz_eq gx1) (fun hb3997 k3998 hk3998 => ?_) (fun hb3997 k3999 hk3999 => ?_)
    · have hX4000 := hX3996.trans (if_pos hb3997)
      refine p_iconst 68 c131_67 rfl ?_
      exact tJ131_68 (f := f) (by omega) gx1 gx2 (hR3992.rg _ _) (rgD rfl) hR3992 (fun m' e' => Hr m' (hX4000.trans e'))
    · have hX4038 := hX3996.trans (if_neg hb3997)
      refine p_iconst 64 c131_63 rfl ?_
      refine p_goto 68 c131_64 rfl ?_
      exact tJ131_68 (f := f) (by omega) gx1 gx2 (hR3992.rg _ _) (rgD rfl) hR3992 (fun m' e' => Hr m' (hX4038.trans e'))
  · have hX4039 := hX3990.trans (if_pos (Classical.not_not.mp hb3993))
    exact p_return c131_50 (Hr _ hX4039 hR3992 _)
def J131_43 (f : Nat) (x1 : Int) (x2 : Int) (m : yM) : Option yM := (J131_44 f x1 x2 0 m)
set_option maxRecDepth 100000 in
theorem tJ131_43 {L : Nat} {xs : Nat → Int32} {Q : xO → yM → Nat → Prop} {k d n : Nat} {c : yS3} {f : Nat} {x1 : Int} {x2 : Int} {m : yM} (hk : k ≤ f) (gx1 : rg x1) (gx2 : rg x2) (hR : RM c m) (Hr : ∀ m', J131_43 f x1 x2 m = some m' → RM c m' → ∀ n', Q (.inl none) m' n') : PW (gZ L xs) k 131 d 43 [some (.ref 376), some (yI x1), some (yI x2)] [.ref 376] m n Q := by
  have hX : J131_43 f x1 x2 m = J131_43 f x1 x2 m := rfl
  refine p_iconst 44 c131_43 rfl ?_
  exact tJ131_44 (f := f) (by omega) gx1 gx2 (rgD rfl) hR (fun m' e' => Hr m' (hX.trans e'))
def F131 (f : Nat) (m : yM) : Option yM := (bU (F99 f m) (fun m3864 => (bI (F130 f m3864) (fun r3969 m3971 => (if m3971 376 8 < 0 then (if F117 123 m3971 = 0 then (J131_43 f (F112 m) r3969 m3971) else (if m3971 376 10 < 3 then (J131_44 f (F112 m) r3969 1 m3971) else (J131_43 f (F112 m) r3969 m3971))) else (some m3971))))))
set_option maxRecDepth 100000 in
theorem d131 {L : Nat} {xs : Nat → Int32} {k d n : Nat} {c : yS3} {f : Nat} {m : yM} (hk : k ≤ f) (hR : RM c m) : PC (gZ L xs) k d 131 [.ref 376] m n (qV c (F131 f m)) := by
  have hX : F131 f m = F131 f m := rfl
  have Hr : ∀ m', F131 f m = some m' → RM c m' → ∀ n' : Nat, (qV c (F131 f m)) (.inl none) m' n' := fun m' e h n' => ⟨rfl, h, e⟩
  refine PC.mk [some (.ref 376), none, none] kn131 rfl ?_
  refine p_aload 1 c131_0 rfl rfl ?_
  refine p_cX 4 [.ref 376] [] c131_1 rfl rfl rfl (fun k' hk' d' => d112 hR) (fun hg3857 n3856 k3855 hk3855 => ?_)
  refine p_istore 5 c131_4 rfl rfl ?_
  refine p_aload 6 c131_5 rfl rfl ?_
  refine p_cV 9 [.ref 376] [] c131_6 rfl rfl rfl (fun k' hk' d' => d99 (f := f) (by omega) hR) (fun m3864 hF3860 hR3865 n3859 k3858 hk3858 => ?_)
  have hX3863 := hX.trans (bU_s hF3860)
  refine p_aload 10 c131_9 rfl rfl ?_
  refine p_cS 13 [.ref 376] [] c131_10 rfl rfl rfl (fun k' hk' d' => d130 (f := f) (by omega) hR3865) (fun r3969 m3971 hF3967 hg3968 hR3972 n3867 k3866 hk3866 => ?_)
  have hX3970 := hX3863.trans (bI_s hF3967)
  refine p_istore 14 c131_13 rfl rfl ?_
  refine p_aload 15 c131_14 rfl rfl ?_
  refine p_getX 18 (m3971 376 8) c131_15 rfl kf376_8 rfl ?_
  refine p_if 50 21 c131_18 rfl rfl ((yz_ge (hR3972.rg _ _)).trans Int.not_lt.symm) (fun hb3973 k3974 hk3974 => ?_) (fun hb3973 k3975 hk3975 => ?_)
  · have hX3976 := hX3970.trans (if_neg hb3973)
    exact p_return c131_50 (Hr _ hX3976 hR3972 _)
  · have hX3977 := hX3970.trans (if_pos (Classical.not_not.mp hb3973))
    refine p_aload 22 c131_21 rfl rfl ?_
    refine p_aload 23 c131_22 rfl rfl ?_
    refine p_iconst 25 c131_23 rfl ?_
    refine p_cX 28 [.ref 376, yI 123] [.ref 376] c131_25 rfl rfl rfl (fun k' hk' d' => d117 (rgD rfl) hR3972) (fun hg3980 n3979 k3978 hk3978 => ?_)
    refine p_if 43 31 c131_28 rfl rfl (yz_eq hg3980) (fun hb3981 k3982 hk3982 => ?_) (fun hb3981 k3983 hk3983 => ?_)
    · have hX3984 := hX3977.trans (if_pos hb3981)
      exact tJ131_43 (f := f) (by omega) hg3857 hg3968 hR3972 (fun m' e' => Hr m' (hX3984.trans e'))
    · have hX4040 := hX3977.trans (if_neg hb3981)
      refine p_aload 32 c131_31 rfl rfl ?_
      refine p_getX 35 (m3971 376 10) c131_32 rfl kf376_10 rfl ?_
      refine p_iconst 36 c131_35 rfl ?_
      refine p_icmp 43 39 c131_36 rfl rfl ((yc_ge (hR3972.rg _ _) (rgD rfl)).trans Int.not_lt.symm) (fun hb4041 k4042 hk4042 => ?_) (fun hb4041 k4043 hk4043 => ?_)
      · have hX4044 := hX4040.trans (if_neg hb4041)
        exact tJ131_43 (f := f) (by omega) hg3857 hg3968 hR3972 (fun m' e' => Hr m' (hX4044.trans e'))
      · have hX4045 := hX4040.trans (if_pos (Classical.not_not.mp hb4041))
        refine p_iconst 40 c131_39 rfl ?_
        refine p_goto 44 c131_40 rfl ?_
        exact tJ131_44 (f := f) (by omega) hg3857 hg3968 (rgD rfl) hR3972 (fun m' e' => Hr m' (hX4045.trans e'))
def J132_105 (f : Nat) (x1 : Int) (x2 : Int) (x3 : Int) (x5 : Int) (x6 : Int) (x7 : Int) (x8 : Int) (x9 : Int) (m : yM) : Option yM := (if m 376 8 < 0 then (bI (F118 f 41 m) (fun r4246 m4248 => (if r4246 = 0 then (some m4248) else (bI (F127 f 7 x1 x2 x3 m4248) (fun r4258 m4260 => (some (yup (yup (yup m4260 403 (wr ((wr ((wr (1000 * x5)) + (wr (8 * r4258)))) + 5)).toNat (wr ((wr (16 * x6)) + x7))) 403 (wr ((wr ((wr (1000 * x5)) + (wr (8 * r4258)))) + 6)).toNat x8) 403 (wr ((wr ((wr (1000 * x5)) + (wr (8 * r4258)))) + 7)).toNat x9))))))) else (some m))
set_option maxRecDepth 100000 in
theorem tJ132_105 {L : Nat} {xs : Nat → Int32} {Q : xO → yM → Nat → Prop} {k d n : Nat} {c : yS3} {f : Nat} {x1 : Int} {x2 : Int} {x3 : Int} {x5 : Int} {x6 : Int} {x7 : Int} {x8 : Int} {x9 : Int} {m : yM} {j4 j10 : Option Value} (hk : k ≤ f) (gx1 : rg x1) (gx2 : rg x2) (gx3 : rg x3) (gx5 : rg x5) (gx6 : rg x6) (gx7 : rg x7) (gx8 : rg x8) (gx9 : rg x9) (hR : RM c m) (Hr : ∀ m', J132_105 f x1 x2 x3 x5 x6 x7 x8 x9 m = some m' → RM c m' → ∀ n', Q (.inl none) m' n') : PW (gZ L xs) k 132 d 105 [some (.ref 376), some (yI x1), some (yI x2), some (yI x3), j4, some (yI x5), some (yI x6), some (yI x7), some (yI x8), some (yI x9), j10] [] m n Q := by
  have hX : J132_105 f x1 x2 x3 x5 x6 x7 x8 x9 m = J132_105 f x1 x2 x3 x5 x6 x7 x8 x9 m := rfl
  refine p_aload 106 c132_105 rfl rfl ?_
  refine p_getX 109 (m 376 8) c132_106 rfl kf376_8 rfl ?_
  refine p_if 121 112 c132_109 rfl rfl ((yz_ge (hR.rg _ _)).trans Int.not_lt.symm) (fun hb4237 k4238 hk4238 => ?_) (fun hb4237 k4239 hk4239 => ?_)
  · have hX4240 := hX.trans (if_neg hb4237)
    exact p_return c132_121 (Hr _ hX4240 hR _)
  · have hX4241 := hX.trans (if_pos (Classical.not_not.mp hb4237))
    refine p_aload 113 c132_112 rfl rfl ?_
    refine p_iconst 115 c132_113 rfl ?_
    refine p_cS 118 [.ref 376, yI 41] [] c132_115 rfl rfl rfl (fun k' hk' d' => d118 (f := f) (by omega) (rgD rfl) hR) (fun r4246 m4248 hF4244 hg4245 hR4249 n4243 k4242 hk4242 => ?_)
    have hX4247 := hX4241.trans (bI_s hF4244)
    refine p_if 122 121 c132_118 rfl rfl (yz_ne hg4245) (fun hb4250 k4251 hk4251 => ?_) (fun hb4250 k4252 hk4252 => ?_)
    · have hX4253 := hX4247.trans (if_neg hb4250)
      refine p_iconst 125 c132_122 rfl ?_
      refine p_iload 127 c132_125 rfl rfl ?_
      refine p_imul 128 c132_127 rfl ?_
      refine p_iconst 130 c132_128 rfl ?_
      refine p_aload 131 c132_130 rfl rfl ?_
      refine p_iconst 133 c132_131 rfl ?_
      refine p_iload 134 c132_133 rfl rfl ?_
      refine p_iload 135 c132_134 rfl rfl ?_
      refine p_iload 136 c132_135 rfl rfl ?_
      refine p_cS 139 [.ref 376, yI 7, yI x1, yI x2, yI x3] [yI 8, yI (wr (1000 * x5))] c132_136 rfl rfl rfl (fun k' hk' d' => d127 (f := f) (by omega) (rgD rfl) gx1 gx2 gx3 hR4249) (fun r4258 m4260 hF4256 hg4257 hR4261 n4255 k4254 hk4254 => ?_)
      have hX4259 := hX4253.trans (bI_s hF4256)
      refine p_imul 140 c132_139 rfl ?_
      refine p_iadd 141 c132_140 rfl ?_
      refine p_istore 143 c132_141 rfl rfl ?_
      refine p_aload 144 c132_143 rfl rfl ?_
      refine p_getR 147 c132_144 rfl kf376_40 ?_
      refine p_iload 149 c132_147 rfl rfl ?_
      refine p_iconst 150 c132_149 rfl ?_
      refine p_iadd 151 c132_150 rfl ?_
      refine p_iconst 153 c132_151 rfl ?_
      refine p_iload 155 c132_153 rfl rfl ?_
      refine p_imul 156 c132_155 rfl ?_
      refine p_iload 158 c132_156 rfl rfl ?_
      refine p_iadd 159 c132_158 rfl ?_
      refine p_iaS 160 c132_159 rfl ka403 (rg_wr _) (wr ((wr (16 * x6)) + x7)) (nar0 (rg_wr _)) (fun hx4262 => ?_)
      have hR4263 := hR4261.up 403 (wr ((wr ((wr (1000 * x5)) + (wr (8 * r4258)))) + 5)).toNat (v := wr ((wr (16 * x6)) + x7)) (nselA (by decide)) (rg_wr _)
      refine p_aload 161 c132_160 rfl rfl ?_
      refine p_getR 164 c132_161 rfl kf376_40 ?_
      refine p_iload 166 c132_164 rfl rfl ?_
      refine p_iconst 168 c132_166 rfl ?_
      refine p_iadd 169 c132_168 rfl ?_
      refine p_iload 171 c132_169 rfl rfl ?_
      refine p_iaS 172 c132_171 rfl ka403 (rg_wr _) x8 (nar0 gx8) (fun hx4264 => ?_)
      have hR4265 := hR4263.up 403 (wr ((wr ((wr (1000 * x5)) + (wr (8 * r4258)))) + 6)).toNat (v := x8) (nselA (by decide)) gx8
      refine p_aload 173 c132_172 rfl rfl ?_
      refine p_getR 176 c132_173 rfl kf376_40 ?_
      refine p_iload 178 c132_176 rfl rfl ?_
      refine p_iconst 180 c132_178 rfl ?_
      refine p_iadd 181 c132_180 rfl ?_
      refine p_iload 183 c132_181 rfl rfl ?_
      refine p_iaS 184 c132_183 rfl ka403 (rg_wr _) x9 (nar0 gx9) (fun hx4266 => ?_)
      have hR4267 := hR4265.up 403 (wr ((wr ((wr (1000 * x5)) + (wr (8 * r4258)))) + 7)).toNat (v := x9) (nselA (by decide)) gx9
      exact p_return c132_184 (Hr _ hX4259 hR4267 _)
    · have hX4268 := hX4247.trans (if_pos (Classical.not_not.mp hb4250))
      exact p_return c132_121 (Hr _ hX4268 hR4249 _)
def F132 (f : Nat) (x1 : Int) (x2 : Int) (x3 : Int) (x4 : Int) (m : yM) : Option yM := (if m 386 (F96 m).toNat = 12 then (some (yup m 376 8 x4)) else (bU (F99 f (yup m 386 (F96 m).toNat (wr ((m 386 (F96 m).toNat) + 1)))) (fun m4228 => (if F117 41 m4228 = 0 then (bI (F130 f m4228) (fun r4274 m4276 => (if m4276 376 8 < 0 then (if F117 44 m4276 = 0 then (J132_105 f x1 x2 x3 (F96 m) (m 386 (F96 m).toNat) 1 r4274 ((-1)) m4276) else (bU (F99 f m4276) (fun m4297 => (bI (F130 f m4297) (fun r4303 m4305 => (J132_105 f x1 x2 x3 (F96 m) (m 386 (F96 m).toNat) 2 r4274 r4303 m4305)))))) else (J132_105 f x1 x2 x3 (F96 m) (m 386 (F96 m).toNat) 1 r4274 ((-1)) m4276)))) else (J132_105 f x1 x2 x3 (F96 m) (m 386 (F96 m).toNat) 0 ((-1)) ((-1)) m4228)))))
set_option maxRecDepth 100000 in
theorem d132 {L : Nat} {xs : Nat → Int32} {k d n : Nat} {c : yS3} {f : Nat} {x1 : Int} {x2 : Int} {x3 : Int} {x4 : Int} {m : yM} (hk : k ≤ f) (gx1 : rg x1) (gx2 : rg x2) (gx3 : rg x3) (gx4 : rg x4) (hR : RM c m) : PC (gZ L xs) k d 132 [.ref 376, yI x1, yI x2, yI x3, yI x4] m n (qV c (F132 f x1 x2 x3 x4 m)) := by
  have hX : F132 f x1 x2 x3 x4 m = F132 f x1 x2 x3 x4 m := rfl
  have Hr : ∀ m', F132 f x1 x2 x3 x4 m = some m' → RM c m' → ∀ n' : Nat, (qV c (F132 f x1 x2 x3 x4 m)) (.inl none) m' n' := fun m' e h n' => ⟨rfl, h, e⟩
  refine PC.mk [some (.ref 376), some (yI x1), some (yI x2), some (yI x3), some (yI x4), none, none, none, none, none, none] kn132 rfl ?_
  refine p_aload 1 c132_0 rfl rfl ?_
  refine p_cX 4 [.ref 376] [] c132_1 rfl rfl rfl (fun k' hk' d' => d96 hR) (fun hg4212 n4211 k4210 hk4210 => ?_)
  refine p_istore 6 c132_4 rfl rfl ?_
  refine p_aload 7 c132_6 rfl rfl ?_
  refine p_getR 10 c132_7 rfl kf376_23 ?_
  refine p_iload 12 c132_10 rfl rfl ?_
  refine p_iaX 13 (m 386 (F96 m).toNat) c132_12 rfl ka386 hg4212 rfl (fun hx4213 => ?_)
  refine p_iconst 15 c132_13 rfl ?_
  refine p_icmp 25 18 c132_15 rfl rfl (yc_ne (hR.rg _ _) (rgD rfl)) (fun hb4214 k4215 hk4215 => ?_) (fun hb4214 k4216 hk4216 => ?_)
  · have hX4217 := hX.trans (if_neg hb4214)
    refine p_aload 26 c132_25 rfl rfl ?_
    refine p_getR 29 c132_26 rfl kf376_23 ?_
    refine p_iload 31 c132_29 rfl rfl ?_
    refine p_iaX 32 (m 386 (F96 m).toNat) c132_31 rfl ka386 hg4212 rfl (fun hx4218 => ?_)
    refine p_istore 34 c132_32 rfl rfl ?_
    refine p_aload 35 c132_34 rfl rfl ?_
    refine p_getR 38 c132_35 rfl kf376_23 ?_
    refine p_iload 40 c132_38 rfl rfl ?_
    refine p_dup2 41 c132_40 rfl ⟨rfl, rfl⟩ ?_
    refine p_iaX 42 (m 386 (F96 m).toNat) c132_41 rfl ka386 hg4212 rfl (fun hx4219 => ?_)
    refine p_iconst 43 c132_42 rfl ?_
    refine p_iadd 44 c132_43 rfl ?_
    refine p_iaS 45 c132_44 rfl ka386 hg4212 (wr ((m 386 (F96 m).toNat) + 1)) (nar0 (rg_wr _)) (fun hx4220 => ?_)
    have hR4221 := hR.up 386 (F96 m).toNat (v := wr ((m 386 (F96 m).toNat) + 1)) (nselA (by decide)) (rg_wr _)
    refine p_aload 46 c132_45 rfl rfl ?_
    refine p_cV 49 [.ref 376] [] c132_46 rfl rfl rfl (fun k' hk' d' => d99 (f := f) (by omega) hR4221) (fun m4228 hF4224 hR4229 n4223 k4222 hk4222 => ?_)
    have hX4227 := hX4217.trans (bU_s hF4224)
    refine p_iconst 50 c132_49 rfl ?_
    refine p_istore 52 c132_50 rfl rfl ?_
    refine p_iconst 53 c132_52 rfl ?_
    refine p_istore 55 c132_53 rfl rfl ?_
    refine p_iconst 56 c132_55 rfl ?_
    refine p_istore 58 c132_56 rfl rfl ?_
    refine p_aload 59 c132_58 rfl rfl ?_
    refine p_iconst 61 c132_59 rfl ?_
    refine p_cX 64 [.ref 376, yI 41] [] c132_61 rfl rfl rfl (fun k' hk' d' => d117 (rgD rfl) hR4229) (fun hg4232 n4231 k4230 hk4230 => ?_)
    refine p_if 105 67 c132_64 rfl rfl (yz_ne hg4232) (fun hb4233 k4234 hk4234 => ?_) (fun hb4233 k4235 hk4235 => ?_)
    · have hX4236 := hX4227.trans (if_neg hb4233)
      exact tJ132_105 (f := f) (by omega) gx1 gx2 gx3 hg4212 (hR.rg _ _) (rgD rfl) (rgD rfl) (rgD rfl) hR4229 (fun m' e' => Hr m' (hX4236.trans e'))
    · have hX4269 := hX4227.trans (if_pos (Classical.not_not.mp hb4233))
      refine p_aload 68 c132_67 rfl rfl ?_
      refine p_cS 71 [.ref 376] [] c132_68 rfl rfl rfl (fun k' hk' d' => d130 (f := f) (by omega) hR4229) (fun r4274 m4276 hF4272 hg4273 hR4277 n4271 k4270 hk4270 => ?_)
      have hX4275 := hX4269.trans (bI_s hF4272)
      refine p_istore 73 c132_71 rfl rfl ?_
      refine p_iconst 74 c132_73 rfl ?_
      refine p_istore 76 c132_74 rfl rfl ?_
      refine p_aload 77 c132_76 rfl rfl ?_
      refine p_getX 80 (m4276 376 8) c132_77 rfl kf376_8 rfl ?_
      refine p_if 105 83 c132_80 rfl rfl ((yz_ge (hR4277.rg _ _)).trans Int.not_lt.symm) (fun hb4278 k4279 hk4279 => ?_) (fun hb4278 k4280 hk4280 => ?_)
      · have hX4281 := hX4275.trans (if_neg hb4278)
        exact tJ132_105 (f := f) (by omega) gx1 gx2 gx3 hg4212 (hR.rg _ _) (rgD rfl) hg4273 (rgD rfl) hR4277 (fun m' e' => Hr m' (hX4281.trans e'))
      · have hX4282 := hX4275.trans (if_pos (Classical.not_not.mp hb4278))
        refine p_aload 84 c132_83 rfl rfl ?_
        refine p_iconst 86 c132_84 rfl ?_
        refine p_cX 89 [.ref 376, yI 44] [] c132_86 rfl rfl rfl (fun k' hk' d' => d117 (rgD rfl) hR4277) (fun hg4285 n4284 k4283 hk4283 => ?_)
        refine p_if 105 92 c132_89 rfl rfl (yz_eq hg4285) (fun hb4286 k4287 hk4287 => ?_) (fun hb4286 k4288 hk4288 => ?_)
        · have hX4289 := hX4282.trans (if_pos hb4286)
          exact tJ132_105 (f := f) (by omega) gx1 gx2 gx3 hg4212 (hR.rg _ _) (rgD rfl) hg4273 (rgD rfl) hR4277 (fun m' e' => Hr m' (hX4289.trans e'))
        · have hX4290 := hX4282.trans (if_neg hb4286)
          refine p_aload 93 c132_92 rfl rfl ?_
          refine p_cV 96 [.ref 376] [] c132_93 rfl rfl rfl (fun k' hk' d' => d99 (f := f) (by omega) hR4277) (fun m4297 hF4293 hR4298 n4292 k4291 hk4291 => ?_)
          have hX4296 := hX4290.trans (bU_s hF4293)
          refine p_aload 97 c132_96 rfl rfl ?_
          refine p_cS 100 [.ref 376] [] c132_97 rfl rfl rfl (fun k' hk' d' => d130 (f := f) (by omega) hR4298) (fun r4303 m4305 hF4301 hg4302 hR4306 n4300 k4299 hk4299 => ?_)
          have hX4304 := hX4296.trans (bI_s hF4301)
          refine p_istore 102 c132_100 rfl rfl ?_
          refine p_iconst 103 c132_102 rfl ?_
          refine p_istore 105 c132_103 rfl rfl ?_
          exact tJ132_105 (f := f) (by omega) gx1 gx2 gx3 hg4212 (hR.rg _ _) (rgD rfl) hg4273 hg4302 hR4306 (fun m' e' => Hr m' (hX4304.trans e'))
  · have hX4307 := hX.trans (if_pos (Classical.not_not.mp hb4214))
    refine p_aload 19 c132_18 rfl rfl ?_
    refine p_iload 21 c132_19 rfl rfl ?_
    refine p_putI 24 c132_21 rfl kf376_8 ?_
    have hR4308 := hR.up 376 8 (v := x4) (nselD rfl) gx4
    exact p_return c132_24 (Hr _ hX4307 hR4308 _)
def F134 (f : Nat) (x1 : Int) (m : yM) : Option yM := (some (yup (yup (yup m 381 (m 376 17).toNat (m 376 4)) 382 (m 376 17).toNat (m 376 5)) 376 17 (wr ((m 376 17) + 1))))
set_option maxRecDepth 100000 in
theorem d134 {L : Nat} {xs : Nat → Int32} {k d n : Nat} {c : yS3} {f : Nat} {x1 : Int} {m : yM} (hk : k ≤ f) (gx1 : rg x1) (hR : RM c m) : PC (gZ L xs) k d 134 [.ref 376, yI x1] m n (qV c (F134 f x1 m)) := by
  have hX : F134 f x1 m = F134 f x1 m := rfl
  have Hr : ∀ m', F134 f x1 m = some m' → RM c m' → ∀ n' : Nat, (qV c (F134 f x1 m)) (.inl none) m' n' := fun m' e h n' => ⟨rfl, h, e⟩
  refine PC.mk [some (.ref 376), some (yI x1)] kn134 rfl ?_
  refine p_aload 1 c134_0 rfl rfl ?_
  refine p_getR 4 c134_1 rfl kf376_15 ?_
  refine p_aload 5 c134_4 rfl rfl ?_
  refine p_getX 8 (m 376 17) c134_5 rfl kf376_17 rfl ?_
  refine p_aload 9 c134_8 rfl rfl ?_
  refine p_getX 12 (m 376 4) c134_9 rfl kf376_4 rfl ?_
  refine p_iaS 13 c134_12 rfl ka381 (hR.rg _ _) (m 376 4) (nar0 (hR.rg _ _)) (fun hx4358 => ?_)
  have hR4359 := hR.up 381 (m 376 17).toNat (v := m 376 4) (nselA (by decide)) (hR.rg _ _)
  refine p_aload 14 c134_13 rfl rfl ?_
  refine p_getR 17 c134_14 rfl kf376_16 ?_
  refine p_aload 18 c134_17 rfl rfl ?_
  refine p_getX 21 (m 376 17) c134_18 rfl kf376_17 (yup_na (by decide)) ?_
  refine p_aload 22 c134_21 rfl rfl ?_
  refine p_getX 25 (m 376 5) c134_22 rfl kf376_5 (yup_na (by decide)) ?_
  refine p_iaS 26 c134_25 rfl ka382 (hR.rg _ _) (m 376 5) (nar0 (hR.rg _ _)) (fun hx4360 => ?_)
  have hR4361 := hR4359.up 382 (m 376 17).toNat (v := m 376 5) (nselA (by decide)) (hR.rg _ _)
  refine p_aload 27 c134_26 rfl rfl ?_
  refine p_dup 28 c134_27 rfl rfl ?_
  refine p_getX 31 (m 376 17) c134_28 rfl kf376_17 ((yup_na (by decide)).trans (yup_na (by decide))) ?_
  refine p_iconst 32 c134_31 rfl ?_
  refine p_iadd 33 c134_32 rfl ?_
  refine p_putI 36 c134_33 rfl kf376_17 ?_
  have hR4362 := hR4361.up 376 17 (v := wr ((m 376 17) + 1)) (nselD rfl) (rg_wr _)
  exact p_return c134_36 (Hr _ hX hR4362 _)
def J136_22 (f : Nat) (x1 : Int) (x2 : Int) (xs1 : Int) (m : yM) : Option yM := (bI (F105 f xs1 m) (fun r4341 m4343 => (if r4341 = 0 then (some m4343) else (if F115 m4343 = 0 then (bU (F104 f m4343) (fun m4426 => (some m4426))) else (bU (F134 f 1 m4343) (fun m4367 => (bU (F99 f (yup (yup m4367 402 (wr ((wr (8 * x2)) + (m4367 387 x2.toNat))).toNat (m4367 376 4)) 387 x2.toNat (wr ((m4367 387 x2.toNat) + 1)))) (fun m4381 => (bI (F118 f 41 m4381) (fun r4387 m4389 => (if r4387 = 0 then (some m4389) else (bI (F130 f m4389) (fun r4399 m4401 => (if m4401 376 8 < 0 then (bI (F127 f 3 x1 r4399 (m4367 387 x2.toNat) (yup m4401 401 (wr ((wr (8 * x2)) + (m4367 387 x2.toNat))).toNat r4399)) (fun r4414 m4416 => (some m4416))) else (some (yup m4401 401 (wr ((wr (8 * x2)) + (m4367 387 x2.toNat))).toNat r4399))))))))))))))))
set_option maxRecDepth 100000 in
theorem tJ136_22 {L : Nat} {xs : Nat → Int32} {Q : xO → yM → Nat → Prop} {k d n : Nat} {c : yS3} {f : Nat} {x1 : Int} {x2 : Int} {xs1 : Int} {m : yM} {j3 j4 : Option Value} (hk : k ≤ f) (gx1 : rg x1) (gx2 : rg x2) (gxs1 : rg xs1) (hR : RM c m) (Hr : ∀ m', J136_22 f x1 x2 xs1 m = some m' → RM c m' → ∀ n', Q (.inl none) m' n') : PW (gZ L xs) k 136 d 22 [some (.ref 376), some (yI x1), some (yI x2), j3, j4] [yI xs1, .ref 376] m n Q := by
  have hX : J136_22 f x1 x2 xs1 m = J136_22 f x1 x2 xs1 m := rfl
  refine p_cS 25 [.ref 376, yI xs1] [] c136_22 rfl rfl rfl (fun k' hk' d' => d105 (f := f) (by omega) gxs1 hR) (fun r4341 m4343 hF4339 hg4340 hR4344 n4338 k4337 hk4337 => ?_)
  have hX4342 := hX.trans (bI_s hF4339)
  refine p_if 29 28 c136_25 rfl rfl (yz_ne hg4340) (fun hb4345 k4346 hk4346 => ?_) (fun hb4345 k4347 hk4347 => ?_)
  · have hX4348 := hX4342.trans (if_neg hb4345)
    refine p_aload 30 c136_29 rfl rfl ?_
    refine p_cX 33 [.ref 376] [] c136_30 rfl rfl rfl (fun k' hk' d' => d115 hR4344) (fun hg4351 n4350 k4349 hk4349 => ?_)
    refine p_if 41 36 c136_33 rfl rfl (yz_ne hg4351) (fun hb4352 k4353 hk4353 => ?_) (fun hb4352 k4354 hk4354 => ?_)
    · have hX4355 := hX4348.trans (if_neg hb4352)
      refine p_aload 42 c136_41 rfl rfl ?_
      refine p_iconst 43 c136_42 rfl ?_
      refine p_cV 46 [.ref 376, yI 1] [] c136_43 rfl rfl rfl (fun k' hk' d' => d134 (f := f) (by omega) (rgD rfl) hR4344) (fun m4367 hF4363 hR4368 n4357 k4356 hk4356 => ?_)
      have hX4366 := hX4355.trans (bU_s hF4363)
      refine p_aload 47 c136_46 rfl rfl ?_
      refine p_getR 50 c136_47 rfl kf376_24 ?_
      refine p_iload 51 c136_50 rfl rfl ?_
      refine p_iaX 52 (m4367 387 x2.toNat) c136_51 rfl ka387 gx2 rfl (fun hx4369 => ?_)
      refine p_istore 53 c136_52 rfl rfl ?_
      refine p_aload 54 c136_53 rfl rfl ?_
      refine p_getR 57 c136_54 rfl kf376_39 ?_
      refine p_iconst 59 c136_57 rfl ?_
      refine p_iload 60 c136_59 rfl rfl ?_
      refine p_imul 61 c136_60 rfl ?_
      refine p_iload 62 c136_61 rfl rfl ?_
      refine p_iadd 63 c136_62 rfl ?_
      refine p_aload 64 c136_63 rfl rfl ?_
      refine p_getX 67 (m4367 376 4) c136_64 rfl kf376_4 rfl ?_
      refine p_iaS 68 c136_67 rfl ka402 (rg_wr _) (m4367 376 4) (nar0 (hR4368.rg _ _)) (fun hx4370 => ?_)
      have hR4371 := hR4368.up 402 (wr ((wr (8 * x2)) + (m4367 387 x2.toNat))).toNat (v := m4367 376 4) (nselA (by decide)) (hR4368.rg _ _)
      refine p_aload 69 c136_68 rfl rfl ?_
      refine p_getR 72 c136_69 rfl kf376_24 ?_
      refine p_iload 73 c136_72 rfl rfl ?_
      refine p_dup2 74 c136_73 rfl ⟨rfl, rfl⟩ ?_
      refine p_iaX 75 (m4367 387 x2.toNat) c136_74 rfl ka387 gx2 (yup_na (by decide)) (fun hx4372 => ?_)
      refine p_iconst 76 c136_75 rfl ?_
      refine p_iadd 77 c136_76 rfl ?_
      refine p_iaS 78 c136_77 rfl ka387 gx2 (wr ((m4367 387 x2.toNat) + 1)) (nar0 (rg_wr _)) (fun hx4373 => ?_)
      have hR4374 := hR4371.up 387 x2.toNat (v := wr ((m4367 387 x2.toNat) + 1)) (nselA (by decide)) (rg_wr _)
      refine p_aload 79 c136_78 rfl rfl ?_
      refine p_cV 82 [.ref 376] [] c136_79 rfl rfl rfl (fun k' hk' d' => d99 (f := f) (by omega) hR4374) (fun m4381 hF4377 hR4382 n4376 k4375 hk4375 => ?_)
      have hX4380 := hX4366.trans (bU_s hF4377)
      refine p_aload 83 c136_82 rfl rfl ?_
      refine p_iconst 85 c136_83 rfl ?_
      refine p_cS 88 [.ref 376, yI 41] [] c136_85 rfl rfl rfl (fun k' hk' d' => d118 (f := f) (by omega) (rgD rfl) hR4382) (fun r4387 m4389 hF4385 hg4386 hR4390 n4384 k4383 hk4383 => ?_)
      have hX4388 := hX4380.trans (bI_s hF4385)
      refine p_if 92 91 c136_88 rfl rfl (yz_ne hg4386) (fun hb4391 k4392 hk4392 => ?_) (fun hb4391 k4393 hk4393 => ?_)
      · have hX4394 := hX4388.trans (if_neg hb4391)
        refine p_aload 93 c136_92 rfl rfl ?_
        refine p_cS 96 [.ref 376] [] c136_93 rfl rfl rfl (fun k' hk' d' => d130 (f := f) (by omega) hR4390) (fun r4399 m4401 hF4397 hg4398 hR4402 n4396 k4395 hk4395 => ?_)
        have hX4400 := hX4394.trans (bI_s hF4397)
        refine p_istore 98 c136_96 rfl rfl ?_
        refine p_aload 99 c136_98 rfl rfl ?_
        refine p_getR 102 c136_99 rfl kf376_38 ?_
        refine p_iconst 104 c136_102 rfl ?_
        refine p_iload 105 c136_104 rfl rfl ?_
        refine p_imul 106 c136_105 rfl ?_
        refine p_iload 107 c136_106 rfl rfl ?_
        refine p_iadd 108 c136_107 rfl ?_
        refine p_iload 110 c136_108 rfl rfl ?_
        refine p_iaS 111 c136_110 rfl ka401 (rg_wr _) r4399 (nar0 hg4398) (fun hx4403 => ?_)
        have hR4404 := hR4402.up 401 (wr ((wr (8 * x2)) + (m4367 387 x2.toNat))).toNat (v := r4399) (nselA (by decide)) hg4398
        refine p_aload 112 c136_111 rfl rfl ?_
        refine p_getX 115 (m4401 376 8) c136_112 rfl kf376_8 (yup_na (by decide)) ?_
        refine p_if 129 118 c136_115 rfl rfl ((yz_ge (hR4402.rg _ _)).trans Int.not_lt.symm) (fun hb4405 k4406 hk4406 => ?_) (fun hb4405 k4407 hk4407 => ?_)
        · have hX4408 := hX4400.trans (if_neg hb4405)
          exact p_return c136_129 (Hr _ hX4408 hR4404 _)
        · have hX4409 := hX4400.trans (if_pos (Classical.not_not.mp hb4405))
          refine p_aload 119 c136_118 rfl rfl ?_
          refine p_iconst 120 c136_119 rfl ?_
          refine p_iload 121 c136_120 rfl rfl ?_
          refine p_iload 123 c136_121 rfl rfl ?_
          refine p_iload 124 c136_123 rfl rfl ?_
          refine p_cS 127 [.ref 376, yI 3, yI x1, yI r4399, yI (m4367 387 x2.toNat)] [] c136_124 rfl rfl rfl (fun k' hk' d' => d127 (f := f) (by omega) (rgD rfl) gx1 hg4398 (hR4368.rg _ _) hR4404) (fun r4414 m4416 hF4412 hg4413 hR4417 n4411 k4410 hk4410 => ?_)
          have hX4415 := hX4409.trans (bI_s hF4412)
          refine p_istore 129 c136_127 rfl rfl ?_
          exact p_return c136_129 (Hr _ hX4415 hR4417 _)
      · have hX4418 := hX4388.trans (if_pos (Classical.not_not.mp hb4391))
        exact p_return c136_91 (Hr _ hX4418 hR4390 _)
    · have hX4419 := hX4348.trans (if_pos (Classical.not_not.mp hb4352))
      refine p_aload 37 c136_36 rfl rfl ?_
      refine p_cV 40 [.ref 376] [] c136_37 rfl rfl rfl (fun k' hk' d' => d104 (f := f) (by omega) hR4344) (fun m4426 hF4422 hR4427 n4421 k4420 hk4420 => ?_)
      have hX4425 := hX4419.trans (bU_s hF4422)
      exact p_return c136_40 (Hr _ hX4425 hR4427 _)
  · have hX4428 := hX4342.trans (if_pos (Classical.not_not.mp hb4345))
    exact p_return c136_28 (Hr _ hX4428 hR4344 _)
def F136 (f : Nat) (x1 : Int) (m : yM) : Option yM := (if m 387 (F96 m).toNat < 8 then (J136_22 f x1 (F96 m) 1 m) else (J136_22 f x1 (F96 m) 0 m))
set_option maxRecDepth 100000 in
theorem d136 {L : Nat} {xs : Nat → Int32} {k d n : Nat} {c : yS3} {f : Nat} {x1 : Int} {m : yM} (hk : k ≤ f) (gx1 : rg x1) (hR : RM c m) : PC (gZ L xs) k d 136 [.ref 376, yI x1] m n (qV c (F136 f x1 m)) := by
  have hX : F136 f x1 m = F136 f x1 m := rfl
  have Hr : ∀ m', F136 f x1 m = some m' → RM c m' → ∀ n' : Nat, (qV c (F136 f x1 m)) (.inl none) m' n' := fun m' e h n' => ⟨rfl, h, e⟩
  refine PC.mk [some (.ref 376), some (yI x1), none, none, none] kn136 rfl ?_
  refine p_aload 1 c136_0 rfl rfl ?_
  refine p_cX 4 [.ref 376] [] c136_1 rfl rfl rfl (fun k' hk' d' => d96 hR) (fun hg4331 n4330 k4329 hk4329 => ?_)
  refine p_istore 5 c136_4 rfl rfl ?_
  refine p_aload 6 c136_5 rfl rfl ?_
  refine p_aload 7 c136_6 rfl rfl ?_
  refine p_getR 10 c136_7 rfl kf376_24 ?_
  refine p_iload 11 c136_10 rfl rfl ?_
  refine p_iaX 12 (m 387 (F96 m).toNat) c136_11 rfl ka387 hg4331 rfl (fun hx4332 => ?_)
  refine p_iconst 14 c136_12 rfl ?_
  refine p_icmp 21 17 c136_14 rfl rfl ((yc_ge (hR.rg _ _) (rgD rfl)).trans Int.not_lt.symm) (fun hb4333 k4334 hk4334 => ?_) (fun hb4333 k4335 hk4335 => ?_)
  · have hX4336 := hX.trans (if_neg hb4333)
    refine p_iconst 22 c136_21 rfl ?_
    exact tJ136_22 (f := f) (by omega) gx1 hg4331 (rgD rfl) hR (fun m' e' => Hr m' (hX4336.trans e'))
  · have hX4429 := hX.trans (if_pos (Classical.not_not.mp hb4333))
    refine p_iconst 18 c136_17 rfl ?_
    refine p_goto 22 c136_18 rfl ?_
    exact tJ136_22 (f := f) (by omega) gx1 hg4331 (rgD rfl) hR (fun m' e' => Hr m' (hX4429.trans e'))
def J135_22 (f : Nat) (x1 : Int) (x2 : Int) (xs1 : Int) (m : yM) : Option yM := (bI (F105 f xs1 m) (fun r4468 m4470 => (if r4468 = 0 then (some m4470) else (if F115 m4470 = 0 then (bU (F104 f m4470) (fun m4521 => (some m4521))) else (bU (F134 f 0 m4470) (fun m4489 => (bI (F127 f 1 x1 (m4489 388 x2.toNat) 0 (yup m4489 400 (wr ((wr (12 * x2)) + (m4489 388 x2.toNat))).toNat (m4489 376 4))) (fun r4499 m4501 => (bU (F99 f (yup m4501 388 x2.toNat (wr ((m4501 388 x2.toNat) + 1)))) (fun m4512 => (some m4512)))))))))))
set_option maxRecDepth 100000 in
theorem tJ135_22 {L : Nat} {xs : Nat → Int32} {Q : xO → yM → Nat → Prop} {k d n : Nat} {c : yS3} {f : Nat} {x1 : Int} {x2 : Int} {xs1 : Int} {m : yM} {j3 : Option Value} (hk : k ≤ f) (gx1 : rg x1) (gx2 : rg x2) (gxs1 : rg xs1) (hR : RM c m) (Hr : ∀ m', J135_22 f x1 x2 xs1 m = some m' → RM c m' → ∀ n', Q (.inl none) m' n') : PW (gZ L xs) k 135 d 22 [some (.ref 376), some (yI x1), some (yI x2), j3] [yI xs1, .ref 376] m n Q := by
  have hX : J135_22 f x1 x2 xs1 m = J135_22 f x1 x2 xs1 m := rfl
  refine p_cS 25 [.ref 376, yI xs1] [] c135_22 rfl rfl rfl (fun k' hk' d' => d105 (f := f) (by omega) gxs1 hR) (fun r4468 m4470 hF4466 hg4467 hR4471 n4465 k4464 hk4464 => ?_)
  have hX4469 := hX.trans (bI_s hF4466)
  refine p_if 29 28 c135_25 rfl rfl (yz_ne hg4467) (fun hb4472 k4473 hk4473 => ?_) (fun hb4472 k4474 hk4474 => ?_)
  · have hX4475 := hX4469.trans (if_neg hb4472)
    refine p_aload 30 c135_29 rfl rfl ?_
    refine p_cX 33 [.ref 376] [] c135_30 rfl rfl rfl (fun k' hk' d' => d115 hR4471) (fun hg4478 n4477 k4476 hk4476 => ?_)
    refine p_if 41 36 c135_33 rfl rfl (yz_ne hg4478) (fun hb4479 k4480 hk4480 => ?_) (fun hb4479 k4481 hk4481 => ?_)
    · have hX4482 := hX4475.trans (if_neg hb4479)
      refine p_aload 42 c135_41 rfl rfl ?_
      refine p_iconst 43 c135_42 rfl ?_
      refine p_cV 46 [.ref 376, yI 0] [] c135_43 rfl rfl rfl (fun k' hk' d' => d134 (f := f) (by omega) (rgD rfl) hR4471) (fun m4489 hF4485 hR4490 n4484 k4483 hk4483 => ?_)
      have hX4488 := hX4482.trans (bU_s hF4485)
      refine p_aload 47 c135_46 rfl rfl ?_
      refine p_getR 50 c135_47 rfl kf376_37 ?_
      refine p_iconst 52 c135_50 rfl ?_
      refine p_iload 53 c135_52 rfl rfl ?_
      refine p_imul 54 c135_53 rfl ?_
      refine p_aload 55 c135_54 rfl rfl ?_
      refine p_getR 58 c135_55 rfl kf376_25 ?_
      refine p_iload 59 c135_58 rfl rfl ?_
      refine p_iaX 60 (m4489 388 x2.toNat) c135_59 rfl ka388 gx2 rfl (fun hx4491 => ?_)
      refine p_iadd 61 c135_60 rfl ?_
      refine p_aload 62 c135_61 rfl rfl ?_
      refine p_getX 65 (m4489 376 4) c135_62 rfl kf376_4 rfl ?_
      refine p_iaS 66 c135_65 rfl ka400 (rg_wr _) (m4489 376 4) (nar0 (hR4490.rg _ _)) (fun hx4492 => ?_)
      have hR4493 := hR4490.up 400 (wr ((wr (12 * x2)) + (m4489 388 x2.toNat))).toNat (v := m4489 376 4) (nselA (by decide)) (hR4490.rg _ _)
      refine p_aload 67 c135_66 rfl rfl ?_
      refine p_iconst 68 c135_67 rfl ?_
      refine p_iload 69 c135_68 rfl rfl ?_
      refine p_aload 70 c135_69 rfl rfl ?_
      refine p_getR 73 c135_70 rfl kf376_25 ?_
      refine p_iload 74 c135_73 rfl rfl ?_
      refine p_iaX 75 (m4489 388 x2.toNat) c135_74 rfl ka388 gx2 (yup_na (by decide)) (fun hx4494 => ?_)
      refine p_iconst 76 c135_75 rfl ?_
      refine p_cS 79 [.ref 376, yI 1, yI x1, yI (m4489 388 x2.toNat), yI 0] [] c135_76 rfl rfl rfl (fun k' hk' d' => d127 (f := f) (by omega) (rgD rfl) gx1 (hR4490.rg _ _) (rgD rfl) hR4493) (fun r4499 m4501 hF4497 hg4498 hR4502 n4496 k4495 hk4495 => ?_)
      have hX4500 := hX4488.trans (bI_s hF4497)
      refine p_istore 80 c135_79 rfl rfl ?_
      refine p_aload 81 c135_80 rfl rfl ?_
      refine p_getR 84 c135_81 rfl kf376_25 ?_
      refine p_iload 85 c135_84 rfl rfl ?_
      refine p_dup2 86 c135_85 rfl ⟨rfl, rfl⟩ ?_
      refine p_iaX 87 (m4501 388 x2.toNat) c135_86 rfl ka388 gx2 rfl (fun hx4503 => ?_)
      refine p_iconst 88 c135_87 rfl ?_
      refine p_iadd 89 c135_88 rfl ?_
      refine p_iaS 90 c135_89 rfl ka388 gx2 (wr ((m4501 388 x2.toNat) + 1)) (nar0 (rg_wr _)) (fun hx4504 => ?_)
      have hR4505 := hR4502.up 388 x2.toNat (v := wr ((m4501 388 x2.toNat) + 1)) (nselA (by decide)) (rg_wr _)
      refine p_aload 91 c135_90 rfl rfl ?_
      refine p_cV 94 [.ref 376] [] c135_91 rfl rfl rfl (fun k' hk' d' => d99 (f := f) (by omega) hR4505) (fun m4512 hF4508 hR4513 n4507 k4506 hk4506 => ?_)
      have hX4511 := hX4500.trans (bU_s hF4508)
      exact p_return c135_94 (Hr _ hX4511 hR4513 _)
    · have hX4514 := hX4475.trans (if_pos (Classical.not_not.mp hb4479))
      refine p_aload 37 c135_36 rfl rfl ?_
      refine p_cV 40 [.ref 376] [] c135_37 rfl rfl rfl (fun k' hk' d' => d104 (f := f) (by omega) hR4471) (fun m4521 hF4517 hR4522 n4516 k4515 hk4515 => ?_)
      have hX4520 := hX4514.trans (bU_s hF4517)
      exact p_return c135_40 (Hr _ hX4520 hR4522 _)
  · have hX4523 := hX4469.trans (if_pos (Classical.not_not.mp hb4472))
    exact p_return c135_28 (Hr _ hX4523 hR4471 _)
def F135 (f : Nat) (x1 : Int) (m : yM) : Option yM := (if m 388 (F96 m).toNat < 12 then (J135_22 f x1 (F96 m) 1 m) else (J135_22 f x1 (F96 m) 0 m))
set_option maxRecDepth 100000 in
theorem d135 {L : Nat} {xs : Nat → Int32} {k d n : Nat} {c : yS3} {f : Nat} {x1 : Int} {m : yM} (hk : k ≤ f) (gx1 : rg x1) (hR : RM c m) : PC (gZ L xs) k d 135 [.ref 376, yI x1] m n (qV c (F135 f x1 m)) := by
  have hX : F135 f x1 m = F135 f x1 m := rfl
  have Hr : ∀ m', F135 f x1 m = some m' → RM c m' → ∀ n' : Nat, (qV c (F135 f x1 m)) (.inl none) m' n' := fun m' e h n' => ⟨rfl, h, e⟩
  refine PC.mk [some (.ref 376), some (yI x1), none, none] kn135 rfl ?_
  refine p_aload 1 c135_0 rfl rfl ?_
  refine p_cX 4 [.ref 376] [] c135_1 rfl rfl rfl (fun k' hk' d' => d96 hR) (fun hg4458 n4457 k4456 hk4456 => ?_)
  refine p_istore 5 c135_4 rfl rfl ?_
  refine p_aload 6 c135_5 rfl rfl ?_
  refine p_aload 7 c135_6 rfl rfl ?_
  refine p_getR 10 c135_7 rfl kf376_25 ?_
  refine p_iload 11 c135_10 rfl rfl ?_
  refine p_iaX 12 (m 388 (F96 m).toNat) c135_11 rfl ka388 hg4458 rfl (fun hx4459 => ?_)
  refine p_iconst 14 c135_12 rfl ?_
  refine p_icmp 21 17 c135_14 rfl rfl ((yc_ge (hR.rg _ _) (rgD rfl)).trans Int.not_lt.symm) (fun hb4460 k4461 hk4461 => ?_) (fun hb4460 k4462 hk4462 => ?_)
  · have hX4463 := hX.trans (if_neg hb4460)
    refine p_iconst 22 c135_21 rfl ?_
    exact tJ135_22 (f := f) (by omega) gx1 hg4458 (rgD rfl) hR (fun m' e' => Hr m' (hX4463.trans e'))
  · have hX4524 := hX.trans (if_pos (Classical.not_not.mp hb4460))
    refine p_iconst 18 c135_17 rfl ?_
    refine p_goto 22 c135_18 rfl ?_
    exact tJ135_22 (f := f) (by omega) gx1 hg4458 (rgD rfl) hR (fun m' e' => Hr m' (hX4524.trans e'))
def F137 (f : Nat) (x1 : Int) (m : yM) : Option yM := (if F108 m = 0 then (if F109 m = 0 then (if F117 40 m = 0 then (bI (F130 f m) (fun r4154 m4156 => (if m4156 376 8 < 0 then (if F117 46 m4156 = 0 then (bI (F127 f 2 x1 r4154 0 m4156) (fun r4321 m4323 => (some m4323))) else (bU (F99 f m4156) (fun m4175 => (bI (F105 f (F115 m4175) m4175) (fun r4184 m4186 => (if r4184 = 0 then (some m4186) else (if F117 40 m4186 = 0 then (bI (F127 f 4 x1 r4154 (m4175 376 4) m4186) (fun r4203 m4205 => (some m4205))) else (bU (F132 f x1 r4154 (m4175 376 4) (m4175 376 5) m4186) (fun m4313 => (some m4313)))))))))) else (some m4156)))) else (bU (F136 f x1 m) (fun m4434 => (some m4434)))) else (bU (F99 f m) (fun m4443 => (bI (F127 f 8 x1 0 0 m4443) (fun r4449 m4451 => (some m4451)))))) else (bU (F135 f x1 m) (fun m4529 => (some m4529))))
set_option maxRecDepth 100000 in
theorem d137 {L : Nat} {xs : Nat → Int32} {k d n : Nat} {c : yS3} {f : Nat} {x1 : Int} {m : yM} (hk : k ≤ f) (gx1 : rg x1) (hR : RM c m) : PC (gZ L xs) k d 137 [.ref 376, yI x1] m n (qV c (F137 f x1 m)) := by
  have hX : F137 f x1 m = F137 f x1 m := rfl
  have Hr : ∀ m', F137 f x1 m = some m' → RM c m' → ∀ n' : Nat, (qV c (F137 f x1 m)) (.inl none) m' n' := fun m' e h n' => ⟨rfl, h, e⟩
  refine PC.mk [some (.ref 376), some (yI x1), none, none, none] kn137 rfl ?_
  refine p_aload 1 c137_0 rfl rfl ?_
  refine p_cX 4 [.ref 376] [] c137_1 rfl rfl rfl (fun k' hk' d' => d108 hR) (fun hg4131 n4130 k4129 hk4129 => ?_)
  refine p_if 15 7 c137_4 rfl rfl (yz_eq hg4131) (fun hb4132 k4133 hk4133 => ?_) (fun hb4132 k4134 hk4134 => ?_)
  · have hX4135 := hX.trans (if_pos hb4132)
    refine p_aload 16 c137_15 rfl rfl ?_
    refine p_cX 19 [.ref 376] [] c137_16 rfl rfl rfl (fun k' hk' d' => d109 hR) (fun hg4138 n4137 k4136 hk4136 => ?_)
    refine p_if 39 22 c137_19 rfl rfl (yz_eq hg4138) (fun hb4139 k4140 hk4140 => ?_) (fun hb4139 k4141 hk4141 => ?_)
    · have hX4142 := hX4135.trans (if_pos hb4139)
      refine p_aload 40 c137_39 rfl rfl ?_
      refine p_iconst 42 c137_40 rfl ?_
      refine p_cX 45 [.ref 376, yI 40] [] c137_42 rfl rfl rfl (fun k' hk' d' => d117 (rgD rfl) hR) (fun hg4145 n4144 k4143 hk4143 => ?_)
      refine p_if 56 48 c137_45 rfl rfl (yz_eq hg4145) (fun hb4146 k4147 hk4147 => ?_) (fun hb4146 k4148 hk4148 => ?_)
      · have hX4149 := hX4142.trans (if_pos hb4146)
        refine p_aload 57 c137_56 rfl rfl ?_
        refine p_cS 60 [.ref 376] [] c137_57 rfl rfl rfl (fun k' hk' d' => d130 (f := f) (by omega) hR) (fun r4154 m4156 hF4152 hg4153 hR4157 n4151 k4150 hk4150 => ?_)
        have hX4155 := hX4149.trans (bI_s hF4152)
        refine p_istore 61 c137_60 rfl rfl ?_
        refine p_aload 62 c137_61 rfl rfl ?_
        refine p_getX 65 (m4156 376 8) c137_62 rfl kf376_8 rfl ?_
        refine p_if 69 68 c137_65 rfl rfl (yz_lt (hR4157.rg _ _)) (fun hb4158 k4159 hk4159 => ?_) (fun hb4158 k4160 hk4160 => ?_)
        · have hX4161 := hX4155.trans (if_pos hb4158)
          refine p_aload 70 c137_69 rfl rfl ?_
          refine p_iconst 72 c137_70 rfl ?_
          refine p_cX 75 [.ref 376, yI 46] [] c137_72 rfl rfl rfl (fun k' hk' d' => d117 (rgD rfl) hR4157) (fun hg4164 n4163 k4162 hk4162 => ?_)
          refine p_if 88 78 c137_75 rfl rfl (yz_ne hg4164) (fun hb4165 k4166 hk4166 => ?_) (fun hb4165 k4167 hk4167 => ?_)
          · have hX4168 := hX4161.trans (if_neg hb4165)
            refine p_aload 89 c137_88 rfl rfl ?_
            refine p_cV 92 [.ref 376] [] c137_89 rfl rfl rfl (fun k' hk' d' => d99 (f := f) (by omega) hR4157) (fun m4175 hF4171 hR4176 n4170 k4169 hk4169 => ?_)
            have hX4174 := hX4168.trans (bU_s hF4171)
            refine p_aload 93 c137_92 rfl rfl ?_
            refine p_getX 96 (m4175 376 4) c137_93 rfl kf376_4 rfl ?_
            refine p_istore 97 c137_96 rfl rfl ?_
            refine p_aload 98 c137_97 rfl rfl ?_
            refine p_getX 101 (m4175 376 5) c137_98 rfl kf376_5 rfl ?_
            refine p_istore 103 c137_101 rfl rfl ?_
            refine p_aload 104 c137_103 rfl rfl ?_
            refine p_aload 105 c137_104 rfl rfl ?_
            refine p_cX 108 [.ref 376] [.ref 376] c137_105 rfl rfl rfl (fun k' hk' d' => d115 hR4176) (fun hg4179 n4178 k4177 hk4177 => ?_)
            refine p_cS 111 [.ref 376, yI (F115 m4175)] [] c137_108 rfl rfl rfl (fun k' hk' d' => d105 (f := f) (by omega) hg4179 hR4176) (fun r4184 m4186 hF4182 hg4183 hR4187 n4181 k4180 hk4180 => ?_)
            have hX4185 := hX4174.trans (bI_s hF4182)
            refine p_if 115 114 c137_111 rfl rfl (yz_ne hg4183) (fun hb4188 k4189 hk4189 => ?_) (fun hb4188 k4190 hk4190 => ?_)
            · have hX4191 := hX4185.trans (if_neg hb4188)
              refine p_aload 116 c137_115 rfl rfl ?_
              refine p_iconst 118 c137_116 rfl ?_
              refine p_cX 121 [.ref 376, yI 40] [] c137_118 rfl rfl rfl (fun k' hk' d' => d117 (rgD rfl) hR4187) (fun hg4194 n4193 k4192 hk4192 => ?_)
              refine p_if 136 124 c137_121 rfl rfl (yz_eq hg4194) (fun hb4195 k4196 hk4196 => ?_) (fun hb4195 k4197 hk4197 => ?_)
              · have hX4198 := hX4191.trans (if_pos hb4195)
                refine p_aload 137 c137_136 rfl rfl ?_
                refine p_iconst 138 c137_137 rfl ?_
                refine p_iload 139 c137_138 rfl rfl ?_
                refine p_iload 140 c137_139 rfl rfl ?_
                refine p_iload 141 c137_140 rfl rfl ?_
                refine p_cS 144 [.ref 376, yI 4, yI x1, yI r4154, yI (m4175 376 4)] [] c137_141 rfl rfl rfl (fun k' hk' d' => d127 (f := f) (by omega) (rgD rfl) gx1 hg4153 (hR4176.rg _ _) hR4187) (fun r4203 m4205 hF4201 hg4202 hR4206 n4200 k4199 hk4199 => ?_)
                have hX4204 := hX4198.trans (bI_s hF4201)
                refine p_istore 145 c137_144 rfl rfl ?_
                exact p_return c137_145 (Hr _ hX4204 hR4206 _)
              · have hX4207 := hX4191.trans (if_neg hb4195)
                refine p_aload 125 c137_124 rfl rfl ?_
                refine p_iload 126 c137_125 rfl rfl ?_
                refine p_iload 127 c137_126 rfl rfl ?_
                refine p_iload 128 c137_127 rfl rfl ?_
                refine p_iload 130 c137_128 rfl rfl ?_
                refine p_cV 133 [.ref 376, yI x1, yI r4154, yI (m4175 376 4), yI (m4175 376 5)] [] c137_130 rfl rfl rfl (fun k' hk' d' => d132 (f := f) (by omega) gx1 hg4153 (hR4176.rg _ _) (hR4176.rg _ _) hR4187) (fun m4313 hF4309 hR4314 n4209 k4208 hk4208 => ?_)
                have hX4312 := hX4207.trans (bU_s hF4309)
                refine p_goto 145 c137_133 rfl ?_
                exact p_return c137_145 (Hr _ hX4312 hR4314 _)
            · have hX4315 := hX4185.trans (if_pos (Classical.not_not.mp hb4188))
              exact p_return c137_114 (Hr _ hX4315 hR4187 _)
          · have hX4316 := hX4161.trans (if_pos (Classical.not_not.mp hb4165))
            refine p_aload 79 c137_78 rfl rfl ?_
            refine p_iconst 80 c137_79 rfl ?_
            refine p_iload 81 c137_80 rfl rfl ?_
            refine p_iload 82 c137_81 rfl rfl ?_
            refine p_iconst 83 c137_82 rfl ?_
            refine p_cS 86 [.ref 376, yI 2, yI x1, yI r4154, yI 0] [] c137_83 rfl rfl rfl (fun k' hk' d' => d127 (f := f) (by omega) (rgD rfl) gx1 hg4153 (rgD rfl) hR4157) (fun r4321 m4323 hF4319 hg4320 hR4324 n4318 k4317 hk4317 => ?_)
            have hX4322 := hX4316.trans (bI_s hF4319)
            refine p_istore 87 c137_86 rfl rfl ?_
            exact p_return c137_87 (Hr _ hX4322 hR4324 _)
        · have hX4325 := hX4155.trans (if_neg hb4158)
          exact p_return c137_68 (Hr _ hX4325 hR4157 _)
      · have hX4326 := hX4142.trans (if_neg hb4146)
        refine p_aload 49 c137_48 rfl rfl ?_
        refine p_iload 50 c137_49 rfl rfl ?_
        refine p_cV 53 [.ref 376, yI x1] [] c137_50 rfl rfl rfl (fun k' hk' d' => d136 (f := f) (by omega) gx1 hR) (fun m4434 hF4430 hR4435 n4328 k4327 hk4327 => ?_)
        have hX4433 := hX4326.trans (bU_s hF4430)
        refine p_goto 145 c137_53 rfl ?_
        exact p_return c137_145 (Hr _ hX4433 hR4435 _)
    · have hX4436 := hX4135.trans (if_neg hb4139)
      refine p_aload 23 c137_22 rfl rfl ?_
      refine p_cV 26 [.ref 376] [] c137_23 rfl rfl rfl (fun k' hk' d' => d99 (f := f) (by omega) hR) (fun m4443 hF4439 hR4444 n4438 k4437 hk4437 => ?_)
      have hX4442 := hX4436.trans (bU_s hF4439)
      refine p_aload 27 c137_26 rfl rfl ?_
      refine p_iconst 29 c137_27 rfl ?_
      refine p_iload 30 c137_29 rfl rfl ?_
      refine p_iconst 31 c137_30 rfl ?_
      refine p_iconst 32 c137_31 rfl ?_
      refine p_cS 35 [.ref 376, yI 8, yI x1, yI 0, yI 0] [] c137_32 rfl rfl rfl (fun k' hk' d' => d127 (f := f) (by omega) (rgD rfl) gx1 (rgD rfl) (rgD rfl) hR4444) (fun r4449 m4451 hF4447 hg4448 hR4452 n4446 k4445 hk4445 => ?_)
      have hX4450 := hX4442.trans (bI_s hF4447)
      refine p_istore 36 c137_35 rfl rfl ?_
      refine p_goto 145 c137_36 rfl ?_
      exact p_return c137_145 (Hr _ hX4450 hR4452 _)
  · have hX4453 := hX.trans (if_neg hb4132)
    refine p_aload 8 c137_7 rfl rfl ?_
    refine p_iload 9 c137_8 rfl rfl ?_
    refine p_cV 12 [.ref 376, yI x1] [] c137_9 rfl rfl rfl (fun k' hk' d' => d135 (f := f) (by omega) gx1 hR) (fun m4529 hF4525 hR4530 n4455 k4454 hk4454 => ?_)
    have hX4528 := hX4453.trans (bU_s hF4525)
    refine p_goto 145 c137_12 rfl ?_
    exact p_return c137_145 (Hr _ hX4528 hR4530 _)
def F133 (f : Nat) (x1 : Int) (m : yM) : Option yM := (bU (F99 f m) (fun m4555 => (bI (F105 f (F115 m4555) m4555) (fun r4564 m4566 => (if r4564 = 0 then (some m4566) else (if F117 40 m4566 = 0 then (bI (F118 f 61 m4566) (fun r4583 m4585 => (if r4583 = 0 then (some m4585) else (bI (F130 f m4585) (fun r4595 m4597 => (if m4597 376 8 < 0 then (bI (F127 f 5 x1 r4595 (m4555 376 4) m4597) (fun r4608 m4610 => (some m4610))) else (some m4597))))))) else (bU (F132 f ((-1)) x1 (m4555 376 4) (m4555 376 5) m4566) (fun m4620 => (some m4620)))))))))
set_option maxRecDepth 100000 in
theorem d133 {L : Nat} {xs : Nat → Int32} {k d n : Nat} {c : yS3} {f : Nat} {x1 : Int} {m : yM} (hk : k ≤ f) (gx1 : rg x1) (hR : RM c m) : PC (gZ L xs) k d 133 [.ref 376, yI x1] m n (qV c (F133 f x1 m)) := by
  have hX : F133 f x1 m = F133 f x1 m := rfl
  have Hr : ∀ m', F133 f x1 m = some m' → RM c m' → ∀ n' : Nat, (qV c (F133 f x1 m)) (.inl none) m' n' := fun m' e h n' => ⟨rfl, h, e⟩
  refine PC.mk [some (.ref 376), some (yI x1), none, none, none] kn133 rfl ?_
  refine p_aload 1 c133_0 rfl rfl ?_
  refine p_cV 4 [.ref 376] [] c133_1 rfl rfl rfl (fun k' hk' d' => d99 (f := f) (by omega) hR) (fun m4555 hF4551 hR4556 n4550 k4549 hk4549 => ?_)
  have hX4554 := hX.trans (bU_s hF4551)
  refine p_aload 5 c133_4 rfl rfl ?_
  refine p_getX 8 (m4555 376 4) c133_5 rfl kf376_4 rfl ?_
  refine p_istore 9 c133_8 rfl rfl ?_
  refine p_aload 10 c133_9 rfl rfl ?_
  refine p_getX 13 (m4555 376 5) c133_10 rfl kf376_5 rfl ?_
  refine p_istore 14 c133_13 rfl rfl ?_
  refine p_aload 15 c133_14 rfl rfl ?_
  refine p_aload 16 c133_15 rfl rfl ?_
  refine p_cX 19 [.ref 376] [.ref 376] c133_16 rfl rfl rfl (fun k' hk' d' => d115 hR4556) (fun hg4559 n4558 k4557 hk4557 => ?_)
  refine p_cS 22 [.ref 376, yI (F115 m4555)] [] c133_19 rfl rfl rfl (fun k' hk' d' => d105 (f := f) (by omega) hg4559 hR4556) (fun r4564 m4566 hF4562 hg4563 hR4567 n4561 k4560 hk4560 => ?_)
  have hX4565 := hX4554.trans (bI_s hF4562)
  refine p_if 26 25 c133_22 rfl rfl (yz_ne hg4563) (fun hb4568 k4569 hk4569 => ?_) (fun hb4568 k4570 hk4570 => ?_)
  · have hX4571 := hX4565.trans (if_neg hb4568)
    refine p_aload 27 c133_26 rfl rfl ?_
    refine p_iconst 29 c133_27 rfl ?_
    refine p_cX 32 [.ref 376, yI 40] [] c133_29 rfl rfl rfl (fun k' hk' d' => d117 (rgD rfl) hR4567) (fun hg4574 n4573 k4572 hk4572 => ?_)
    refine p_if 44 35 c133_32 rfl rfl (yz_eq hg4574) (fun hb4575 k4576 hk4576 => ?_) (fun hb4575 k4577 hk4577 => ?_)
    · have hX4578 := hX4571.trans (if_pos hb4575)
      refine p_aload 45 c133_44 rfl rfl ?_
      refine p_iconst 47 c133_45 rfl ?_
      refine p_cS 50 [.ref 376, yI 61] [] c133_47 rfl rfl rfl (fun k' hk' d' => d118 (f := f) (by omega) (rgD rfl) hR4567) (fun r4583 m4585 hF4581 hg4582 hR4586 n4580 k4579 hk4579 => ?_)
      have hX4584 := hX4578.trans (bI_s hF4581)
      refine p_if 54 53 c133_50 rfl rfl (yz_ne hg4582) (fun hb4587 k4588 hk4588 => ?_) (fun hb4587 k4589 hk4589 => ?_)
      · have hX4590 := hX4584.trans (if_neg hb4587)
        refine p_aload 55 c133_54 rfl rfl ?_
        refine p_cS 58 [.ref 376] [] c133_55 rfl rfl rfl (fun k' hk' d' => d130 (f := f) (by omega) hR4586) (fun r4595 m4597 hF4593 hg4594 hR4598 n4592 k4591 hk4591 => ?_)
        have hX4596 := hX4590.trans (bI_s hF4593)
        refine p_istore 60 c133_58 rfl rfl ?_
        refine p_aload 61 c133_60 rfl rfl ?_
        refine p_getX 64 (m4597 376 8) c133_61 rfl kf376_8 rfl ?_
        refine p_if 78 67 c133_64 rfl rfl ((yz_ge (hR4598.rg _ _)).trans Int.not_lt.symm) (fun hb4599 k4600 hk4600 => ?_) (fun hb4599 k4601 hk4601 => ?_)
        · have hX4602 := hX4596.trans (if_neg hb4599)
          exact p_return c133_78 (Hr _ hX4602 hR4598 _)
        · have hX4603 := hX4596.trans (if_pos (Classical.not_not.mp hb4599))
          refine p_aload 68 c133_67 rfl rfl ?_
          refine p_iconst 69 c133_68 rfl ?_
          refine p_iload 70 c133_69 rfl rfl ?_
          refine p_iload 72 c133_70 rfl rfl ?_
          refine p_iload 73 c133_72 rfl rfl ?_
          refine p_cS 76 [.ref 376, yI 5, yI x1, yI r4595, yI (m4555 376 4)] [] c133_73 rfl rfl rfl (fun k' hk' d' => d127 (f := f) (by omega) (rgD rfl) gx1 hg4594 (hR4556.rg _ _) hR4598) (fun r4608 m4610 hF4606 hg4607 hR4611 n4605 k4604 hk4604 => ?_)
          have hX4609 := hX4603.trans (bI_s hF4606)
          refine p_istore 78 c133_76 rfl rfl ?_
          exact p_return c133_78 (Hr _ hX4609 hR4611 _)
      · have hX4612 := hX4584.trans (if_pos (Classical.not_not.mp hb4587))
        exact p_return c133_53 (Hr _ hX4612 hR4586 _)
    · have hX4613 := hX4571.trans (if_neg hb4575)
      refine p_aload 36 c133_35 rfl rfl ?_
      refine p_iconst 37 c133_36 rfl ?_
      refine p_iload 38 c133_37 rfl rfl ?_
      refine p_iload 39 c133_38 rfl rfl ?_
      refine p_iload 40 c133_39 rfl rfl ?_
      refine p_cV 43 [.ref 376, yI ((-1)), yI x1, yI (m4555 376 4), yI (m4555 376 5)] [] c133_40 rfl rfl rfl (fun k' hk' d' => d132 (f := f) (by omega) (rgD rfl) gx1 (hR4556.rg _ _) (hR4556.rg _ _) hR4567) (fun m4620 hF4616 hR4621 n4615 k4614 hk4614 => ?_)
      have hX4619 := hX4613.trans (bU_s hF4616)
      exact p_return c133_43 (Hr _ hX4619 hR4621 _)
  · have hX4622 := hX4565.trans (if_pos (Classical.not_not.mp hb4568))
    exact p_return c133_25 (Hr _ hX4622 hR4567 _)
def J138_101 (f : Nat) (m : yM) : Option yM := (if m 376 8 < 0 then (bI (F118 f 59 m) (fun r4117 m4119 => (if r4117 = 0 then (some m4119) else (some m4119)))) else (some m))
set_option maxRecDepth 100000 in
theorem tJ138_101 {L : Nat} {xs : Nat → Int32} {Q : xO → yM → Nat → Prop} {k d n : Nat} {c : yS3} {f : Nat} {m : yM} {j1 j2 : Option Value} (hk : k ≤ f) (hR : RM c m) (Hr : ∀ m', J138_101 f m = some m' → RM c m' → ∀ n', Q (.inl none) m' n') : PW (gZ L xs) k 138 d 101 [some (.ref 376), j1, j2] [] m n Q := by
  have hX : J138_101 f m = J138_101 f m := rfl
  refine p_aload 102 c138_101 rfl rfl ?_
  refine p_getX 105 (m 376 8) c138_102 rfl kf376_8 rfl ?_
  refine p_if 118 108 c138_105 rfl rfl ((yz_ge (hR.rg _ _)).trans Int.not_lt.symm) (fun hb4108 k4109 hk4109 => ?_) (fun hb4108 k4110 hk4110 => ?_)
  · have hX4111 := hX.trans (if_neg hb4108)
    exact p_return c138_118 (Hr _ hX4111 hR _)
  · have hX4112 := hX.trans (if_pos (Classical.not_not.mp hb4108))
    refine p_aload 109 c138_108 rfl rfl ?_
    refine p_iconst 111 c138_109 rfl ?_
    refine p_cS 114 [.ref 376, yI 59] [] c138_111 rfl rfl rfl (fun k' hk' d' => d118 (f := f) (by omega) (rgD rfl) hR) (fun r4117 m4119 hF4115 hg4116 hR4120 n4114 k4113 hk4113 => ?_)
    have hX4118 := hX4112.trans (bI_s hF4115)
    refine p_if 118 117 c138_114 rfl rfl (yz_ne hg4116) (fun hb4121 k4122 hk4122 => ?_) (fun hb4121 k4123 hk4123 => ?_)
    · have hX4124 := hX4118.trans (if_neg hb4121)
      exact p_return c138_118 (Hr _ hX4124 hR4120 _)
    · have hX4125 := hX4118.trans (if_pos (Classical.not_not.mp hb4121))
      exact p_return c138_117 (Hr _ hX4125 hR4120 _)
def J138_90 (f : Nat) (x2 : Int) (xs1 : Int) (m : yM) : Option yM := (bI (F105 f xs1 m) (fun r4100 m4102 => (if r4100 = 0 then (J138_101 f m4102) else (bU (F137 f x2 m4102) (fun m4535 => (J138_101 f m4535))))))
set_option maxRecDepth 100000 in
theorem tJ138_90 {L : Nat} {xs : Nat → Int32} {Q : xO → yM → Nat → Prop} {k d n : Nat} {c : yS3} {f : Nat} {x2 : Int} {xs1 : Int} {m : yM} {j1 : Option Value} (hk : k ≤ f) (gx2 : rg x2) (gxs1 : rg xs1) (hR : RM c m) (Hr : ∀ m', J138_90 f x2 xs1 m = some m' → RM c m' → ∀ n', Q (.inl none) m' n') : PW (gZ L xs) k 138 d 90 [some (.ref 376), j1, some (yI x2)] [yI xs1, .ref 376] m n Q := by
  have hX : J138_90 f x2 xs1 m = J138_90 f x2 xs1 m := rfl
  refine p_cS 93 [.ref 376, yI xs1] [] c138_90 rfl rfl rfl (fun k' hk' d' => d105 (f := f) (by omega) gxs1 hR) (fun r4100 m4102 hF4098 hg4099 hR4103 n4097 k4096 hk4096 => ?_)
  have hX4101 := hX.trans (bI_s hF4098)
  refine p_if 101 96 c138_93 rfl rfl (yz_eq hg4099) (fun hb4104 k4105 hk4105 => ?_) (fun hb4104 k4106 hk4106 => ?_)
  · have hX4107 := hX4101.trans (if_pos hb4104)
    exact tJ138_101 (f := f) (by omega) hR4103 (fun m' e' => Hr m' (hX4107.trans e'))
  · have hX4126 := hX4101.trans (if_neg hb4104)
    refine p_aload 97 c138_96 rfl rfl ?_
    refine p_iload 98 c138_97 rfl rfl ?_
    refine p_cV 101 [.ref 376, yI x2] [] c138_98 rfl rfl rfl (fun k' hk' d' => d137 (f := f) (by omega) gx2 hR4103) (fun m4535 hF4531 hR4536 n4128 k4127 hk4127 => ?_)
    have hX4534 := hX4126.trans (bU_s hF4531)
    exact tJ138_101 (f := f) (by omega) hR4536 (fun m' e' => Hr m' (hX4534.trans e'))
def J138_89 (f : Nat) (x2 : Int) (m : yM) : Option yM := (J138_90 f x2 0 m)
set_option maxRecDepth 100000 in
theorem tJ138_89 {L : Nat} {xs : Nat → Int32} {Q : xO → yM → Nat → Prop} {k d n : Nat} {c : yS3} {f : Nat} {x2 : Int} {m : yM} {j1 : Option Value} (hk : k ≤ f) (gx2 : rg x2) (hR : RM c m) (Hr : ∀ m', J138_89 f x2 m = some m' → RM c m' → ∀ n', Q (.inl none) m' n') : PW (gZ L xs) k 138 d 89 [some (.ref 376), j1, some (yI x2)] [.ref 376] m n Q := by
  have hX : J138_89 f x2 m = J138_89 f x2 m := rfl
  refine p_iconst 90 c138_89 rfl ?_
  exact tJ138_90 (f := f) (by omega) gx2 (rgD rfl) hR (fun m' e' => Hr m' (hX.trans e'))
def J138_38 (f : Nat) (m : yM) : Option yM := (J138_101 f m)
set_option maxRecDepth 100000 in
theorem tJ138_38 {L : Nat} {xs : Nat → Int32} {Q : xO → yM → Nat → Prop} {k d n : Nat} {c : yS3} {f : Nat} {m : yM} {j1 j2 : Option Value} (hk : k ≤ f) (hR : RM c m) (Hr : ∀ m', J138_38 f m = some m' → RM c m' → ∀ n', Q (.inl none) m' n') : PW (gZ L xs) k 138 d 38 [some (.ref 376), j1, j2] [] m n Q := by
  have hX : J138_38 f m = J138_38 f m := rfl
  refine p_goto 101 c138_38 rfl ?_
  exact tJ138_101 (f := f) (by omega) hR (fun m' e' => Hr m' (hX.trans e'))
def F138 (f : Nat) (m : yM) : Option yM := (if F113 m = 0 then (bI (F130 f m) (fun r4077 m4079 => (if m4079 376 8 < 0 then (if F117 46 m4079 = 0 then (if F115 m = 0 then (J138_89 f r4077 m4079) else (if F117 61 m4079 = 0 then (J138_89 f r4077 m4079) else (J138_90 f r4077 1 m4079))) else (bU (F133 f r4077 m4079) (fun m4627 => (J138_101 f m4627)))) else (some m4079)))) else (bU (F99 f m) (fun m4637 => (bI (F130 f m4637) (fun r4643 m4645 => (if m4645 376 8 < 0 then (bI (F127 f 6 r4643 0 0 m4645) (fun r4656 m4658 => (J138_38 f m4658))) else (J138_38 f m4645)))))))
set_option maxRecDepth 100000 in
theorem d138 {L : Nat} {xs : Nat → Int32} {k d n : Nat} {c : yS3} {f : Nat} {m : yM} (hk : k ≤ f) (hR : RM c m) : PC (gZ L xs) k d 138 [.ref 376] m n (qV c (F138 f m)) := by
  have hX : F138 f m = F138 f m := rfl
  have Hr : ∀ m', F138 f m = some m' → RM c m' → ∀ n' : Nat, (qV c (F138 f m)) (.inl none) m' n' := fun m' e h n' => ⟨rfl, h, e⟩
  refine PC.mk [some (.ref 376), none, none] kn138 rfl ?_
  refine p_aload 1 c138_0 rfl rfl ?_
  refine p_cX 4 [.ref 376] [] c138_1 rfl rfl rfl (fun k' hk' d' => d115 hR) (fun hg4065 n4064 k4063 hk4063 => ?_)
  refine p_istore 5 c138_4 rfl rfl ?_
  refine p_aload 6 c138_5 rfl rfl ?_
  refine p_cX 9 [.ref 376] [] c138_6 rfl rfl rfl (fun k' hk' d' => d113 hR) (fun hg4068 n4067 k4066 hk4066 => ?_)
  refine p_if 41 12 c138_9 rfl rfl (yz_eq hg4068) (fun hb4069 k4070 hk4070 => ?_) (fun hb4069 k4071 hk4071 => ?_)
  · have hX4072 := hX.trans (if_pos hb4069)
    refine p_aload 42 c138_41 rfl rfl ?_
    refine p_cS 45 [.ref 376] [] c138_42 rfl rfl rfl (fun k' hk' d' => d130 (f := f) (by omega) hR) (fun r4077 m4079 hF4075 hg4076 hR4080 n4074 k4073 hk4073 => ?_)
    have hX4078 := hX4072.trans (bI_s hF4075)
    refine p_istore 46 c138_45 rfl rfl ?_
    refine p_aload 47 c138_46 rfl rfl ?_
    refine p_getX 50 (m4079 376 8) c138_47 rfl kf376_8 rfl ?_
    refine p_if 54 53 c138_50 rfl rfl (yz_lt (hR4080.rg _ _)) (fun hb4081 k4082 hk4082 => ?_) (fun hb4081 k4083 hk4083 => ?_)
    · have hX4084 := hX4078.trans (if_pos hb4081)
      refine p_aload 55 c138_54 rfl rfl ?_
      refine p_iconst 57 c138_55 rfl ?_
      refine p_cX 60 [.ref 376, yI 46] [] c138_57 rfl rfl rfl (fun k' hk' d' => d117 (rgD rfl) hR4080) (fun hg4087 n4086 k4085 hk4085 => ?_)
      refine p_if 71 63 c138_60 rfl rfl (yz_eq hg4087) (fun hb4088 k4089 hk4089 => ?_) (fun hb4088 k4090 hk4090 => ?_)
      · have hX4091 := hX4084.trans (if_pos hb4088)
        refine p_aload 72 c138_71 rfl rfl ?_
        refine p_iload 73 c138_72 rfl rfl ?_
        refine p_if 89 76 c138_73 rfl rfl (yz_eq hg4065) (fun hb4092 k4093 hk4093 => ?_) (fun hb4092 k4094 hk4094 => ?_)
        · have hX4095 := hX4091.trans (if_pos hb4092)
          exact tJ138_89 (f := f) (by omega) hg4076 hR4080 (fun m' e' => Hr m' (hX4095.trans e'))
        · have hX4537 := hX4091.trans (if_neg hb4092)
          refine p_aload 77 c138_76 rfl rfl ?_
          refine p_iconst 79 c138_77 rfl ?_
          refine p_cX 82 [.ref 376, yI 61] [.ref 376] c138_79 rfl rfl rfl (fun k' hk' d' => d117 (rgD rfl) hR4080) (fun hg4540 n4539 k4538 hk4538 => ?_)
          refine p_if 89 85 c138_82 rfl rfl (yz_eq hg4540) (fun hb4541 k4542 hk4542 => ?_) (fun hb4541 k4543 hk4543 => ?_)
          · have hX4544 := hX4537.trans (if_pos hb4541)
            exact tJ138_89 (f := f) (by omega) hg4076 hR4080 (fun m' e' => Hr m' (hX4544.trans e'))
          · have hX4545 := hX4537.trans (if_neg hb4541)
            refine p_iconst 86 c138_85 rfl ?_
            refine p_goto 90 c138_86 rfl ?_
            exact tJ138_90 (f := f) (by omega) hg4076 (rgD rfl) hR4080 (fun m' e' => Hr m' (hX4545.trans e'))
      · have hX4546 := hX4084.trans (if_neg hb4088)
        refine p_aload 64 c138_63 rfl rfl ?_
        refine p_iload 65 c138_64 rfl rfl ?_
        refine p_cV 68 [.ref 376, yI r4077] [] c138_65 rfl rfl rfl (fun k' hk' d' => d133 (f := f) (by omega) hg4076 hR4080) (fun m4627 hF4623 hR4628 n4548 k4547 hk4547 => ?_)
        have hX4626 := hX4546.trans (bU_s hF4623)
        refine p_goto 101 c138_68 rfl ?_
        exact tJ138_101 (f := f) (by omega) hR4628 (fun m' e' => Hr m' (hX4626.trans e'))
    · have hX4629 := hX4078.trans (if_neg hb4081)
      exact p_return c138_53 (Hr _ hX4629 hR4080 _)
  · have hX4630 := hX.trans (if_neg hb4069)
    refine p_aload 13 c138_12 rfl rfl ?_
    refine p_cV 16 [.ref 376] [] c138_13 rfl rfl rfl (fun k' hk' d' => d99 (f := f) (by omega) hR) (fun m4637 hF4633 hR4638 n4632 k4631 hk4631 => ?_)
    have hX4636 := hX4630.trans (bU_s hF4633)
    refine p_aload 17 c138_16 rfl rfl ?_
    refine p_cS 20 [.ref 376] [] c138_17 rfl rfl rfl (fun k' hk' d' => d130 (f := f) (by omega) hR4638) (fun r4643 m4645 hF4641 hg4642 hR4646 n4640 k4639 hk4639 => ?_)
    have hX4644 := hX4636.trans (bI_s hF4641)
    refine p_istore 21 c138_20 rfl rfl ?_
    refine p_aload 22 c138_21 rfl rfl ?_
    refine p_getX 25 (m4645 376 8) c138_22 rfl kf376_8 rfl ?_
    refine p_if 38 28 c138_25 rfl rfl ((yz_ge (hR4646.rg _ _)).trans Int.not_lt.symm) (fun hb4647 k4648 hk4648 => ?_) (fun hb4647 k4649 hk4649 => ?_)
    · have hX4650 := hX4644.trans (if_neg hb4647)
      exact tJ138_38 (f := f) (by omega) hR4646 (fun m' e' => Hr m' (hX4650.trans e'))
    · have hX4651 := hX4644.trans (if_pos (Classical.not_not.mp hb4647))
      refine p_aload 29 c138_28 rfl rfl ?_
      refine p_iconst 31 c138_29 rfl ?_
      refine p_iload 32 c138_31 rfl rfl ?_
      refine p_iconst 33 c138_32 rfl ?_
      refine p_iconst 34 c138_33 rfl ?_
      refine p_cS 37 [.ref 376, yI 6, yI r4643, yI 0, yI 0] [] c138_34 rfl rfl rfl (fun k' hk' d' => d127 (f := f) (by omega) (rgD rfl) hg4642 (rgD rfl) (rgD rfl) hR4646) (fun r4656 m4658 hF4654 hg4655 hR4659 n4653 k4652 hk4652 => ?_)
      have hX4657 := hX4651.trans (bI_s hF4654)
      refine p_istore 38 c138_37 rfl rfl ?_
      exact tJ138_38 (f := f) (by omega) hR4659 (fun m' e' => Hr m' (hX4657.trans e'))
def F128 (f : Nat) (x1 : Int) (m : yM) : Option yM := (some (yup m 403 (wr ((wr ((wr (1000 * (F96 m))) + (wr (8 * x1)))) + 3)).toNat (m 390 (F96 m).toNat)))
set_option maxRecDepth 100000 in
theorem d128 {L : Nat} {xs : Nat → Int32} {k d n : Nat} {c : yS3} {f : Nat} {x1 : Int} {m : yM} (hk : k ≤ f) (gx1 : rg x1) (hR : RM c m) : PC (gZ L xs) k d 128 [.ref 376, yI x1] m n (qV c (F128 f x1 m)) := by
  have hX : F128 f x1 m = F128 f x1 m := rfl
  have Hr : ∀ m', F128 f x1 m = some m' → RM c m' → ∀ n' : Nat, (qV c (F128 f x1 m)) (.inl none) m' n' := fun m' e h n' => ⟨rfl, h, e⟩
  refine PC.mk [some (.ref 376), some (yI x1)] kn128 rfl ?_
  refine p_aload 1 c128_0 rfl rfl ?_
  refine p_getR 4 c128_1 rfl kf376_40 ?_
  refine p_iconst 7 c128_4 rfl ?_
  refine p_aload 8 c128_7 rfl rfl ?_
  refine p_cX 11 [.ref 376] [yI 1000, .ref 403] c128_8 rfl rfl rfl (fun k' hk' d' => d96 hR) (fun hg4731 n4730 k4729 hk4729 => ?_)
  refine p_imul 12 c128_11 rfl ?_
  refine p_iconst 14 c128_12 rfl ?_
  refine p_iload 15 c128_14 rfl rfl ?_
  refine p_imul 16 c128_15 rfl ?_
  refine p_iadd 17 c128_16 rfl ?_
  refine p_iconst 18 c128_17 rfl ?_
  refine p_iadd 19 c128_18 rfl ?_
  refine p_aload 20 c128_19 rfl rfl ?_
  refine p_getR 23 c128_20 rfl kf376_27 ?_
  refine p_aload 24 c128_23 rfl rfl ?_
  refine p_cX 27 [.ref 376] [.ref 390, yI (wr ((wr ((wr (1000 * (F96 m))) + (wr (8 * x1)))) + 3)), .ref 403] c128_24 rfl rfl rfl (fun k' hk' d' => d96 hR) (fun hg4734 n4733 k4732 hk4732 => ?_)
  refine p_iaX 28 (m 390 (F96 m).toNat) c128_27 rfl ka390 hg4734 rfl (fun hx4735 => ?_)
  refine p_iaS 29 c128_28 rfl ka403 (rg_wr _) (m 390 (F96 m).toNat) (nar0 (hR.rg _ _)) (fun hx4736 => ?_)
  have hR4737 := hR.up 403 (wr ((wr ((wr (1000 * (F96 m))) + (wr (8 * x1)))) + 3)).toNat (v := m 390 (F96 m).toNat) (nselA (by decide)) (hR.rg _ _)
  exact p_return c128_29 (Hr _ hX hR4737 _)
def J129_119 (f : Nat) (x1 : Int) (m : yM) : Option yM := (bU (F128 f x1 m) (fun m4742 => (some (yup m4742 376 10 (wr ((m4742 376 10) - 1))))))
set_option maxRecDepth 100000 in
theorem tJ129_119 {L : Nat} {xs : Nat → Int32} {Q : xO → yM → Nat → Prop} {k d n : Nat} {c : yS3} {f : Nat} {x1 : Int} {m : yM} {j2 : Option Value} (hk : k ≤ f) (gx1 : rg x1) (hR : RM c m) (Hr : ∀ m', J129_119 f x1 m = some m' → RM c m' → ∀ n', Q (.inl none) m' n') : PW (gZ L xs) k 129 d 119 [some (.ref 376), some (yI x1), j2] [] m n Q := by
  have hX : J129_119 f x1 m = J129_119 f x1 m := rfl
  refine p_aload 120 c129_119 rfl rfl ?_
  refine p_iload 121 c129_120 rfl rfl ?_
  refine p_cV 124 [.ref 376, yI x1] [] c129_121 rfl rfl rfl (fun k' hk' d' => d128 (f := f) (by omega) gx1 hR) (fun m4742 hF4738 hR4743 n4728 k4727 hk4727 => ?_)
  have hX4741 := hX.trans (bU_s hF4738)
  refine p_aload 125 c129_124 rfl rfl ?_
  refine p_dup 126 c129_125 rfl rfl ?_
  refine p_getX 129 (m4742 376 10) c129_126 rfl kf376_10 rfl ?_
  refine p_iconst 130 c129_129 rfl ?_
  refine p_isub 131 c129_130 rfl ?_
  refine p_putI 134 c129_131 rfl kf376_10 ?_
  have hR4744 := hR4743.up 376 10 (v := wr ((m4742 376 10) - 1)) (nselD rfl) (rg_wr _)
  exact p_return c129_134 (Hr _ hX4741 hR4744 _)
def J129_41 (f : Nat) (x1 : Int) (m : yM) : Option yM := (if m 378 (wr ((m 376 10) - 1)).toNat = 1 then (if F111 m = 0 then (J129_119 f x1 m) else (bU (F99 f m) (fun m4760 => (bI (F127 f 11 0 0 0 m4760) (fun r4766 m4768 => (bU (F128 f x1 m4768) (fun m4776 => (bI (F118 f 123 (yup (yup m4776 378 (wr ((m4776 376 10) - 1)).toNat 2) 379 (wr ((m4776 376 10) - 1)).toNat r4766)) (fun r4786 m4788 => (if r4786 = 0 then (some m4788) else (some m4788))))))))))) else (J129_119 f x1 m))
set_option maxRecDepth 100000 in
theorem tJ129_41 {L : Nat} {xs : Nat → Int32} {Q : xO → yM → Nat → Prop} {k d n : Nat} {c : yS3} {f : Nat} {x1 : Int} {m : yM} {j2 : Option Value} (hk : k ≤ f) (gx1 : rg x1) (hR : RM c m) (Hr : ∀ m', J129_41 f x1 m = some m' → RM c m' → ∀ n', Q (.inl none) m' n') : PW (gZ L xs) k 129 d 41 [some (.ref 376), some (yI x1), j2] [] m n Q := by
  have hX : J129_41 f x1 m = J129_41 f x1 m := rfl
  refine p_aload 42 c129_41 rfl rfl ?_
  refine p_getR 45 c129_42 rfl kf376_11 ?_
  refine p_aload 46 c129_45 rfl rfl ?_
  refine p_getX 49 (m 376 10) c129_46 rfl kf376_10 rfl ?_
  refine p_iconst 50 c129_49 rfl ?_
  refine p_isub 51 c129_50 rfl ?_
  refine p_iaX 52 (m 378 (wr ((m 376 10) - 1)).toNat) c129_51 rfl ka378 (rg_wr _) rfl (fun hx4722 => ?_)
  refine p_iconst 53 c129_52 rfl ?_
  refine p_icmp 119 56 c129_53 rfl rfl (yc_ne (hR.rg _ _) (rgD rfl)) (fun hb4723 k4724 hk4724 => ?_) (fun hb4723 k4725 hk4725 => ?_)
  · have hX4726 := hX.trans (if_neg hb4723)
    exact tJ129_119 (f := f) (by omega) gx1 hR (fun m' e' => Hr m' (hX4726.trans e'))
  · have hX4745 := hX.trans (if_pos (Classical.not_not.mp hb4723))
    refine p_aload 57 c129_56 rfl rfl ?_
    refine p_cX 60 [.ref 376] [] c129_57 rfl rfl rfl (fun k' hk' d' => d111 hR) (fun hg4748 n4747 k4746 hk4746 => ?_)
    refine p_if 119 63 c129_60 rfl rfl (yz_eq hg4748) (fun hb4749 k4750 hk4750 => ?_) (fun hb4749 k4751 hk4751 => ?_)
    · have hX4752 := hX4745.trans (if_pos hb4749)
      exact tJ129_119 (f := f) (by omega) gx1 hR (fun m' e' => Hr m' (hX4752.trans e'))
    · have hX4753 := hX4745.trans (if_neg hb4749)
      refine p_aload 64 c129_63 rfl rfl ?_
      refine p_cV 67 [.ref 376] [] c129_64 rfl rfl rfl (fun k' hk' d' => d99 (f := f) (by omega) hR) (fun m4760 hF4756 hR4761 n4755 k4754 hk4754 => ?_)
      have hX4759 := hX4753.trans (bU_s hF4756)
      refine p_aload 68 c129_67 rfl rfl ?_
      refine p_iconst 70 c129_68 rfl ?_
      refine p_iconst 71 c129_70 rfl ?_
      refine p_iconst 72 c129_71 rfl ?_
      refine p_iconst 73 c129_72 rfl ?_
      refine p_cS 76 [.ref 376, yI 11, yI 0, yI 0, yI 0] [] c129_73 rfl rfl rfl (fun k' hk' d' => d127 (f := f) (by omega) (rgD rfl) (rgD rfl) (rgD rfl) (rgD rfl) hR4761) (fun r4766 m4768 hF4764 hg4765 hR4769 n4763 k4762 hk4762 => ?_)
      have hX4767 := hX4759.trans (bI_s hF4764)
      refine p_istore 77 c129_76 rfl rfl ?_
      refine p_aload 78 c129_77 rfl rfl ?_
      refine p_iload 79 c129_78 rfl rfl ?_
      refine p_cV 82 [.ref 376, yI x1] [] c129_79 rfl rfl rfl (fun k' hk' d' => d128 (f := f) (by omega) gx1 hR4769) (fun m4776 hF4772 hR4777 n4771 k4770 hk4770 => ?_)
      have hX4775 := hX4767.trans (bU_s hF4772)
      refine p_aload 83 c129_82 rfl rfl ?_
      refine p_getR 86 c129_83 rfl kf376_11 ?_
      refine p_aload 87 c129_86 rfl rfl ?_
      refine p_getX 90 (m4776 376 10) c129_87 rfl kf376_10 rfl ?_
      refine p_iconst 91 c129_90 rfl ?_
      refine p_isub 92 c129_91 rfl ?_
      refine p_iconst 93 c129_92 rfl ?_
      refine p_iaS 94 c129_93 rfl ka378 (rg_wr _) 2 (nar0 (rgD rfl)) (fun hx4778 => ?_)
      have hR4779 := hR4777.up 378 (wr ((m4776 376 10) - 1)).toNat (v := 2) (nselA (by decide)) (rgD rfl)
      refine p_aload 95 c129_94 rfl rfl ?_
      refine p_getR 98 c129_95 rfl kf376_12 ?_
      refine p_aload 99 c129_98 rfl rfl ?_
      refine p_getX 102 (m4776 376 10) c129_99 rfl kf376_10 (yup_na (by decide)) ?_
      refine p_iconst 103 c129_102 rfl ?_
      refine p_isub 104 c129_103 rfl ?_
      refine p_iload 105 c129_104 rfl rfl ?_
      refine p_iaS 106 c129_105 rfl ka379 (rg_wr _) r4766 (nar0 hg4765) (fun hx4780 => ?_)
      have hR4781 := hR4779.up 379 (wr ((m4776 376 10) - 1)).toNat (v := r4766) (nselA (by decide)) hg4765
      refine p_aload 107 c129_106 rfl rfl ?_
      refine p_iconst 109 c129_107 rfl ?_
      refine p_cS 112 [.ref 376, yI 123] [] c129_109 rfl rfl rfl (fun k' hk' d' => d118 (f := f) (by omega) (rgD rfl) hR4781) (fun r4786 m4788 hF4784 hg4785 hR4789 n4783 k4782 hk4782 => ?_)
      have hX4787 := hX4775.trans (bI_s hF4784)
      refine p_if 116 115 c129_112 rfl rfl (yz_ne hg4785) (fun hb4790 k4791 hk4791 => ?_) (fun hb4790 k4792 hk4792 => ?_)
      · have hX4793 := hX4787.trans (if_neg hb4790)
        refine p_goto 134 c129_116 rfl ?_
        exact p_return c129_134 (Hr _ hX4793 hR4789 _)
      · have hX4794 := hX4787.trans (if_pos (Classical.not_not.mp hb4790))
        exact p_return c129_115 (Hr _ hX4794 hR4789 _)
def F129 (f : Nat) (m : yM) : Option yM := (bU (F99 f m) (fun m4714 => (if m4714 378 (wr ((m4714 376 10) - 1)).toNat = 3 then (bI (F127 f 11 0 (m4714 379 (wr ((m4714 376 10) - 1)).toNat) 0 m4714) (fun r4800 m4802 => (J129_41 f (m4714 379 (wr ((m4714 376 10) - 1)).toNat) m4802))) else (J129_41 f (m4714 379 (wr ((m4714 376 10) - 1)).toNat) m4714))))
set_option maxRecDepth 100000 in
theorem d129 {L : Nat} {xs : Nat → Int32} {k d n : Nat} {c : yS3} {f : Nat} {m : yM} (hk : k ≤ f) (hR : RM c m) : PC (gZ L xs) k d 129 [.ref 376] m n (qV c (F129 f m)) := by
  have hX : F129 f m = F129 f m := rfl
  have Hr : ∀ m', F129 f m = some m' → RM c m' → ∀ n' : Nat, (qV c (F129 f m)) (.inl none) m' n' := fun m' e h n' => ⟨rfl, h, e⟩
  refine PC.mk [some (.ref 376), none, none] kn129 rfl ?_
  refine p_aload 1 c129_0 rfl rfl ?_
  refine p_cV 4 [.ref 376] [] c129_1 rfl rfl rfl (fun k' hk' d' => d99 (f := f) (by omega) hR) (fun m4714 hF4710 hR4715 n4709 k4708 hk4708 => ?_)
  have hX4713 := hX.trans (bU_s hF4710)
  refine p_aload 5 c129_4 rfl rfl ?_
  refine p_getR 8 c129_5 rfl kf376_12 ?_
  refine p_aload 9 c129_8 rfl rfl ?_
  refine p_getX 12 (m4714 376 10) c129_9 rfl kf376_10 rfl ?_
  refine p_iconst 13 c129_12 rfl ?_
  refine p_isub 14 c129_13 rfl ?_
  refine p_iaX 15 (m4714 379 (wr ((m4714 376 10) - 1)).toNat) c129_14 rfl ka379 (rg_wr _) rfl (fun hx4716 => ?_)
  refine p_istore 16 c129_15 rfl rfl ?_
  refine p_aload 17 c129_16 rfl rfl ?_
  refine p_getR 20 c129_17 rfl kf376_11 ?_
  refine p_aload 21 c129_20 rfl rfl ?_
  refine p_getX 24 (m4714 376 10) c129_21 rfl kf376_10 rfl ?_
  refine p_iconst 25 c129_24 rfl ?_
  refine p_isub 26 c129_25 rfl ?_
  refine p_iaX 27 (m4714 378 (wr ((m4714 376 10) - 1)).toNat) c129_26 rfl ka378 (rg_wr _) rfl (fun hx4717 => ?_)
  refine p_iconst 28 c129_27 rfl ?_
  refine p_icmp 41 31 c129_28 rfl rfl (yc_ne (hR4715.rg _ _) (rgD rfl)) (fun hb4718 k4719 hk4719 => ?_) (fun hb4718 k4720 hk4720 => ?_)
  · have hX4721 := hX4713.trans (if_neg hb4718)
    exact tJ129_41 (f := f) (by omega) (hR4715.rg _ _) hR4715 (fun m' e' => Hr m' (hX4721.trans e'))
  · have hX4795 := hX4713.trans (if_pos (Classical.not_not.mp hb4718))
    refine p_aload 32 c129_31 rfl rfl ?_
    refine p_iconst 34 c129_32 rfl ?_
    refine p_iconst 35 c129_34 rfl ?_
    refine p_iload 36 c129_35 rfl rfl ?_
    refine p_iconst 37 c129_36 rfl ?_
    refine p_cS 40 [.ref 376, yI 11, yI 0, yI (m4714 379 (wr ((m4714 376 10) - 1)).toNat), yI 0] [] c129_37 rfl rfl rfl (fun k' hk' d' => d127 (f := f) (by omega) (rgD rfl) (rgD rfl) (hR4715.rg _ _) (rgD rfl) hR4715) (fun r4800 m4802 hF4798 hg4799 hR4803 n4797 k4796 hk4796 => ?_)
    have hX4801 := hX4795.trans (bI_s hF4798)
    refine p_istore 41 c129_40 rfl rfl ?_
    exact tJ129_41 (f := f) (by omega) (hR4715.rg _ _) hR4803 (fun m' e' => Hr m' (hX4801.trans e'))
def J139_94 (f : Nat) (m : yM) : Option ((Unit × yM) ⊕ ((Unit × yM) ⊕ (Unit × yM))) := (bU (F104 f m) (fun m3834 => (some (.inl ((), m3834)))))
set_option maxRecDepth 100000 in
theorem tJ139_94 {L : Nat} {xs : Nat → Int32} {Q : xO → yM → Nat → Prop} {k d n : Nat} {c : yS3} {f : Nat} {m : yM} {j1 : Option Value} (hk : k ≤ f) (hR : RM c m) (Hn : ∀ (z0 : Option Value) (m' : yM) (n' : Nat), J139_94 f m = some (.inl ((), m')) → RM c m' → ∀ k', k' < k → PW (gZ L xs) k' 139 d 5 [some (.ref 376), z0] [] m' n' Q) (He : ∀ (z0 : Option Value) (m' : yM) (n' : Nat), J139_94 f m = some (.inr (.inl ((), m'))) → RM c m' → ∀ k', k' ≤ k → PW (gZ L xs) k' 139 d 139 [some (.ref 376), z0] [] m' n' Q) (Hr : ∀ m', J139_94 f m = some (.inr (.inr ((), m'))) → RM c m' → ∀ n', Q (.inl none) m' n') : PW (gZ L xs) k 139 d 94 [some (.ref 376), j1] [] m n Q := by
  have hX : J139_94 f m = J139_94 f m := rfl
  refine p_aload 95 c139_94 rfl rfl ?_
  refine p_cV 98 [.ref 376] [] c139_95 rfl rfl rfl (fun k' hk' d' => d104 (f := f) (by omega) hR) (fun m3834 hF3830 hR3835 n3829 k3828 hk3828 => ?_)
  have hX3833 := hX.trans (bU_s hF3830)
  refine p_gotoD 5 c139_98 rfl (fun k3836 hk3836 => ?_)
  exact Hn _ _ _ hX3833 hR3835 _ (by omega)
def J139_125 (f : Nat) (m : yM) : Option ((Unit × yM) ⊕ ((Unit × yM) ⊕ (Unit × yM))) := (bU (F131 f m) (fun m4050 => (some (.inl ((), m4050)))))
set_option maxRecDepth 100000 in
theorem tJ139_125 {L : Nat} {xs : Nat → Int32} {Q : xO → yM → Nat → Prop} {k d n : Nat} {c : yS3} {f : Nat} {m : yM} {j1 : Option Value} (hk : k ≤ f) (hR : RM c m) (Hn : ∀ (z0 : Option Value) (m' : yM) (n' : Nat), J139_125 f m = some (.inl ((), m')) → RM c m' → ∀ k', k' < k → PW (gZ L xs) k' 139 d 5 [some (.ref 376), z0] [] m' n' Q) (He : ∀ (z0 : Option Value) (m' : yM) (n' : Nat), J139_125 f m = some (.inr (.inl ((), m'))) → RM c m' → ∀ k', k' ≤ k → PW (gZ L xs) k' 139 d 139 [some (.ref 376), z0] [] m' n' Q) (Hr : ∀ m', J139_125 f m = some (.inr (.inr ((), m'))) → RM c m' → ∀ n', Q (.inl none) m' n') : PW (gZ L xs) k 139 d 125 [some (.ref 376), j1] [] m n Q := by
  have hX : J139_125 f m = J139_125 f m := rfl
  refine p_aload 126 c139_125 rfl rfl ?_
  refine p_cV 129 [.ref 376] [] c139_126 rfl rfl rfl (fun k' hk' d' => d131 (f := f) (by omega) hR) (fun m4050 hF4046 hR4051 n3854 k3853 hk3853 => ?_)
  have hX4049 := hX.trans (bU_s hF4046)
  refine p_gotoD 5 c139_129 rfl (fun k4052 hk4052 => ?_)
  exact Hn _ _ _ hX4049 hR4051 _ (by omega)
def J139_101 (f : Nat) (m : yM) : Option ((Unit × yM) ⊕ ((Unit × yM) ⊕ (Unit × yM))) := (if F110 (yup m 376 9 (wr ((m 376 9) + 1))) = 0 then (if F112 (yup m 376 9 (wr ((m 376 9) + 1))) = 0 then (bU (F138 f (yup m 376 9 (wr ((m 376 9) + 1)))) (fun m4664 => (some (.inl ((), m4664))))) else (J139_125 f (yup m 376 9 (wr ((m 376 9) + 1))))) else (J139_125 f (yup m 376 9 (wr ((m 376 9) + 1)))))
set_option maxRecDepth 100000 in
theorem tJ139_101 {L : Nat} {xs : Nat → Int32} {Q : xO → yM → Nat → Prop} {k d n : Nat} {c : yS3} {f : Nat} {m : yM} {j1 : Option Value} (hk : k ≤ f) (hR : RM c m) (Hn : ∀ (z0 : Option Value) (m' : yM) (n' : Nat), J139_101 f m = some (.inl ((), m')) → RM c m' → ∀ k', k' < k → PW (gZ L xs) k' 139 d 5 [some (.ref 376), z0] [] m' n' Q) (He : ∀ (z0 : Option Value) (m' : yM) (n' : Nat), J139_101 f m = some (.inr (.inl ((), m'))) → RM c m' → ∀ k', k' ≤ k → PW (gZ L xs) k' 139 d 139 [some (.ref 376), z0] [] m' n' Q) (Hr : ∀ m', J139_101 f m = some (.inr (.inr ((), m'))) → RM c m' → ∀ n', Q (.inl none) m' n') : PW (gZ L xs) k 139 d 101 [some (.ref 376), j1] [] m n Q := by
  have hX : J139_101 f m = J139_101 f m := rfl
  refine p_aload 102 c139_101 rfl rfl ?_
  refine p_dup 103 c139_102 rfl rfl ?_
  refine p_getX 106 (m 376 9) c139_103 rfl kf376_9 rfl ?_
  refine p_iconst 107 c139_106 rfl ?_
  refine p_iadd 108 c139_107 rfl ?_
  refine p_putI 111 c139_108 rfl kf376_9 ?_
  have hR3845 := hR.up 376 9 (v := wr ((m 376 9) + 1)) (nselD rfl) (rg_wr _)
  refine p_aload 112 c139_111 rfl rfl ?_
  refine p_cX 115 [.ref 376] [] c139_112 rfl rfl rfl (fun k' hk' d' => d110 hR3845) (fun hg3848 n3847 k3846 hk3846 => ?_)
  refine p_if 125 118 c139_115 rfl rfl (yz_ne hg3848) (fun hb3849 k3850 hk3850 => ?_) (fun hb3849 k3851 hk3851 => ?_)
  · have hX3852 := hX.trans (if_neg hb3849)
    exact tJ139_125 (f := f) (by omega) hR3845 (fun y0 m' n' e'  hR' k' hk' => Hn y0 m' n' (hX3852.trans e')  hR' k' (by omega)) (fun y0 m' n' e'  hR' k' hk' => He y0 m' n' (hX3852.trans e')  hR' k' (by omega)) (fun m' e' => Hr m' (hX3852.trans e'))
  · have hX4053 := hX.trans (if_pos (Classical.not_not.mp hb3849))
    refine p_aload 119 c139_118 rfl rfl ?_
    refine p_cX 122 [.ref 376] [] c139_119 rfl rfl rfl (fun k' hk' d' => d112 hR3845) (fun hg4056 n4055 k4054 hk4054 => ?_)
    refine p_if 132 125 c139_122 rfl rfl (yz_eq hg4056) (fun hb4057 k4058 hk4058 => ?_) (fun hb4057 k4059 hk4059 => ?_)
    · have hX4060 := hX4053.trans (if_pos hb4057)
      refine p_aload 133 c139_132 rfl rfl ?_
      refine p_cV 136 [.ref 376] [] c139_133 rfl rfl rfl (fun k' hk' d' => d138 (f := f) (by omega) hR3845) (fun m4664 hF4660 hR4665 n4062 k4061 hk4061 => ?_)
      have hX4663 := hX4060.trans (bU_s hF4660)
      refine p_gotoD 5 c139_136 rfl (fun k4666 hk4666 => ?_)
      exact Hn _ _ _ hX4663 hR4665 _ (by omega)
    · have hX4667 := hX4053.trans (if_neg hb4057)
      exact tJ139_125 (f := f) (by omega) hR3845 (fun y0 m' n' e'  hR' k' hk' => Hn y0 m' n' (hX4667.trans e')  hR' k' (by omega)) (fun y0 m' n' e'  hR' k' hk' => He y0 m' n' (hX4667.trans e')  hR' k' (by omega)) (fun m' e' => Hr m' (hX4667.trans e'))
def B139_5 (f : Nat) (m : yM) : Option ((Unit × yM) ⊕ ((Unit × yM) ⊕ (Unit × yM))) := (if m 376 8 < 0 then (if F117 125 m = 0 then (if m 376 9 = 40 then (J139_94 f m) else (if F115 m = 0 then (if F114 m = 0 then (if F110 m = 0 then (if F112 m = 0 then (if F113 m = 0 then (J139_94 f m) else (J139_101 f m)) else (J139_101 f m)) else (J139_101 f m)) else (J139_101 f m)) else (J139_101 f m))) else (if m 376 10 = 0 then (bU (F99 f m) (fun m4818 => (bI (F127 f 12 0 0 0 m4818) (fun r4824 m4826 => (some (.inr (.inr ((), m4826)))))))) else (bU (F129 f m) (fun m4808 => (some (.inl ((), m4808))))))) else (some (.inr (.inl ((), m)))))
set_option maxRecDepth 100000 in
theorem tB139_5 {L : Nat} {xs : Nat → Int32} {Q : xO → yM → Nat → Prop} {k d n : Nat} {c : yS3} {f : Nat} {m : yM} {j1 : Option Value} (hk : k ≤ f) (hR : RM c m) (Hn : ∀ (z0 : Option Value) (m' : yM) (n' : Nat), B139_5 f m = some (.inl ((), m')) → RM c m' → ∀ k', k' < k → PW (gZ L xs) k' 139 d 5 [some (.ref 376), z0] [] m' n' Q) (He : ∀ (z0 : Option Value) (m' : yM) (n' : Nat), B139_5 f m = some (.inr (.inl ((), m'))) → RM c m' → ∀ k', k' ≤ k → PW (gZ L xs) k' 139 d 139 [some (.ref 376), z0] [] m' n' Q) (Hr : ∀ m', B139_5 f m = some (.inr (.inr ((), m'))) → RM c m' → ∀ n', Q (.inl none) m' n') : PW (gZ L xs) k 139 d 5 [some (.ref 376), j1] [] m n Q := by
  have hX : B139_5 f m = B139_5 f m := rfl
  refine p_aload 6 c139_5 rfl rfl ?_
  refine p_getX 9 (m 376 8) c139_6 rfl kf376_8 rfl ?_
  refine p_if 139 12 c139_9 rfl rfl ((yz_ge (hR.rg _ _)).trans Int.not_lt.symm) (fun hb3812 k3813 hk3813 => ?_) (fun hb3812 k3814 hk3814 => ?_)
  · have hX3815 := hX.trans (if_neg hb3812)
    exact He _ _ _ hX3815 hR _ (by omega)
  · have hX3816 := hX.trans (if_pos (Classical.not_not.mp hb3812))
    refine p_aload 13 c139_12 rfl rfl ?_
    refine p_iconst 15 c139_13 rfl ?_
    refine p_cX 18 [.ref 376, yI 125] [] c139_15 rfl rfl rfl (fun k' hk' d' => d117 (rgD rfl) hR) (fun hg3819 n3818 k3817 hk3817 => ?_)
    refine p_if 50 21 c139_18 rfl rfl (yz_eq hg3819) (fun hb3820 k3821 hk3821 => ?_) (fun hb3820 k3822 hk3822 => ?_)
    · have hX3823 := hX3816.trans (if_pos hb3820)
      refine p_aload 51 c139_50 rfl rfl ?_
      refine p_getX 54 (m 376 9) c139_51 rfl kf376_9 rfl ?_
      refine p_iconst 56 c139_54 rfl ?_
      refine p_icmp 94 59 c139_56 rfl rfl (yc_eq (hR.rg _ _) (rgD rfl)) (fun hb3824 k3825 hk3825 => ?_) (fun hb3824 k3826 hk3826 => ?_)
      · have hX3827 := hX3823.trans (if_pos hb3824)
        exact tJ139_94 (f := f) (by omega) hR (fun y0 m' n' e'  hR' k' hk' => Hn y0 m' n' (hX3827.trans e')  hR' k' (by omega)) (fun y0 m' n' e'  hR' k' hk' => He y0 m' n' (hX3827.trans e')  hR' k' (by omega)) (fun m' e' => Hr m' (hX3827.trans e'))
      · have hX3837 := hX3823.trans (if_neg hb3824)
        refine p_aload 60 c139_59 rfl rfl ?_
        refine p_cX 63 [.ref 376] [] c139_60 rfl rfl rfl (fun k' hk' d' => d115 hR) (fun hg3840 n3839 k3838 hk3838 => ?_)
        refine p_if 101 66 c139_63 rfl rfl (yz_ne hg3840) (fun hb3841 k3842 hk3842 => ?_) (fun hb3841 k3843 hk3843 => ?_)
        · have hX3844 := hX3837.trans (if_neg hb3841)
          exact tJ139_101 (f := f) (by omega) hR (fun y0 m' n' e'  hR' k' hk' => Hn y0 m' n' (hX3844.trans e')  hR' k' (by omega)) (fun y0 m' n' e'  hR' k' hk' => He y0 m' n' (hX3844.trans e')  hR' k' (by omega)) (fun m' e' => Hr m' (hX3844.trans e'))
        · have hX4668 := hX3837.trans (if_pos (Classical.not_not.mp hb3841))
          refine p_aload 67 c139_66 rfl rfl ?_
          refine p_cX 70 [.ref 376] [] c139_67 rfl rfl rfl (fun k' hk' d' => d114 hR) (fun hg4671 n4670 k4669 hk4669 => ?_)
          refine p_if 101 73 c139_70 rfl rfl (yz_ne hg4671) (fun hb4672 k4673 hk4673 => ?_) (fun hb4672 k4674 hk4674 => ?_)
          · have hX4675 := hX4668.trans (if_neg hb4672)
            exact tJ139_101 (f := f) (by omega) hR (fun y0 m' n' e'  hR' k' hk' => Hn y0 m' n' (hX4675.trans e')  hR' k' (by omega)) (fun y0 m' n' e'  hR' k' hk' => He y0 m' n' (hX4675.trans e')  hR' k' (by omega)) (fun m' e' => Hr m' (hX4675.trans e'))
          · have hX4676 := hX4668.trans (if_pos (Classical.not_not.mp hb4672))
            refine p_aload 74 c139_73 rfl rfl ?_
            refine p_cX 77 [.ref 376] [] c139_74 rfl rfl rfl (fun k' hk' d' => d110 hR) (fun hg4679 n4678 k4677 hk4677 => ?_)
            refine p_if 101 80 c139_77 rfl rfl (yz_ne hg4679) (fun hb4680 k4681 hk4681 => ?_) (fun hb4680 k4682 hk4682 => ?_)
            · have hX4683 := hX4676.trans (if_neg hb4680)
              exact tJ139_101 (f := f) (by omega) hR (fun y0 m' n' e'  hR' k' hk' => Hn y0 m' n' (hX4683.trans e')  hR' k' (by omega)) (fun y0 m' n' e'  hR' k' hk' => He y0 m' n' (hX4683.trans e')  hR' k' (by omega)) (fun m' e' => Hr m' (hX4683.trans e'))
            · have hX4684 := hX4676.trans (if_pos (Classical.not_not.mp hb4680))
              refine p_aload 81 c139_80 rfl rfl ?_
              refine p_cX 84 [.ref 376] [] c139_81 rfl rfl rfl (fun k' hk' d' => d112 hR) (fun hg4687 n4686 k4685 hk4685 => ?_)
              refine p_if 101 87 c139_84 rfl rfl (yz_ne hg4687) (fun hb4688 k4689 hk4689 => ?_) (fun hb4688 k4690 hk4690 => ?_)
              · have hX4691 := hX4684.trans (if_neg hb4688)
                exact tJ139_101 (f := f) (by omega) hR (fun y0 m' n' e'  hR' k' hk' => Hn y0 m' n' (hX4691.trans e')  hR' k' (by omega)) (fun y0 m' n' e'  hR' k' hk' => He y0 m' n' (hX4691.trans e')  hR' k' (by omega)) (fun m' e' => Hr m' (hX4691.trans e'))
              · have hX4692 := hX4684.trans (if_pos (Classical.not_not.mp hb4688))
                refine p_aload 88 c139_87 rfl rfl ?_
                refine p_cX 91 [.ref 376] [] c139_88 rfl rfl rfl (fun k' hk' d' => d113 hR) (fun hg4695 n4694 k4693 hk4693 => ?_)
                refine p_if 101 94 c139_91 rfl rfl (yz_ne hg4695) (fun hb4696 k4697 hk4697 => ?_) (fun hb4696 k4698 hk4698 => ?_)
                · have hX4699 := hX4692.trans (if_neg hb4696)
                  exact tJ139_101 (f := f) (by omega) hR (fun y0 m' n' e'  hR' k' hk' => Hn y0 m' n' (hX4699.trans e')  hR' k' (by omega)) (fun y0 m' n' e'  hR' k' hk' => He y0 m' n' (hX4699.trans e')  hR' k' (by omega)) (fun m' e' => Hr m' (hX4699.trans e'))
                · have hX4700 := hX4692.trans (if_pos (Classical.not_not.mp hb4696))
                  exact tJ139_94 (f := f) (by omega) hR (fun y0 m' n' e'  hR' k' hk' => Hn y0 m' n' (hX4700.trans e')  hR' k' (by omega)) (fun y0 m' n' e'  hR' k' hk' => He y0 m' n' (hX4700.trans e')  hR' k' (by omega)) (fun m' e' => Hr m' (hX4700.trans e'))
    · have hX4701 := hX3816.trans (if_neg hb3820)
      refine p_aload 22 c139_21 rfl rfl ?_
      refine p_getX 25 (m 376 10) c139_22 rfl kf376_10 rfl ?_
      refine p_if 43 28 c139_25 rfl rfl (yz_ne (hR.rg _ _)) (fun hb4702 k4703 hk4703 => ?_) (fun hb4702 k4704 hk4704 => ?_)
      · have hX4705 := hX4701.trans (if_neg hb4702)
        refine p_aload 44 c139_43 rfl rfl ?_
        refine p_cV 47 [.ref 376] [] c139_44 rfl rfl rfl (fun k' hk' d' => d129 (f := f) (by omega) hR) (fun m4808 hF4804 hR4809 n4707 k4706 hk4706 => ?_)
        have hX4807 := hX4705.trans (bU_s hF4804)
        refine p_gotoD 5 c139_47 rfl (fun k4810 hk4810 => ?_)
        exact Hn _ _ _ hX4807 hR4809 _ (by omega)
      · have hX4811 := hX4701.trans (if_pos (Classical.not_not.mp hb4702))
        refine p_aload 29 c139_28 rfl rfl ?_
        refine p_cV 32 [.ref 376] [] c139_29 rfl rfl rfl (fun k' hk' d' => d99 (f := f) (by omega) hR) (fun m4818 hF4814 hR4819 n4813 k4812 hk4812 => ?_)
        have hX4817 := hX4811.trans (bU_s hF4814)
        refine p_aload 33 c139_32 rfl rfl ?_
        refine p_iconst 35 c139_33 rfl ?_
        refine p_iconst 36 c139_35 rfl ?_
        refine p_iconst 37 c139_36 rfl ?_
        refine p_iconst 38 c139_37 rfl ?_
        refine p_cS 41 [.ref 376, yI 12, yI 0, yI 0, yI 0] [] c139_38 rfl rfl rfl (fun k' hk' d' => d127 (f := f) (by omega) (rgD rfl) (rgD rfl) (rgD rfl) (rgD rfl) hR4819) (fun r4824 m4826 hF4822 hg4823 hR4827 n4821 k4820 hk4820 => ?_)
        have hX4825 := hX4817.trans (bI_s hF4822)
        refine p_istore 42 c139_41 rfl rfl ?_
        exact p_return c139_42 (Hr _ hX4825 hR4827 _)
def F139 (f : Nat) (m : yM) : Option yM := (bL (yloop (fun (l : Unit) ml => B139_5 f ml) f () (yup m 376 10 0)) (fun _ m4834 => (some m4834)) (fun _ mr => some mr))
set_option maxRecDepth 100000 in
theorem d139 {L : Nat} {xs : Nat → Int32} {k d n : Nat} {c : yS3} {f : Nat} {m : yM} (hk : k ≤ f) (hR : RM c m) : PC (gZ L xs) k d 139 [.ref 376] m n (qV c (F139 f m)) := by
  have hX : F139 f m = F139 f m := rfl
  have Hr : ∀ m', F139 f m = some m' → RM c m' → ∀ n' : Nat, (qV c (F139 f m)) (.inl none) m' n' := fun m' e h n' => ⟨rfl, h, e⟩
  refine PC.mk [some (.ref 376), none] kn139 rfl ?_
  refine p_aload 1 c139_0 rfl rfl ?_
  refine p_iconst 2 c139_1 rfl ?_
  refine p_putI 5 c139_2 rfl kf376_10 ?_
  have hR3811 := hR.up 376 10 (v := 0) (nselD rfl) (rgD rfl)
  refine PW.loop (K := k) (pce := 139) (fun (l : Unit) ml => B139_5 f ml) (fun (l : Unit) j => [some (.ref 376), j 1]) (fun (l : Unit) => True) (RM c) (fun (r' : Unit) m' => RM c m' → ∀ n' : Nat, (qV c (F139 f m)) (.inl none) m' n') (fun k' hk' l j m' n' hl hI Hn' He' Hr' => tB139_5 (f := f) (by omega) hI (fun y0 m2 n2 e  hR2 => Hn' () (fun q => ([none, y0] : List (Option Value)).getD q none) m2 n2 e trivial hR2) (fun y0 m2 n2 e  hR2 => He' () (fun q => ([none, y0] : List (Option Value)).getD q none) m2 n2 e trivial hR2) (fun m2 e => Hr' () m2 e)) f k (by omega) (Nat.le_refl _) () (fun q => ([some (.ref 376), none] : xL).getD q none) _ _ trivial hR3811 (fun l4828 j4831 m4834 n4833 e4830 hl4829 hR4835 k4832 hk4832 => ?_) (fun r' m' e' => ?_)
  · have hX4836 := hX.trans (bL_l e4830)
    exact p_return c139_139 (Hr _ hX4836 hR4835 _)
  · exact Hr m' (hX.trans (bL_r e'))
