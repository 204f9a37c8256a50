/-! ROWS OF THE CELLS, and what goes with them -/
theorem kP_0 {A : Nat} (hA : A = 256 ∨ A = 316) : yfld gSh 414 A 0 6 = some (.inr (.inl (A + 1))) := by rcases hA with rfl | rfl <;> decide +kernel
theorem kP_1 {A : Nat} (hA : A = 256 ∨ A = 316) : yfld gSh 414 A 1 6 = some (.inr (.inl (A + 2))) := by rcases hA with rfl | rfl <;> decide +kernel
theorem kP_2 {A : Nat} (hA : A = 256 ∨ A = 316) : yfld gSh 414 A 2 6 = some (.inr (.inl (A + 3))) := by rcases hA with rfl | rfl <;> decide +kernel
theorem kP_3 {A : Nat} (hA : A = 256 ∨ A = 316) : yfld gSh 414 A 3 6 = some (.inr (.inl (A + 4))) := by rcases hA with rfl | rfl <;> decide +kernel
theorem kP_4 {A : Nat} (hA : A = 256 ∨ A = 316) : yfld gSh 414 A 4 6 = some (.inr (.inl (A + 5))) := by rcases hA with rfl | rfl <;> decide +kernel
theorem kP_5 {A : Nat} (hA : A = 256 ∨ A = 316) : yfld gSh 414 A 5 6 = some (.inr (.inl (A + 6))) := by rcases hA with rfl | rfl <;> decide +kernel
theorem kP_6 {A : Nat} (hA : A = 256 ∨ A = 316) : yfld gSh 414 A 6 6 = some (.inr (.inl (A + 7))) := by rcases hA with rfl | rfl <;> decide +kernel
theorem kP_7 {A : Nat} (hA : A = 256 ∨ A = 316) : yfld gSh 414 A 7 6 = some (.inr (.inl (A + 8))) := by rcases hA with rfl | rfl <;> decide +kernel
theorem kP_8 {A : Nat} (hA : A = 256 ∨ A = 316) : yfld gSh 414 A 8 6 = some (.inr (.inl (A + 9))) := by rcases hA with rfl | rfl <;> decide +kernel
theorem kP_9 {A : Nat} (hA : A = 256 ∨ A = 316) : yfld gSh 414 A 9 6 = some (.inl 0) := by rcases hA with rfl | rfl <;> decide +kernel
theorem kP_10 {A : Nat} (hA : A = 256 ∨ A = 316) : yfld gSh 414 A 10 6 = some (.inl 0) := by rcases hA with rfl | rfl <;> decide +kernel
theorem kP_11 {A : Nat} (hA : A = 256 ∨ A = 316) : yfld gSh 414 A 11 6 = some (.inl 0) := by rcases hA with rfl | rfl <;> decide +kernel
theorem kP_12 {A : Nat} (hA : A = 256 ∨ A = 316) : yfld gSh 414 A 12 6 = some (.inl 0) := by rcases hA with rfl | rfl <;> decide +kernel
theorem kP_13 {A : Nat} (hA : A = 256 ∨ A = 316) : yfld gSh 414 A 13 6 = some (.inl 0) := by rcases hA with rfl | rfl <;> decide +kernel
theorem kP_14 {A : Nat} (hA : A = 256 ∨ A = 316) : yfld gSh 414 A 14 6 = some (.inl 0) := by rcases hA with rfl | rfl <;> decide +kernel
theorem kP_15 {A : Nat} (hA : A = 256 ∨ A = 316) : yfld gSh 414 A 15 6 = some (.inl 0) := by rcases hA with rfl | rfl <;> decide +kernel
theorem kP_16 {A : Nat} (hA : A = 256 ∨ A = 316) : yfld gSh 414 A 16 6 = some (.inl 0) := by rcases hA with rfl | rfl <;> decide +kernel
theorem kP_17 {A : Nat} (hA : A = 256 ∨ A = 316) : yfld gSh 414 A 17 6 = some (.inl 0) := by rcases hA with rfl | rfl <;> decide +kernel
theorem kPa_1 {A : Nat} (hA : A = 256 ∨ A = 316) : yarr gSh 414 (A + 1) = some (0, 6) := by rcases hA with rfl | rfl <;> decide +kernel
theorem kPa_2 {A : Nat} (hA : A = 256 ∨ A = 316) : yarr gSh 414 (A + 2) = some (0, 6) := by rcases hA with rfl | rfl <;> decide +kernel
theorem kPa_3 {A : Nat} (hA : A = 256 ∨ A = 316) : yarr gSh 414 (A + 3) = some (0, 6) := by rcases hA with rfl | rfl <;> decide +kernel
theorem kPa_4 {A : Nat} (hA : A = 256 ∨ A = 316) : yarr gSh 414 (A + 4) = some (0, 8) := by rcases hA with rfl | rfl <;> decide +kernel
theorem kPa_5 {A : Nat} (hA : A = 256 ∨ A = 316) : yarr gSh 414 (A + 5) = some (0, 48) := by rcases hA with rfl | rfl <;> decide +kernel
theorem kPa_8 {A : Nat} (hA : A = 256 ∨ A = 316) : yarr gSh 414 (A + 8) = some (0, 12) := by rcases hA with rfl | rfl <;> decide +kernel
theorem kPa_9 {A : Nat} (hA : A = 256 ∨ A = 316) : yarr gSh 414 (A + 9) = some (0, 8) := by rcases hA with rfl | rfl <;> decide +kernel
theorem kPr_6 {A : Nat} (hA : A = 256 ∨ A = 316) : yrow gSh 414 (A + 6) = some (10, A + 10) := by rcases hA with rfl | rfl <;> decide +kernel
theorem kPr_7 {A : Nat} (hA : A = 256 ∨ A = 316) : yrow gSh 414 (A + 7) = some (40, A + 20) := by rcases hA with rfl | rfl <;> decide +kernel
theorem kS_all : ((List.range 376).all (fun a => !(decide ((276 ≤ a ∧ a < 316) ∨ (336 ≤ a ∧ a < 376))) || (List.range 13).all (fun q => decide (yfld gSh 414 a q 5 = some (.inl 0))))) = true := by decide +kernel
theorem kM_all : ((List.range 376).all (fun a => !(decide ((266 ≤ a ∧ a < 276) ∨ (326 ≤ a ∧ a < 336))) || (List.range 6).all (fun q => decide (yfld gSh 414 a q 4 = some (.inl 0))))) = true := by decide +kernel
theorem kS_q {a q : Nat} (h : (276 ≤ a ∧ a < 316) ∨ (336 ≤ a ∧ a < 376)) (hq : q < 13) : yfld gSh 414 a q 5 = some (.inl 0) := by
  have h1 := List.all_eq_true.mp kS_all a (List.mem_range.mpr (by omega))
  rw [Bool.or_eq_true] at h1
  rcases h1 with h1 | h1
  · rw [Bool.not_eq_true', decide_eq_false_iff_not] at h1
    exact absurd h h1
  · exact of_decide_eq_true (List.all_eq_true.mp h1 q (List.mem_range.mpr hq))
theorem kM_q {a q : Nat} (h : (266 ≤ a ∧ a < 276) ∨ (326 ≤ a ∧ a < 336)) (hq : q < 6) : yfld gSh 414 a q 4 = some (.inl 0) := by
  have h1 := List.all_eq_true.mp kM_all a (List.mem_range.mpr (by omega))
  rw [Bool.or_eq_true] at h1
  rcases h1 with h1 | h1
  · rw [Bool.not_eq_true', decide_eq_false_iff_not] at h1
    exact absurd h h1
  · exact of_decide_eq_true (List.all_eq_true.mp h1 q (List.mem_range.mpr hq))
theorem kS_0 {a : Nat} (h : (276 ≤ a ∧ a < 316) ∨ (336 ≤ a ∧ a < 376)) : yfld gSh 414 a 0 5 = some (.inl 0) := kS_q h (by decide)
theorem kS_1 {a : Nat} (h : (276 ≤ a ∧ a < 316) ∨ (336 ≤ a ∧ a < 376)) : yfld gSh 414 a 1 5 = some (.inl 0) := kS_q h (by decide)
theorem kS_2 {a : Nat} (h : (276 ≤ a ∧ a < 316) ∨ (336 ≤ a ∧ a < 376)) : yfld gSh 414 a 2 5 = some (.inl 0) := kS_q h (by decide)
theorem kS_3 {a : Nat} (h : (276 ≤ a ∧ a < 316) ∨ (336 ≤ a ∧ a < 376)) : yfld gSh 414 a 3 5 = some (.inl 0) := kS_q h (by decide)
theorem kS_4 {a : Nat} (h : (276 ≤ a ∧ a < 316) ∨ (336 ≤ a ∧ a < 376)) : yfld gSh 414 a 4 5 = some (.inl 0) := kS_q h (by decide)
theorem kS_5 {a : Nat} (h : (276 ≤ a ∧ a < 316) ∨ (336 ≤ a ∧ a < 376)) : yfld gSh 414 a 5 5 = some (.inl 0) := kS_q h (by decide)
theorem kS_6 {a : Nat} (h : (276 ≤ a ∧ a < 316) ∨ (336 ≤ a ∧ a < 376)) : yfld gSh 414 a 6 5 = some (.inl 0) := kS_q h (by decide)
theorem kS_7 {a : Nat} (h : (276 ≤ a ∧ a < 316) ∨ (336 ≤ a ∧ a < 376)) : yfld gSh 414 a 7 5 = some (.inl 0) := kS_q h (by decide)
theorem kS_8 {a : Nat} (h : (276 ≤ a ∧ a < 316) ∨ (336 ≤ a ∧ a < 376)) : yfld gSh 414 a 8 5 = some (.inl 0) := kS_q h (by decide)
theorem kS_9 {a : Nat} (h : (276 ≤ a ∧ a < 316) ∨ (336 ≤ a ∧ a < 376)) : yfld gSh 414 a 9 5 = some (.inl 0) := kS_q h (by decide)
theorem kS_10 {a : Nat} (h : (276 ≤ a ∧ a < 316) ∨ (336 ≤ a ∧ a < 376)) : yfld gSh 414 a 10 5 = some (.inl 0) := kS_q h (by decide)
theorem kS_11 {a : Nat} (h : (276 ≤ a ∧ a < 316) ∨ (336 ≤ a ∧ a < 376)) : yfld gSh 414 a 11 5 = some (.inl 0) := kS_q h (by decide)
theorem kS_12 {a : Nat} (h : (276 ≤ a ∧ a < 316) ∨ (336 ≤ a ∧ a < 376)) : yfld gSh 414 a 12 5 = some (.inl 0) := kS_q h (by decide)
theorem kM_0 {a : Nat} (h : (266 ≤ a ∧ a < 276) ∨ (326 ≤ a ∧ a < 336)) : yfld gSh 414 a 0 4 = some (.inl 0) := kM_q h (by decide)
theorem kM_1 {a : Nat} (h : (266 ≤ a ∧ a < 276) ∨ (326 ≤ a ∧ a < 336)) : yfld gSh 414 a 1 4 = some (.inl 0) := kM_q h (by decide)
theorem kM_2 {a : Nat} (h : (266 ≤ a ∧ a < 276) ∨ (326 ≤ a ∧ a < 336)) : yfld gSh 414 a 2 4 = some (.inl 0) := kM_q h (by decide)
theorem kM_3 {a : Nat} (h : (266 ≤ a ∧ a < 276) ∨ (326 ≤ a ∧ a < 336)) : yfld gSh 414 a 3 4 = some (.inl 0) := kM_q h (by decide)
theorem kM_4 {a : Nat} (h : (266 ≤ a ∧ a < 276) ∨ (326 ≤ a ∧ a < 336)) : yfld gSh 414 a 4 4 = some (.inl 0) := kM_q h (by decide)
theorem kM_5 {a : Nat} (h : (266 ≤ a ∧ a < 276) ∨ (326 ≤ a ∧ a < 336)) : yfld gSh 414 a 5 4 = some (.inl 0) := kM_q h (by decide)
theorem kMr {A : Nat} {x : Int} (hA : A = 256 ∨ A = 316) (hx : 0 ≤ x ∧ x < 10) : (266 ≤ A + 10 + x.toNat ∧ A + 10 + x.toNat < 276) ∨ (326 ≤ A + 10 + x.toNat ∧ A + 10 + x.toNat < 336) := by omega
theorem kSr {A : Nat} {x : Int} (hA : A = 256 ∨ A = 316) (hx : 0 ≤ x ∧ x < 40) : (276 ≤ A + 20 + x.toNat ∧ A + 20 + x.toNat < 316) ∨ (336 ≤ A + 20 + x.toNat ∧ A + 20 + x.toNat < 376) := by omega
theorem kR9_all : ((List.range 48).all (fun a => decide (yarr gSh 414 (10 + a) = some (0, 12)))) = true := by decide +kernel
theorem kR9 {x : Int} (hx : 0 ≤ x ∧ x < 48) : yarr gSh 414 (10 + x.toNat) = some (0, 12) := of_decide_eq_true (List.all_eq_true.mp kR9_all x.toNat (List.mem_range.mpr (by omega)))
theorem kR58_all : ((List.range 12).all (fun a => decide (yarr gSh 414 (59 + a) = some (0, 10)))) = true := by decide +kernel
theorem kR58 {x : Int} (hx : 0 ≤ x ∧ x < 12) : yarr gSh 414 (59 + x.toNat) = some (0, 10) := of_decide_eq_true (List.all_eq_true.mp kR58_all x.toNat (List.mem_range.mpr (by omega)))
theorem kR72_all : ((List.range 96).all (fun a => decide (yarr gSh 414 (73 + a) = some (0, 12)))) = true := by decide +kernel
theorem kR72 {x : Int} (hx : 0 ≤ x ∧ x < 96) : yarr gSh 414 (73 + x.toNat) = some (0, 12) := of_decide_eq_true (List.all_eq_true.mp kR72_all x.toNat (List.mem_range.mpr (by omega)))
theorem kR170_all : ((List.range 48).all (fun a => decide (yarr gSh 414 (171 + a) = some (0, 12)))) = true := by decide +kernel
theorem kR170 {x : Int} (hx : 0 ≤ x ∧ x < 48) : yarr gSh 414 (171 + x.toNat) = some (0, 12) := of_decide_eq_true (List.all_eq_true.mp kR170_all x.toNat (List.mem_range.mpr (by omega)))
theorem kR220_all : ((List.range 30).all (fun a => decide (yarr gSh 414 (221 + a) = some (0, 8)))) = true := by decide +kernel
theorem kR220 {x : Int} (hx : 0 ≤ x ∧ x < 30) : yarr gSh 414 (221 + x.toNat) = some (0, 8) := of_decide_eq_true (List.all_eq_true.mp kR220_all x.toNat (List.mem_range.mpr (by omega)))
theorem kR251_all : ((List.range 4).all (fun a => decide (yarr gSh 414 (252 + a) = some (0, 48)))) = true := by decide +kernel
theorem kR251 {x : Int} (hx : 0 ≤ x ∧ x < 4) : yarr gSh 414 (252 + x.toNat) = some (0, 48) := of_decide_eq_true (List.all_eq_true.mp kR251_all x.toNat (List.mem_range.mpr (by omega)))
theorem t7X {L : Nat} {xs : Nat → Int32} {d nn : Nat} {m : yM} {x y : Int} : YC (gZ L xs) d 7 [yI x, yI y] m nn (qP m nn (fun r => r = x * 32 + (y - 97 + 1))) := by
  refine YC.mkB [some (yI x), some (yI y)] kn7 rfl rfl ?_
  refine y_iload 1 c7_0 rfl rfl ?_
  refine y_iconst 3 c7_1 rfl ?_
  refine y_imul 4 c7_3 rfl ?_
  refine y_iload 5 c7_4 rfl rfl ?_
  refine y_iconst 7 c7_5 rfl ?_
  refine y_isub 8 c7_7 rfl ?_
  refine y_iconst 9 c7_8 rfl ?_
  refine y_iadd 10 c7_9 rfl ?_
  refine y_iadd 11 c7_10 rfl ?_
  exact y_retP c7_11 (y_fit0 _) rfl
set_option maxRecDepth 100000 in
theorem t8_goX {L : Nat} {xs : Nat → Int32} {d nn : Nat} {m : yM}  : YC (gZ L xs) (d + 5) 8 [.retAddr 21] m nn (qP m nn (fun r => r = 239)) := by
  refine YC.mkB [some (.retAddr 21), none, none] kn8 rfl rfl ?_
  refine y_iconst 1 c8_0 rfl ?_
  refine y_istore 2 c8_1 rfl rfl ?_
  refine y_iconst 3 c8_2 rfl ?_
  refine y_istore 4 c8_3 rfl rfl ?_
  refine y_iload 5 c8_4 rfl rfl ?_
  refine y_aload 6 c8_5 rfl rfl rfl ?_
  refine y_inlB 9 [.retAddr 21] [yI 0] [some (.retAddr 21)] c8_6 rfl rfl rfl rfl rfl (ycanT km1 (show 20 % 2 = 0 ∧ 20 / 2 < gLit.length by decide)) kn1 rfl rfl ?_
  refine y_aload 1 c1_0 rfl rfl rfl ?_
  refine y_text 4 (j := 20) c1_1 rfl (show 20 % 2 = 0 ∧ 20 / 2 < gLit.length by decide) ?_
  refine y_blen 5 (j := 21) c1_4 rfl (show 21 % 2 = 1 ∧ 21 / 2 < gLit.length by decide) ?_
  refine y_top 2 (show ((gLit.getD (21 / 2) []).length : Int) = 2 by decide) ?_
  refine y_aload 6 c1_5 rfl rfl rfl ?_
  refine y_inlB 9 [.retAddr 21] [yI 2] [some (.retAddr 21)] c1_6 rfl rfl rfl rfl rfl (ycanT km0 (show 20 % 2 = 0 ∧ 20 / 2 < gLit.length by decide)) kn0 rfl rfl ?_
  refine y_static0 3 c0_0 rfl ?_
  refine y_if 13 6 c0_3 rfl rfl (yz_eq (by omega)) (fun hb3675 => ?_) (fun hb3675 => ?_)
  · exfalso; omega
  · refine y_aload 7 c0_6 rfl rfl rfl ?_
    refine y_coder 10 (j := 20) c0_7 rfl (show 20 % 2 = 0 ∧ 20 / 2 < gLit.length by decide) ?_
    refine y_goto 14 c0_10 rfl ?_
    refine y_ireturnK c0_14 rfl ?_
    refine y_ishr 10 c1_9 rfl ?_
    refine y_top 2 (by decide) ?_
    refine y_ireturnK c1_10 (y_fit0 _) ?_
    refine y_icmp 28 12 c8_9 rfl rfl (yc_ge (by omega) (by omega)) (fun hb3676 => ?_) (fun hb3676 => ?_)
    · exfalso; omega
    · refine y_iload 13 c8_12 rfl rfl ?_
      refine y_aload 14 c8_13 rfl rfl rfl ?_
      refine y_iload 15 c8_14 rfl rfl ?_
      refine y_inlB 18 [.retAddr 21, yI 0] [yI 0] [some (.retAddr 21), some (yI 0)] c8_15 rfl rfl rfl rfl rfl (ycanT km6 (show 20 % 2 = 0 ∧ 20 / 2 < gLit.length by decide)) kn6 rfl rfl ?_
      refine y_aload 1 c6_0 rfl rfl rfl ?_
      refine y_inlB 4 [.retAddr 21] [] [some (.retAddr 21)] c6_1 rfl rfl rfl rfl rfl (ycanT km2 (show 20 % 2 = 0 ∧ 20 / 2 < gLit.length by decide)) kn2 rfl rfl ?_
      refine y_static0 3 c2_0 rfl ?_
      refine y_if 17 6 c2_3 rfl rfl (yz_eq (by omega)) (fun hb3677 => ?_) (fun hb3677 => ?_)
      · exfalso; omega
      · refine y_aload 7 c2_6 rfl rfl rfl ?_
        refine y_coder 10 (j := 20) c2_7 rfl (show 20 % 2 = 0 ∧ 20 / 2 < gLit.length by decide) ?_
        refine y_if 17 13 c2_10 rfl rfl (yz_ne (by omega)) (fun hb3678 => ?_) (fun hb3678 => ?_)
        · exfalso; omega
        · refine y_iconst 14 c2_13 rfl ?_
          refine y_goto 18 c2_14 rfl ?_
          refine y_ireturnK c2_18 (y_fit1 (by omega)) ?_
          refine y_if 16 7 c6_4 rfl rfl (yz_eq (by omega)) (fun hb3679 => ?_) (fun hb3679 => ?_)
          · exfalso; omega
          · refine y_aload 8 c6_7 rfl rfl rfl ?_
            refine y_text 11 (j := 20) c6_8 rfl (show 20 % 2 = 0 ∧ 20 / 2 < gLit.length by decide) ?_
            refine y_iload 12 c6_11 rfl rfl ?_
            refine y_inlB 15 [.retAddr 22, yI 0] [] [some (.retAddr 22), some (yI 0)] c6_12 rfl rfl rfl rfl rfl (ycanS km5) kn5 rfl rfl ?_
            refine y_iload 1 c5_0 rfl rfl ?_
            refine y_aload 2 c5_1 rfl rfl rfl ?_
            refine y_blen 3 (j := 21) c5_2 rfl (show 21 % 2 = 1 ∧ 21 / 2 < gLit.length by decide) ?_
            refine y_top 2 (show ((gLit.getD (21 / 2) []).length : Int) = 2 by decide) ?_
            refine y_inlB 6 [yI 0, yI 2] [] [some (yI 0), some (yI 2)] c5_3 rfl rfl rfl rfl rfl (ycanS km4) kn4 rfl rfl ?_
            refine y_iload 1 c4_0 rfl rfl ?_
            refine y_iload 2 c4_1 rfl rfl ?_
            refine y_static1 5 c4_2 rfl ?_
            refine y_inlB 8 [yI 0, yI 2, .float 0] [] [some (yI 0), some (yI 2), some (.float 0)] c4_5 rfl rfl rfl rfl rfl (ycanS km3) kn3 rfl rfl ?_
            refine y_iload 1 c3_0 rfl rfl ?_
            refine y_if 9 4 c3_1 rfl rfl (yz_lt (by omega)) (fun hb3680 => ?_) (fun hb3680 => ?_)
            · exfalso; omega
            · refine y_iload 5 c3_4 rfl rfl ?_
              refine y_iload 6 c3_5 rfl rfl ?_
              refine y_icmp 16 9 c3_6 rfl rfl (yc_lt (by omega) (by omega)) (fun hb3681 => ?_) (fun hb3681 => ?_)
              · refine y_iload 17 c3_16 rfl rfl ?_
                refine y_ireturnK c3_17 (y_fit0 _) ?_
                refine y_pop 9 c4_8 rfl rfl ?_
                refine y_returnK c4_9 ?_
                refine y_aload 7 c5_6 rfl rfl rfl ?_
                refine y_iload 8 c5_7 rfl rfl ?_
                refine y_byte 9 (j := 21) c5_8 rfl (show 21 % 2 = 1 ∧ 21 / 2 < gLit.length by decide) (show (gLit.getD (21 / 2) []).length ≤ 100000 by decide) (show (0 : Int) ≤ 0 ∧ (0 : Int) < (gLit.getD (21 / 2) []).length by decide) ?_
                refine y_top 103 (show ((gLit.getD (21 / 2) []).getD (Int.toNat 0) 0).toInt = 103 by decide) ?_
                refine y_iconst 12 c5_9 rfl ?_
                refine y_iand 13 c5_12 rfl ?_
                refine y_top 103 (by decide) ?_
                refine y_i2cN 14 c5_13 rfl (by omega) ?_
                refine y_ireturnK c5_14 rfl ?_
                refine y_ireturnK c6_15 rfl ?_
                refine y_callP 21 [yI 0, yI 103] [] c8_18 rfl rfl rfl rfl rfl (ycanS km7) t7X (fun r3682 hr3682 => ?_)
                refine y_istore 22 c8_21 rfl rfl ?_
                refine y_iincN 25 1 c8_22 rfl rfl (by decide) rfl ?_
                refine y_goto 4 c8_25 rfl ?_
                refine y_iload 5 c8_4 rfl rfl ?_
                refine y_aload 6 c8_5 rfl rfl rfl ?_
                refine y_inlB 9 [.retAddr 21] [yI 1] [some (.retAddr 21)] c8_6 rfl rfl rfl rfl rfl (ycanT km1 (show 20 % 2 = 0 ∧ 20 / 2 < gLit.length by decide)) kn1 rfl rfl ?_
                refine y_aload 1 c1_0 rfl rfl rfl ?_
                refine y_text 4 (j := 20) c1_1 rfl (show 20 % 2 = 0 ∧ 20 / 2 < gLit.length by decide) ?_
                refine y_blen 5 (j := 21) c1_4 rfl (show 21 % 2 = 1 ∧ 21 / 2 < gLit.length by decide) ?_
                refine y_top 2 (show ((gLit.getD (21 / 2) []).length : Int) = 2 by decide) ?_
                refine y_aload 6 c1_5 rfl rfl rfl ?_
                refine y_inlB 9 [.retAddr 21] [yI 2] [some (.retAddr 21)] c1_6 rfl rfl rfl rfl rfl (ycanT km0 (show 20 % 2 = 0 ∧ 20 / 2 < gLit.length by decide)) kn0 rfl rfl ?_
                refine y_static0 3 c0_0 rfl ?_
                refine y_if 13 6 c0_3 rfl rfl (yz_eq (by omega)) (fun hb3683 => ?_) (fun hb3683 => ?_)
                · exfalso; omega
                · refine y_aload 7 c0_6 rfl rfl rfl ?_
                  refine y_coder 10 (j := 20) c0_7 rfl (show 20 % 2 = 0 ∧ 20 / 2 < gLit.length by decide) ?_
                  refine y_goto 14 c0_10 rfl ?_
                  refine y_ireturnK c0_14 rfl ?_
                  refine y_ishr 10 c1_9 rfl ?_
                  refine y_top 2 (by decide) ?_
                  refine y_ireturnK c1_10 (y_fit0 _) ?_
                  refine y_icmp 28 12 c8_9 rfl rfl (yc_ge (by omega) (by omega)) (fun hb3684 => ?_) (fun hb3684 => ?_)
                  · exfalso; omega
                  · refine y_iload 13 c8_12 rfl rfl ?_
                    refine y_aload 14 c8_13 rfl rfl rfl ?_
                    refine y_iload 15 c8_14 rfl rfl ?_
                    refine y_inlB 18 [.retAddr 21, yI 1] [yI r3682] [some (.retAddr 21), some (yI 1)] c8_15 rfl rfl rfl rfl rfl (ycanT km6 (show 20 % 2 = 0 ∧ 20 / 2 < gLit.length by decide)) kn6 rfl rfl ?_
                    refine y_aload 1 c6_0 rfl rfl rfl ?_
                    refine y_inlB 4 [.retAddr 21] [] [some (.retAddr 21)] c6_1 rfl rfl rfl rfl rfl (ycanT km2 (show 20 % 2 = 0 ∧ 20 / 2 < gLit.length by decide)) kn2 rfl rfl ?_
                    refine y_static0 3 c2_0 rfl ?_
                    refine y_if 17 6 c2_3 rfl rfl (yz_eq (by omega)) (fun hb3685 => ?_) (fun hb3685 => ?_)
                    · exfalso; omega
                    · refine y_aload 7 c2_6 rfl rfl rfl ?_
                      refine y_coder 10 (j := 20) c2_7 rfl (show 20 % 2 = 0 ∧ 20 / 2 < gLit.length by decide) ?_
                      refine y_if 17 13 c2_10 rfl rfl (yz_ne (by omega)) (fun hb3686 => ?_) (fun hb3686 => ?_)
                      · exfalso; omega
                      · refine y_iconst 14 c2_13 rfl ?_
                        refine y_goto 18 c2_14 rfl ?_
                        refine y_ireturnK c2_18 (y_fit1 (by omega)) ?_
                        refine y_if 16 7 c6_4 rfl rfl (yz_eq (by omega)) (fun hb3687 => ?_) (fun hb3687 => ?_)
                        · exfalso; omega
                        · refine y_aload 8 c6_7 rfl rfl rfl ?_
                          refine y_text 11 (j := 20) c6_8 rfl (show 20 % 2 = 0 ∧ 20 / 2 < gLit.length by decide) ?_
                          refine y_iload 12 c6_11 rfl rfl ?_
                          refine y_inlB 15 [.retAddr 22, yI 1] [] [some (.retAddr 22), some (yI 1)] c6_12 rfl rfl rfl rfl rfl (ycanS km5) kn5 rfl rfl ?_
                          refine y_iload 1 c5_0 rfl rfl ?_
                          refine y_aload 2 c5_1 rfl rfl rfl ?_
                          refine y_blen 3 (j := 21) c5_2 rfl (show 21 % 2 = 1 ∧ 21 / 2 < gLit.length by decide) ?_
                          refine y_top 2 (show ((gLit.getD (21 / 2) []).length : Int) = 2 by decide) ?_
                          refine y_inlB 6 [yI 1, yI 2] [] [some (yI 1), some (yI 2)] c5_3 rfl rfl rfl rfl rfl (ycanS km4) kn4 rfl rfl ?_
                          refine y_iload 1 c4_0 rfl rfl ?_
                          refine y_iload 2 c4_1 rfl rfl ?_
                          refine y_static1 5 c4_2 rfl ?_
                          refine y_inlB 8 [yI 1, yI 2, .float 0] [] [some (yI 1), some (yI 2), some (.float 0)] c4_5 rfl rfl rfl rfl rfl (ycanS km3) kn3 rfl rfl ?_
                          refine y_iload 1 c3_0 rfl rfl ?_
                          refine y_if 9 4 c3_1 rfl rfl (yz_lt (by omega)) (fun hb3688 => ?_) (fun hb3688 => ?_)
                          · exfalso; omega
                          · refine y_iload 5 c3_4 rfl rfl ?_
                            refine y_iload 6 c3_5 rfl rfl ?_
                            refine y_icmp 16 9 c3_6 rfl rfl (yc_lt (by omega) (by omega)) (fun hb3689 => ?_) (fun hb3689 => ?_)
                            · refine y_iload 17 c3_16 rfl rfl ?_
                              refine y_ireturnK c3_17 (y_fit0 _) ?_
                              refine y_pop 9 c4_8 rfl rfl ?_
                              refine y_returnK c4_9 ?_
                              refine y_aload 7 c5_6 rfl rfl rfl ?_
                              refine y_iload 8 c5_7 rfl rfl ?_
                              refine y_byte 9 (j := 21) c5_8 rfl (show 21 % 2 = 1 ∧ 21 / 2 < gLit.length by decide) (show (gLit.getD (21 / 2) []).length ≤ 100000 by decide) (show (0 : Int) ≤ 1 ∧ (1 : Int) < (gLit.getD (21 / 2) []).length by decide) ?_
                              refine y_top 111 (show ((gLit.getD (21 / 2) []).getD (Int.toNat 1) 0).toInt = 111 by decide) ?_
                              refine y_iconst 12 c5_9 rfl ?_
                              refine y_iand 13 c5_12 rfl ?_
                              refine y_top 111 (by decide) ?_
                              refine y_i2cN 14 c5_13 rfl (by omega) ?_
                              refine y_ireturnK c5_14 rfl ?_
                              refine y_ireturnK c6_15 rfl ?_
                              refine y_callP 21 [yI r3682, yI 111] [] c8_18 rfl rfl rfl rfl rfl (ycanS km7) t7X (fun r3690 hr3690 => ?_)
                              refine y_istore 22 c8_21 rfl rfl ?_
                              refine y_iincN 25 2 c8_22 rfl rfl (by decide) rfl ?_
                              refine y_goto 4 c8_25 rfl ?_
                              refine y_iload 5 c8_4 rfl rfl ?_
                              refine y_aload 6 c8_5 rfl rfl rfl ?_
                              refine y_inlB 9 [.retAddr 21] [yI 2] [some (.retAddr 21)] c8_6 rfl rfl rfl rfl rfl (ycanT km1 (show 20 % 2 = 0 ∧ 20 / 2 < gLit.length by decide)) kn1 rfl rfl ?_
                              refine y_aload 1 c1_0 rfl rfl rfl ?_
                              refine y_text 4 (j := 20) c1_1 rfl (show 20 % 2 = 0 ∧ 20 / 2 < gLit.length by decide) ?_
                              refine y_blen 5 (j := 21) c1_4 rfl (show 21 % 2 = 1 ∧ 21 / 2 < gLit.length by decide) ?_
                              refine y_top 2 (show ((gLit.getD (21 / 2) []).length : Int) = 2 by decide) ?_
                              refine y_aload 6 c1_5 rfl rfl rfl ?_
                              refine y_inlB 9 [.retAddr 21] [yI 2] [some (.retAddr 21)] c1_6 rfl rfl rfl rfl rfl (ycanT km0 (show 20 % 2 = 0 ∧ 20 / 2 < gLit.length by decide)) kn0 rfl rfl ?_
                              refine y_static0 3 c0_0 rfl ?_
                              refine y_if 13 6 c0_3 rfl rfl (yz_eq (by omega)) (fun hb3691 => ?_) (fun hb3691 => ?_)
                              · exfalso; omega
                              · refine y_aload 7 c0_6 rfl rfl rfl ?_
                                refine y_coder 10 (j := 20) c0_7 rfl (show 20 % 2 = 0 ∧ 20 / 2 < gLit.length by decide) ?_
                                refine y_goto 14 c0_10 rfl ?_
                                refine y_ireturnK c0_14 rfl ?_
                                refine y_ishr 10 c1_9 rfl ?_
                                refine y_top 2 (by decide) ?_
                                refine y_ireturnK c1_10 (y_fit0 _) ?_
                                refine y_icmp 28 12 c8_9 rfl rfl (yc_ge (by omega) (by omega)) (fun hb3692 => ?_) (fun hb3692 => ?_)
                                · refine y_iload 29 c8_28 rfl rfl ?_
                                  exact y_retP c8_29 (y_fit0 _) (by omega)
                                · exfalso; omega
                            · exfalso; omega
              · exfalso; omega
section XDEEP
variable {stp : xI → Nat → xL → List Value → xH → Option xG} {P : Nat → Nat → Option xI} {mx : Nat → Nat} {hd : Nat → Nat → Nat → Option (Option Nat)}
theorem xrun_deep : ∀ (n e d i pc : Nat) (ls : xL) (st : List Value) (h : xH) (r : xO × xH), xrun stp P mx hd n d i pc ls st h = some r → xrun stp P mx hd n (d + e) i pc ls st h = some r := by
  intro n
  induction n with
  | zero => intro e d i pc ls st h r hr; cases hr
  | succ n ih =>
    intro e d i pc ls st h r hr
    simp only [xrun] at hr ⊢
    split at hr
    · cases hr
    · rename_i o ho
      split at hr
      · cases hr
      · rename_i pc' ls' st' h1 hs
        exact ih e _ _ _ _ _ _ _ hr
      · exact hr
      · rename_i j as pc' st' hs
        split at hr
        · cases hr
        · rename_i d
          rw [show d + 1 + e = (d + e) + 1 by omega]
          simp only
          split at hr
          · rename_i hent
            rw [if_pos hent]
            split at hr
            · cases hr
            · rename_i v h1 hc
              rw [ih e _ _ _ _ _ _ _ hc]
              have := ih e _ _ _ _ _ _ _ hr
              rw [show d + 1 + e = (d + e) + 1 by omega] at this
              exact this
            · rename_i q a h1 hc
              rw [ih e _ _ _ _ _ _ _ hc]
              split at hr
              · rename_i pq hq
                simp only [hq]
                have := ih e _ _ _ _ _ _ _ hr
                rw [show d + 1 + e = (d + e) + 1 by omega] at this
                exact this
              · rename_i hq
                simp only [hq]
                exact hr
              · cases hr
          · cases hr
end XDEEP
theorem xrun_same {stp : xI → Nat → xL → List Value → xH → Option xG} {P : Nat → Nat → Option xI} {mx : Nat → Nat} {hd : Nat → Nat → Nat → Option (Option Nat)} {n1 n2 d1 d2 i pc : Nat} {ls : xL} {st : List Value} {h : xH} {r1 r2 : xO × xH} (h1 : xrun stp P mx hd n1 d1 i pc ls st h = some r1) (h2 : xrun stp P mx hd n2 d2 i pc ls st h = some r2) : r1 = r2 := by
  have e1 := xrun_deep (n1 + n2) d2 d1 i pc ls st h r1 (xrun_more n1 n2 _ _ _ _ _ _ _ h1)
  have e2 := xrun_deep (n2 + n1) d1 d2 i pc ls st h r2 (xrun_more n2 n1 _ _ _ _ _ _ _ h2)
  rw [Nat.add_comm n2 n1, Nat.add_comm d2 d1, e1] at e2
  cases e2
  rfl
theorem YC.pc {Z : yZ} {d j : Nat} {as : List Value} {m : yM} {n : Nat} {Q : xO → yM → Nat → Prop} (h : YC Z d j as m n Q) (k d' : Nat) : PC Z k d' j as m n Q := by
  intro h0 hL j0 hj r h' hr
  obtain ⟨r1, h1, m1, n1, ⟨he, n0, hx⟩, hl, hq⟩ := h h0 hL
  have e := xrun_same hx hr
  cases e
  exact ⟨m1, n1, hl, hq⟩
theorem YW.pw {Z : yZ} {i d pc : Nat} {ls : xL} {st : List Value} {m : yM} {n : Nat} {Q Q' : xO → yM → Nat → Prop} (h : YW Z i d pc ls st m n Q) (hp : ∀ k, PW Z k i d pc ls st m n Q') : YW Z i d pc ls st m n (fun r m' n' => Q r m' n' ∧ ∃ m2 n2, Q' r m2 n2) := by
  intro h0 hL
  obtain ⟨r1, h1, m1, n1, ⟨n0, hx⟩, hl, hq⟩ := h h0 hL
  obtain ⟨m2, n2, l2, q2⟩ := hp n0 h0 hL n0 (Nat.le_refl _) _ _ hx
  exact ⟨r1, h1, m1, n1, ⟨n0, hx⟩, hl, hq, m2, n2, q2⟩
theorem d8go {L : Nat} {xs : Nat → Int32} {k d n : Nat} {m : yM} : PC (gZ L xs) k d 8 [.retAddr 21] m n (qX m 239) := by
  refine PW.mono (YC.pc (t8_goX (d := 0)) k d) (fun r m' n' hq => ?_)
  obtain ⟨x, e, h1, h2, h3⟩ := hq
  subst h1
  exact ⟨e, rgD rfl, h2⟩
def qSe (X : Option (Int × yM)) : xO → yM → Nat → Prop := fun o m' _ => ∃ r, o = .inl (some (yI r)) ∧ rg r ∧ (∃ c, RM c m') ∧ X = some (r, m')
def qEIe (E : Nat → Prop) (X : Option ((Int ⊕ Nat) × yM)) : xO → yM → Nat → Prop := fun o m' _ => (∃ r, o = .inl (some (yI r)) ∧ rg r ∧ (∃ c, RM c m') ∧ X = some (.inl r, m')) ∨ (∃ e x, o = .inr (e, x) ∧ E e ∧ (∃ c, RM c m') ∧ X = some (.inr e, m'))
section PC2
variable {Z : yZ} {k i d pc pc' w : Nat} {ls : xL} {st st0 : List Value} {m : yM} {n : Nat} {Q : xO → yM → Nat → Prop} {j ix kk kd : Nat} {as : List Value} {P : Nat → Prop} {E : Nat → Prop}
theorem p_cSe (pc' : Nat) (as : List Value) (st0 : List Value) {X : Option (Int × yM)} (ho : zP Z i pc = some (.invokeinterface j ix, w, kk, kd)) (hp : pc + w = pc') (ha : (st.take kk).reverse = as) (hr : st.drop kk = st0) (hc : ∀ k', k' < k → ∀ d', PC Z k' d' j as m n (qSe X)) (K : ∀ r m' c, X = some (r, m') → rg r → RM c m' → ∀ n' k', k' < k → PW Z k' i d pc' ls (yI r :: st0) m' n' Q) : PW Z k i d pc ls st m n Q :=
  p_call pc' as st0 ho hp ha hr hc (fun v m' n' hq k' hk' => by
    obtain ⟨r, e, h1, ⟨c, h2⟩, h3⟩ := hq
    cases e
    exact K r m' c h3 h1 h2 n' k' hk') (fun q x m' n' hq => by
    obtain ⟨r, e, h1⟩ := hq
    cases e)
theorem p_cTIe (pc' : Nat) (as : List Value) (st0 : List Value) {X : Option ((Int ⊕ Nat) × yM)} (ho : zP Z i pc = some (.invokeinterface j ix, w, kk, kd)) (hp : pc + w = pc') (ha : (st.take kk).reverse = as) (hr : st.drop kk = st0) (hc : ∀ k', k' < k → ∀ d', PC Z k' d' j as m n (qEIe E X)) (K : ∀ r m' c, X = some (.inl r, m') → rg r → RM c m' → ∀ n' k', k' < k → PW Z k' i d pc' ls (yI r :: st0) m' n' Q) (T : ∀ e x m' n' c, X = some (.inr e, m') → E e → RM c m' → (∀ pq, zHd Z i pc e = some (some pq) → ∀ k', k' < k → PW Z k' i d pq ls [.ref x] m' n' Q) ∧ (zHd Z i pc e = some none → Q (.inr (e, x)) m' n')) : PW Z k i d pc ls st m n Q :=
  p_call pc' as st0 ho hp ha hr hc (fun v m' n' hq k' hk' => by
    rcases hq with ⟨r, e, h1, ⟨c, h2⟩, h3⟩ | ⟨q, x, e, h1⟩
    · cases e
      exact K r m' c h3 h1 h2 n' k' hk'
    · cases e) (fun q x m' n' hq => by
    rcases hq with ⟨r, e, h1, h2, h3⟩ | ⟨q, x, e, h0, ⟨c, h1⟩, h2⟩
    · cases e
    · cases e
      exact T q x m' n' c h2 h0 h1)
end PC2
theorem rg_i2l (x : Int) : rg (i2l x).toInt := by
  unfold i2l
  rw [Int32.toInt_toInt64]
  exact rg_to _
theorem pX_pA {x : Int} (h : s01 x) : pX (pA x) = x := by
  rcases h with rfl | rfl <;> rfl
theorem sv_null {x : Int} (h : ¬ s01 x) : ysv [256, 316] x = .null := by
  unfold ysv
  unfold s01 at h
  split
  · rfl
  · rename_i h0
    have h2 : 2 ≤ x.toNat := by omega
    rw [List.getElem?_eq_none (by simpa using h2)]
theorem h8_of {c : yS3} {m : yM} (hR : RM c m) {x : Int} (e : m 8 4 = x) (h : s01 x) : c.2.1 = pX (pA x) := by
  rw [pX_pA h, ← e]
  exact hR.2.2.2.2.1.symm
theorem d175n {L : Nat} {xs : Nat → Int32} {k d n a1 : Nat} {m : yM} (h : ¬ s01 (m 8 4)) : PC (gZ L xs) k d 175 [.ref 8, .ref a1] m n (fun _ _ _ => False) := by
  refine PC.mk [some (.ref 8), some (.ref a1), none] kn175 rfl ?_
  refine p_iconst 1 c175_0 rfl ?_
  refine p_istore 2 c175_1 rfl rfl ?_
  refine p_iload 3 c175_2 rfl rfl ?_
  refine p_aload 4 c175_3 rfl rfl ?_
  refine p_getV 7 .null c175_4 rfl kf8_4 (sv_null h) ?_
  exact p_getN c175_7
theorem d179n {L : Nat} {xs : Nat → Int32} {k d n : Nat} {x1 x2 : Int} {m : yM} (h : ¬ s01 (m 8 4)) : PC (gZ L xs) k d 179 [.ref 8, yI x1, yI x2] m n (fun _ _ _ => False) := by
  refine PC.mk [some (.ref 8), some (yI x1), some (yI x2), none] kn179 rfl ?_
  refine p_iconst 1 c179_0 rfl ?_
  refine p_istore 2 c179_1 rfl rfl ?_
  refine p_iload 3 c179_2 rfl rfl ?_
  refine p_aload 4 c179_3 rfl rfl ?_
  refine p_getV 7 .null c179_4 rfl kf8_4 (sv_null h) ?_
  exact p_getN c179_7
theorem khm {i pc q : Nat} (h : gH i = []) : gHd i pc q = some none := by
  unfold gHd
  rw [h]
  rfl
