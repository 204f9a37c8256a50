/-! HANDLERS, cut. Printed by wip/whole/gen94.py -/
theorem kh159_5_11 : gHd 159 5 11 = some (some 13) := by decide +kernel
theorem kh165_7_11 : gHd 165 7 11 = some (some 15) := by decide +kernel
theorem kh169_5_11 : gHd 169 5 11 = some (some 13) := by decide +kernel
theorem kh173_4_11 : gHd 173 4 11 = some (some 12) := by decide +kernel
theorem kh177_4_11 : gHd 177 4 11 = some (some 12) := by decide +kernel
theorem kh181_5_11 : gHd 181 5 11 = some (some 13) := by decide +kernel
theorem kh184_5_11 : gHd 184 5 11 = some (some 13) := by decide +kernel
theorem kh184_5_9 : gHd 184 5 9 = some (some 17) := by decide +kernel
theorem kh200_3_10 : gHd 200 3 10 = some (some 20) := by decide +kernel
theorem kh200_3_11 : gHd 200 3 11 = some (some 11) := by decide +kernel
theorem kh200_3_12 : gHd 200 3 12 = some (some 14) := by decide +kernel
theorem kh200_3_13 : gHd 200 3 13 = some (some 17) := by decide +kernel
theorem kh213_5_11 : gHd 213 5 11 = some (some 13) := by decide +kernel
theorem kh216_4_9 : gHd 216 4 9 = some (some 12) := by decide +kernel
theorem kh28_4_9 : gHd 28 4 9 = some (some 12) := by decide +kernel
theorem kh95_3_9 : gHd 95 3 9 = some (some 11) := by decide +kernel
def qC (nn : Nat) (m : yM) (a : Int) : xO → yM → Nat → Prop := fun o m' n' => ∃ x : Int, o = .inl (some (yI x)) ∧ Ty gT m' ∧ ((x = 1 ∧ ¬ (0 ≤ a ∧ a ≤ m 0 6) ∧ n' = nn + 1 ∧ m' = m) ∨ (x = 0 ∧ (0 ≤ a ∧ a ≤ m 0 6) ∧ n' = nn ∧ m' = yup (yup m 0 6 (m 0 6 - a)) 413 0 (m 0 6 - a)))
set_option maxRecDepth 100000 in
theorem t28 {L : Nat} {xs : Nat → Int32} {d nn : Nat} {m : yM} {a : Int} (hT : Ty gT m) (ra : -2147483648 ≤ a ∧ a < 2147483648) : YC (gZ L xs) (d + 1) 28 [.ref 0, yI a, .ref 413] m nn (qC nn m a) := by
  have tb6 := hT.atp 0 6 0 320 rfl
  refine YC.mkB [some (.ref 0), some (yI a), some (.ref 413), none] kn28 rfl rfl ?_
  refine y_aload 1 c28_0 rfl rfl rfl ?_
  refine y_iconst 2 c28_1 rfl ?_
  refine y_aload 3 c28_2 rfl rfl rfl ?_
  refine y_iload 4 c28_3 rfl rfl ?_
  refine y_inlB 7 [.ref 0, yI a] [yI 0, .ref 413] [some (.ref 0), some (yI a)] c28_4 rfl rfl rfl rfl rfl (ycanO km27 ko0) kn27 rfl rfl ?_
  refine y_iload 1 c27_0 rfl rfl ?_
  refine y_if 12 4 c27_1 rfl rfl (yz_lt (by omega)) (fun hb5803 => ?_) (fun hb5803 => ?_)
  · refine y_throwB c27_12 rfl ?_
    refine yK_in kh28_4_9 ?_
    refine y_astore 13 c28_12 rfl rfl rfl ?_
    refine y_iconst 14 c28_13 rfl ?_
    exact y_ireturn c28_14 (y_fit0 _) ⟨_, rfl, hT, Or.inl ⟨rfl, by omega, rfl, rfl⟩⟩
  · refine y_iload 5 c27_4 rfl rfl ?_
    refine y_aload 6 c27_5 rfl rfl rfl ?_
    refine y_getX 9 (m 0 6) c27_6 rfl kf0_6 rfl ?_
    refine y_icmp 20 12 c27_9 rfl rfl (yc_le (by omega) (by omega)) (fun hb5804 => ?_) (fun hb5804 => ?_)
    · refine y_aload 21 c27_20 rfl rfl rfl ?_
      refine y_dup 22 c27_21 rfl rfl ?_
      refine y_getX 25 (m 0 6) c27_22 rfl kf0_6 rfl ?_
      refine y_iload 26 c27_25 rfl rfl ?_
      refine y_isub 27 c27_26 rfl ?_
      refine y_putI 30 c27_27 rfl kf0_6 (y_fit0 _) ?_
      have hT5805 := hT.up 0 6 ((m 0 6) - a) 0 320 rfl (by omega)
      refine y_aload 31 c27_30 rfl rfl rfl ?_
      refine y_getX 34 ((m 0 6) - a) c27_31 rfl kf0_6 rfl ?_
      refine y_ireturnK c27_34 (y_fit0 _) ?_
      refine y_i2l 8 c28_7 rfl ?_
      refine y_lastoreN 9 ((m 0 6) - a) c28_8 rfl kl413 (by decide) (by rw [Int32.toInt_toInt64, y_rng (by omega)]) ?_
      have hT5807 := hT5805.up 413 ((0 : Int).toNat) ((m 0 6) - a) ((-2147483648)) 2147483647 rfl (by omega)
      refine y_goto 15 c28_9 rfl ?_
      refine y_iconst 16 c28_15 rfl ?_
      exact y_ireturn c28_16 (y_fit0 _) ⟨_, rfl, hT5807, Or.inr ⟨rfl, by omega, rfl, rfl⟩⟩
    · refine y_throwB c27_12 rfl ?_
      refine yK_in kh28_4_9 ?_
      refine y_astore 13 c28_12 rfl rfl rfl ?_
      refine y_iconst 14 c28_13 rfl ?_
      exact y_ireturn c28_14 (y_fit0 _) ⟨_, rfl, hT, Or.inl ⟨rfl, by omega, rfl, rfl⟩⟩
