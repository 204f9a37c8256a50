/-! CONTRACTS: the model, cut. Printed by wip/whole/gen9j.py -/
def qK (nn : Nat) (m : yM) (a : Int) : xO → yM → Nat → Prop := fun o m' n' => n' = nn ∧ Ty gT m' ∧ ((¬ (0 ≤ a ∧ a ≤ m 376 1) ∧ o = .inl (some (yI 0)) ∧ m' = yup m 376 57 1) ∨ ((0 ≤ a ∧ a ≤ m 376 1) ∧ o = .inl (some (yI (m 376 1 - a))) ∧ m' = yup (yup m 376 57 0) 376 1 (m 376 1 - a)))
set_option maxRecDepth 100000 in
theorem t29 {L : Nat} {xs : Nat → Int32} {d nn : Nat} {m : yM} (hT : Ty gT m) {a : Int} (ra : -2147483648 ≤ a ∧ a < 2147483648) : YC (gZ L xs) (d + 1) 29 [.ref 376, yI a] m nn (qK nn m a) := by
  have tb1 := hT.atp 376 1 0 320 rfl
  refine YC.mkB [some (.ref 376), some (yI a)] kn29 rfl rfl ?_
  refine y_aload 1 c29_0 rfl rfl rfl ?_
  refine y_iload 2 c29_1 rfl rfl ?_
  refine y_iconst 3 c29_2 rfl ?_
  refine y_aload 4 c29_3 rfl rfl rfl ?_
  refine y_getX 7 (m 376 1) c29_4 rfl kf376_1 rfl ?_
  refine y_callP 10 [yI a, yI 0, yI (m 376 1)] [.ref 376] c29_7 rfl rfl rfl rfl rfl (ycanS km22) (t22m (by omega) (by omega) (by omega)) (fun r15059 hr15059 => ?_)
  refine y_iconst 11 c29_10 rfl ?_
  refine y_inlB 14 [.ref 376, yI r15059, yI 1] [] [some (.ref 376), some (yI r15059), some (yI 1)] c29_11 rfl rfl rfl rfl rfl (ycanO km23 ko376) kn23 rfl rfl ?_
  refine y_aload 1 c23_0 rfl rfl rfl ?_
  refine y_iload 2 c23_1 rfl rfl ?_
  refine y_if 9 5 c23_2 rfl rfl (yz_eq (by omega)) (fun hb15060 => ?_) (fun hb15060 => ?_)
  · refine y_iload 10 c23_9 rfl rfl ?_
    refine y_putI 13 c23_10 rfl kf376_57 (y_fit0 _) ?_
    have hT15061 := hT.up 376 57 1 0 4 rfl (by omega)
    refine y_iload 14 c23_13 rfl rfl ?_
    refine y_ireturnK c23_14 (y_fit1 (by omega)) ?_
    refine y_if 19 17 c29_14 rfl rfl (yz_ne (by omega)) (fun hb15063 => ?_) (fun hb15063 => ?_)
    · exfalso; omega
    · refine y_iconst 18 c29_17 rfl ?_
      exact y_ireturn c29_18 (y_fit0 _) ⟨rfl, hT15061, Or.inl ⟨by omega, rfl, rfl⟩⟩
  · refine y_iconst 6 c23_5 rfl ?_
    refine y_goto 10 c23_6 rfl ?_
    refine y_putI 13 c23_10 rfl kf376_57 (y_fit0 _) ?_
    have hT15064 := hT.up 376 57 0 0 4 rfl (by omega)
    refine y_iload 14 c23_13 rfl rfl ?_
    refine y_ireturnK c23_14 (y_fit1 (by omega)) ?_
    refine y_if 19 17 c29_14 rfl rfl (yz_ne (by omega)) (fun hb15066 => ?_) (fun hb15066 => ?_)
    · refine y_aload 20 c29_19 rfl rfl rfl ?_
      refine y_dup 21 c29_20 rfl rfl ?_
      refine y_getX 24 (m 376 1) c29_21 rfl kf376_1 rfl ?_
      refine y_iload 25 c29_24 rfl rfl ?_
      refine y_isub 26 c29_25 rfl ?_
      refine y_putI 29 c29_26 rfl kf376_1 (y_fit0 _) ?_
      have hT15067 := hT15064.up 376 1 ((m 376 1) - a) 0 320 rfl (by omega)
      refine y_aload 30 c29_29 rfl rfl rfl ?_
      refine y_getX 33 ((m 376 1) - a) c29_30 rfl kf376_1 rfl ?_
      exact y_ireturn c29_33 (y_fit0 _) ⟨rfl, hT15067, Or.inr ⟨by omega, rfl, rfl⟩⟩
    · exfalso; omega
