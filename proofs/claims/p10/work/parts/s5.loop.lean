/-! THE LAW, its loop. Printed by wip/whole/gen9k.py -/
abbrev gQ2 : xO → yM → Nat → Prop := fun r _ n => (r = .inl (some (yI 0)) ∨ r = .inl (some (yI 1))) ∧ n ≤ 2462
set_option maxRecDepth 100000 in
theorem lw_go {L : Nat} {xs : Nat → Int32} (hL : L ≤ 2048) : ∀ (k : Nat) (i : Int) (x5 x6 : Option Value) (m : yM) (n : Nat), (L : Int) - i = k → (0 ≤ i ∧ i ≤ (L : Int)) → LI m → (n : Int) ≤ 414 + i → YW (gZ L xs) 218 1200 23 [some (.retAddr 0), some (.ref 0), some (.ref 376), some (.ref 413), some (yI i), x5, x6] [] m n gQ2 := by
  intro k
  induction k using Nat.strongRecOn with
  | ind k ih =>
    intro i x5 x6 m n hk hi h hn
    refine y_iload 25 c218_23 rfl rfl ?_
    refine y_aload 26 c218_25 rfl rfl rfl ?_
    refine s_len 27 c218_26 rfl ?_
    refine y_iconst 28 c218_27 rfl ?_
    refine y_isub 29 c218_28 rfl ?_
    refine y_icmp 623 32 c218_29 rfl rfl (yc_gt (by omega) (by omega)) (fun hb52 => ?_) (fun hb52 => ?_)
    · refine y_iconst 624 c218_623 rfl ?_
      exact y_ireturn c218_624 (y_fit1 (by omega)) ⟨Or.inr rfl, by omega⟩
    · have hN : ∀ (y5 y6 : Option Value) (m' : yM) (n' : Nat), LI m' → n' ≤ n + 1 → YW (gZ L xs) 218 1200 617 [some (.retAddr 0), some (.ref 0), some (.ref 376), some (.ref 413), some (yI i), y5, y6] [] m' n' gQ2 := by
        intro y5 y6 m2 n2 h2 hn2
        refine y_iinc 620 c218_617 rfl rfl rfl ?_
        refine y_goto 23 c218_620 rfl ?_
        exact ih ((L : Int) - (i + 4)).toNat (by omega) (i + 4) y5 y6 m2 n2 (by omega) (by omega) h2 (by omega)
      refine y_aload 33 c218_32 rfl rfl rfl ?_
      refine y_iload 35 c218_33 rfl rfl ?_
      refine s_sc 36 c218_35 rfl hL (by omega) (fun s53 hs53 gs53 => ?_)
      refine y_iconst 38 c218_36 rfl ?_
      refine y_iand 39 c218_38 rfl ?_
      refine y_nam (fun b54 hb54 => ?_)
      have gb54 : -2147483648 ≤ b54 ∧ b54 < 2147483648 := by rw [hb54]; exact i32r _
      by_cases hk55 : b54 = 0
      · refine y_top 0 hk55 ?_
        refine y_tsw 108 c218_39 (by decide) (by decide) rfl rfl ?_
        exact lc_0 hL (by omega) h hN (fun m' n' z => ⟨Or.inl rfl, by omega⟩)
      by_cases hk56 : b54 = 1
      · refine y_top 1 hk56 ?_
        refine y_tsw 180 c218_39 (by decide) (by decide) rfl rfl ?_
        exact lc_1 hL (by omega) h hN (fun m' n' z => ⟨Or.inl rfl, by omega⟩)
      by_cases hk57 : b54 = 2
      · refine y_top 2 hk57 ?_
        refine y_tsw 208 c218_39 (by decide) (by decide) rfl rfl ?_
        exact lc_2 hL (by omega) h hN (fun m' n' z => ⟨Or.inl rfl, by omega⟩)
      by_cases hk58 : b54 = 3
      · refine y_top 3 hk58 ?_
        refine y_tsw 224 c218_39 (by decide) (by decide) rfl rfl ?_
        exact lc_3 hL (by omega) h hN (fun m' n' z => ⟨Or.inl rfl, by omega⟩)
      by_cases hk59 : b54 = 4
      · refine y_top 4 hk59 ?_
        refine y_tsw 237 c218_39 (by decide) (by decide) rfl rfl ?_
        exact lc_4 hL (by omega) h hN (fun m' n' z => ⟨Or.inl rfl, by omega⟩)
      by_cases hk60 : b54 = 5
      · refine y_top 5 hk60 ?_
        refine y_tsw 277 c218_39 (by decide) (by decide) rfl rfl ?_
        exact lc_5 hL (by omega) h hN (fun m' n' z => ⟨Or.inl rfl, by omega⟩)
      by_cases hk61 : b54 = 6
      · refine y_top 6 hk61 ?_
        refine y_tsw 329 c218_39 (by decide) (by decide) rfl rfl ?_
        exact lc_6 hL (by omega) h hN (fun m' n' z => ⟨Or.inl rfl, by omega⟩)
      by_cases hk62 : b54 = 7
      · refine y_top 7 hk62 ?_
        refine y_tsw 369 c218_39 (by decide) (by decide) rfl rfl ?_
        exact lc_7 hL (by omega) h hN (fun m' n' z => ⟨Or.inl rfl, by omega⟩)
      by_cases hk63 : b54 = 8
      · refine y_top 8 hk63 ?_
        refine y_tsw 397 c218_39 (by decide) (by decide) rfl rfl ?_
        exact lc_8 hL (by omega) h hN (fun m' n' z => ⟨Or.inl rfl, by omega⟩)
      by_cases hk64 : b54 = 9
      · refine y_top 9 hk64 ?_
        refine y_tsw 453 c218_39 (by decide) (by decide) rfl rfl ?_
        exact lc_9 hL (by omega) h hN (fun m' n' z => ⟨Or.inl rfl, by omega⟩)
      by_cases hk65 : b54 = 10
      · refine y_top 10 hk65 ?_
        refine y_tsw 493 c218_39 (by decide) (by decide) rfl rfl ?_
        exact lc_10 hL (by omega) h hN (fun m' n' z => ⟨Or.inl rfl, by omega⟩)
      by_cases hk66 : b54 = 11
      · refine y_top 11 hk66 ?_
        refine y_tsw 533 c218_39 (by decide) (by decide) rfl rfl ?_
        exact lc_11 hL (by omega) h hN (fun m' n' z => ⟨Or.inl rfl, by omega⟩)
      by_cases hk67 : b54 = 12
      · refine y_top 12 hk67 ?_
        refine y_tsw 549 c218_39 (by decide) (by decide) rfl rfl ?_
        exact lc_12 hL (by omega) h hN (fun m' n' z => ⟨Or.inl rfl, by omega⟩)
      by_cases hk68 : b54 = 13
      · refine y_top 13 hk68 ?_
        refine y_tsw 589 c218_39 (by decide) (by decide) rfl rfl ?_
        exact lc_13 hL (by omega) h hN (fun m' n' z => ⟨Or.inl rfl, by omega⟩)
      refine y_tswd 617 c218_39 (by omega) (by omega) rfl ?_
      exact hN _ _ _ _ h (by omega)
