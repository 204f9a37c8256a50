/-! FUNCTIONS OF THE METHODS: printed by wip/fn/dc.py -/
def J84_61 (f : Nat) (A : Nat) (a1 : Nat) (x2 : Int) (m : yM) : Option ((Int × yM) ⊕ ((Int × yM) ⊕ (Unit × yM))) := (some (.inl ((wr (x2 + 1)), m)))
set_option maxRecDepth 100000 in
theorem tJ84_61 {L : Nat} {xs : Nat → Int32} {Q : xO → yM → Nat → Prop} {k d n : Nat} {c : yS3} {f : Nat} {A : Nat} {a1 : Nat} {x2 : Int} {m : yM} (hk : k ≤ f) (hc : c.2.1 = pX A) (hA : (A = 256 ∨ A = 316)) (hs1 : (276 ≤ a1 ∧ a1 < 316) ∨ (336 ≤ a1 ∧ a1 < 376)) (gx2 : rg x2) (hR : RM c m) (Hn : ∀ (y0 : Int) (m' : yM) (n' : Nat), J84_61 f A a1 x2 m = some (.inl (y0, m')) → rg y0 → RM c m' → ∀ k', k' < k → PW (gZ L xs) k' 84 d 2 [some (.ref 8), some (.ref a1), some (yI y0)] [] m' n' Q) (He : ∀ (y0 : Int) (m' : yM) (n' : Nat), J84_61 f A a1 x2 m = some (.inr (.inl (y0, m'))) → rg y0 → RM c m' → ∀ k', k' ≤ k → PW (gZ L xs) k' 84 d 67 [some (.ref 8), some (.ref a1), some (yI y0)] [] m' n' Q) (Hr : ∀ m', J84_61 f A a1 x2 m = some (.inr (.inr ((), m'))) → RM c m' → ∀ n', Q (.inl none) m' n') : PW (gZ L xs) k 84 d 61 [some (.ref 8), some (.ref a1), some (yI x2)] [] m n Q := by
  have hX : J84_61 f A a1 x2 m = J84_61 f A a1 x2 m := rfl
  refine p_iinc 64 c84_61 rfl rfl rfl ?_
  refine p_gotoD 2 c84_64 rfl (fun k2713 hk2713 => ?_)
  exact Hn _ _ _ hX (rg_wr _) hR _ (by omega)
def B84_2 (f : Nat) (A : Nat) (a1 : Nat) (x2 : Int) (m : yM) : Option ((Int × yM) ⊕ ((Int × yM) ⊕ (Unit × yM))) := (if x2 < m A 14 then (if 0 ≤ (m a1 3) ∧ (m a1 3) < ((48 : Nat) : Int) then (if F78 (m (10 + (m a1 3).toNat) x2.toNat) m = 0 then (J84_61 f A a1 x2 m) else (if m a1 6 = (-1) then (J84_61 f A a1 x2 m) else (if 73 ≤ (F83 x2 (m a1 6)) ∧ (F83 x2 (m a1 6)) < 169 then (if 0 ≤ (m a1 2) ∧ (m a1 2) < ((48 : Nat) : Int) then (bU (F80_12_12 f A (F83 x2 (m a1 6)) (10 + (m a1 2).toNat) m) (fun m2732 => (J84_61 f A a1 x2 m2732))) else none) else none))) else none) else (some (.inr (.inl (x2, m)))))
set_option maxRecDepth 100000 in
theorem tB84_2 {L : Nat} {xs : Nat → Int32} {Q : xO → yM → Nat → Prop} {k d n : Nat} {c : yS3} {f : Nat} {A : Nat} {a1 : Nat} {x2 : Int} {m : yM} (hk : k ≤ f) (hc : c.2.1 = pX A) (hA : (A = 256 ∨ A = 316)) (hs1 : (276 ≤ a1 ∧ a1 < 316) ∨ (336 ≤ a1 ∧ a1 < 376)) (gx2 : rg x2) (hR : RM c m) (Hn : ∀ (y0 : Int) (m' : yM) (n' : Nat), B84_2 f A a1 x2 m = some (.inl (y0, m')) → rg y0 → RM c m' → ∀ k', k' < k → PW (gZ L xs) k' 84 d 2 [some (.ref 8), some (.ref a1), some (yI y0)] [] m' n' Q) (He : ∀ (y0 : Int) (m' : yM) (n' : Nat), B84_2 f A a1 x2 m = some (.inr (.inl (y0, m'))) → rg y0 → RM c m' → ∀ k', k' ≤ k → PW (gZ L xs) k' 84 d 67 [some (.ref 8), some (.ref a1), some (yI y0)] [] m' n' Q) (Hr : ∀ m', B84_2 f A a1 x2 m = some (.inr (.inr ((), m'))) → RM c m' → ∀ n', Q (.inl none) m' n') : PW (gZ L xs) k 84 d 2 [some (.ref 8), some (.ref a1), some (yI x2)] [] m n Q := by
  have hX : B84_2 f A a1 x2 m = B84_2 f A a1 x2 m := rfl
  refine p_iload 3 c84_2 rfl rfl ?_
  refine p_aload 4 c84_3 rfl rfl ?_
  refine p_getV 7 (.ref A) c84_4 rfl kf8_4 (pX_of hA hR.2.2.2.2.1 hc) ?_
  refine p_getX 10 (m A 14) c84_7 rfl (kP_14 hA) rfl ?_
  refine p_icmp 67 13 c84_10 rfl rfl ((yc_ge gx2 (hR.rg _ _)).trans Int.not_lt.symm) (fun hb2698 k2699 hk2699 => ?_) (fun hb2698 k2700 hk2700 => ?_)
  · have hX2701 := hX.trans (if_neg hb2698)
    exact He _ _ _ hX2701 gx2 hR _ (by omega)
  · have hX2702 := hX.trans (if_pos (Classical.not_not.mp hb2698))
    refine p_aload 14 c84_13 rfl rfl ?_
    refine p_aload 15 c84_14 rfl rfl ?_
    refine p_getR 18 c84_15 rfl kf8_0 ?_
    refine p_aload 19 c84_18 rfl rfl ?_
    refine p_getX 22 (m a1 3) c84_19 rfl (kS_3 hs1) rfl ?_
    refine p_aaX 23 c84_22 rfl kr9 (hR.rg _ _) (fun hx2703 => ?_)
    have hX2704 := hX2702.trans (if_pos hx2703)
    refine p_iload 24 c84_23 rfl rfl ?_
    refine p_iaX 25 (m (10 + (m a1 3).toNat) x2.toNat) c84_24 rfl (kR9 hx2703) gx2 rfl (fun hx2705 => ?_)
    refine p_cX 28 [.ref 8, yI (m (10 + (m a1 3).toNat) x2.toNat)] [] c84_25 rfl rfl rfl (fun k' hk' d' => d78 (hR.rg _ _) hR) (fun hg2708 n2707 k2706 hk2706 => ?_)
    refine p_if 61 31 c84_28 rfl rfl (yz_eq hg2708) (fun hb2709 k2710 hk2710 => ?_) (fun hb2709 k2711 hk2711 => ?_)
    · have hX2712 := hX2704.trans (if_pos hb2709)
      exact tJ84_61 (f := f) (by omega) hc hA hs1 gx2 hR (fun y0 m' n' e' h0 hR' k' hk' => Hn y0 m' n' (hX2712.trans e') h0 hR' k' (by omega)) (fun y0 m' n' e' h0 hR' k' hk' => He y0 m' n' (hX2712.trans e') h0 hR' k' (by omega)) (fun m' e' => Hr m' (hX2712.trans e'))
    · have hX2714 := hX2704.trans (if_neg hb2709)
      refine p_aload 32 c84_31 rfl rfl ?_
      refine p_getX 35 (m a1 6) c84_32 rfl (kS_6 hs1) rfl ?_
      refine p_iconst 36 c84_35 rfl ?_
      refine p_icmp 61 39 c84_36 rfl rfl (yc_eq (hR.rg _ _) (rgD rfl)) (fun hb2715 k2716 hk2716 => ?_) (fun hb2715 k2717 hk2717 => ?_)
      · have hX2718 := hX2714.trans (if_pos hb2715)
        exact tJ84_61 (f := f) (by omega) hc hA hs1 gx2 hR (fun y0 m' n' e' h0 hR' k' hk' => Hn y0 m' n' (hX2718.trans e') h0 hR' k' (by omega)) (fun y0 m' n' e' h0 hR' k' hk' => He y0 m' n' (hX2718.trans e') h0 hR' k' (by omega)) (fun m' e' => Hr m' (hX2718.trans e'))
      · have hX2719 := hX2714.trans (if_neg hb2715)
        refine p_aload 40 c84_39 rfl rfl ?_
        refine p_aload 41 c84_40 rfl rfl ?_
        refine p_iload 42 c84_41 rfl rfl ?_
        refine p_aload 43 c84_42 rfl rfl ?_
        refine p_getX 46 (m a1 6) c84_43 rfl (kS_6 hs1) rfl ?_
        refine p_cXR 49 [.ref 8, yI x2, yI (m a1 6)] [.ref 8] c84_46 rfl rfl rfl (fun k' hk' d' => d83 gx2 (hR.rg _ _) hR) (fun hg2722 n2721 k2720 hk2720 => ?_)
        have := hg2722.2
        have hX2723 := hX2719.trans (if_pos hg2722.2)
        refine p_aload 50 c84_49 rfl rfl ?_
        refine p_getR 53 c84_50 rfl kf8_0 ?_
        refine p_aload 54 c84_53 rfl rfl ?_
        refine p_getX 57 (m a1 2) c84_54 rfl (kS_2 hs1) rfl ?_
        refine p_aaX 58 c84_57 rfl kr9 (hR.rg _ _) (fun hx2724 => ?_)
        have hX2725 := hX2723.trans (if_pos hx2724)
        refine p_cV 61 [.ref 8, .ref (F83 x2 (m a1 6)), .ref (10 + (m a1 2).toNat)] [] c84_58 rfl rfl rfl (fun k' hk' d' => d80_12_12 (f := f) (by omega) hc hA hg2722.1 (by omega) (kR9 hx2724) (by omega) hR) (fun m2732 hF2728 hR2733 n2727 k2726 hk2726 => ?_)
        have hX2731 := hX2725.trans (bU_s hF2728)
        exact tJ84_61 (f := f) (by omega) hc hA hs1 gx2 hR2733 (fun y0 m' n' e' h0 hR' k' hk' => Hn y0 m' n' (hX2731.trans e') h0 hR' k' (by omega)) (fun y0 m' n' e' h0 hR' k' hk' => He y0 m' n' (hX2731.trans e') h0 hR' k' (by omega)) (fun m' e' => Hr m' (hX2731.trans e'))
def F84 (f : Nat) (A : Nat) (a1 : Nat) (m : yM) : Option yM := (bL (yloop (fun (l : Int) ml => B84_2 f A a1 l ml) f 0 m) (fun l2734 m2740 => (some m2740)) (fun _ mr => some mr))
set_option maxRecDepth 100000 in
theorem d84 {L : Nat} {xs : Nat → Int32} {k d n : Nat} {c : yS3} {f : Nat} {A : Nat} {a1 : Nat} {m : yM} (hk : k ≤ f) (hc : c.2.1 = pX A) (hA : (A = 256 ∨ A = 316)) (hs1 : (276 ≤ a1 ∧ a1 < 316) ∨ (336 ≤ a1 ∧ a1 < 376)) (hR : RM c m) : PC (gZ L xs) k d 84 [.ref 8, .ref a1] m n (qV c (F84 f A a1 m)) := by
  have hX : F84 f A a1 m = F84 f A a1 m := rfl
  have Hr : ∀ m', F84 f A a1 m = some m' → RM c m' → ∀ n' : Nat, (qV c (F84 f A a1 m)) (.inl none) m' n' := fun m' e h n' => ⟨rfl, h, e⟩
  refine PC.mk [some (.ref 8), some (.ref a1), none] kn84 rfl ?_
  refine p_iconst 1 c84_0 rfl ?_
  refine p_istore 2 c84_1 rfl rfl ?_
  refine PW.loop (K := k) (pce := 67) (fun (l : Int) ml => B84_2 f A a1 l ml) (fun (l : Int) j => [some (.ref 8), some (.ref a1), some (yI l)]) (fun (l : Int) => rg l) (RM c) (fun (r' : Unit) m' => RM c m' → ∀ n' : Nat, (qV c (F84 f A a1 m)) (.inl none) m' n') (fun k' hk' l j m' n' hl hI Hn' He' Hr' => tB84_2 (f := f) (by omega) hc hA hs1 hl hI (fun y0 m2 n2 e h0 hR2 => Hn' y0 (fun q => ([none, none, none] : List (Option Value)).getD q none) m2 n2 e h0 hR2) (fun y0 m2 n2 e h0 hR2 => He' y0 (fun q => ([none, none, none] : List (Option Value)).getD q none) m2 n2 e h0 hR2) (fun m2 e => Hr' () m2 e)) f k (by omega) (Nat.le_refl _) 0 (fun q => ([some (.ref 8), some (.ref a1), some (yI 0)] : xL).getD q none) _ _ (rgD rfl) hR (fun l2734 j2737 m2740 n2739 e2736 hl2735 hR2741 k2738 hk2738 => ?_) (fun r' m' e' => ?_)
  · have hX2742 := hX.trans (bL_l e2736)
    exact p_return c84_67 (Hr _ hX2742 hR2741 _)
  · exact Hr m' (hX.trans (bL_r e'))
def F90 (f : Nat) (A : Nat) (a1 : Nat) (m : yM) : Option yM := (if m a1 0 = 2 then (if 0 ≤ (m a1 3) ∧ (m a1 3) < ((48 : Nat) : Int) then (if 0 ≤ (m a1 2) ∧ (m a1 2) < ((48 : Nat) : Int) then (bU (F80_12_12 f A (10 + (m a1 3).toNat) (10 + (m a1 2).toNat) m) (fun m2319 => (some m2319))) else none) else none) else (if m a1 0 = 3 then (bU (F85 f A a1 m) (fun m2380 => (some m2380))) else (if m a1 0 = 4 then (bU (F86 f A a1 m) (fun m2471 => (bU (F89 f A a1 m2471) (fun m2577 => (some m2577))))) else (if m a1 0 = 5 then (if 0 ≤ (m a1 2) ∧ (m a1 2) < ((48 : Nat) : Int) then (bU (F79_12 f (10 + (m a1 2).toNat) (m a1 6) m) (fun m2590 => (some m2590))) else none) else (if m a1 0 = 6 then (some m) else (if m a1 0 = 7 then (bU (F82 f A a1 m) (fun m2676 => (some m2676))) else (if m a1 0 = 8 then (if 0 ≤ (m a1 3) ∧ (m a1 3) < ((48 : Nat) : Int) then (if 0 ≤ (m a1 2) ∧ (m a1 2) < ((48 : Nat) : Int) then (bU (F80_12_12 f A (10 + (m a1 3).toNat) (10 + (m a1 2).toNat) m) (fun m2691 => (some m2691))) else none) else none) else (if m a1 0 = 9 then (bU (F84 f A a1 m) (fun m2747 => (some m2747))) else (some m)))))))))
set_option maxRecDepth 100000 in
theorem d90 {L : Nat} {xs : Nat → Int32} {k d n : Nat} {c : yS3} {f : Nat} {A : Nat} {a1 : Nat} {m : yM} (hk : k ≤ f) (hc : c.2.1 = pX A) (hA : (A = 256 ∨ A = 316)) (hs1 : (276 ≤ a1 ∧ a1 < 316) ∨ (336 ≤ a1 ∧ a1 < 376)) (hR : RM c m) : PC (gZ L xs) k d 90 [.ref 8, .ref a1] m n (qV c (F90 f A a1 m)) := by
  have hX : F90 f A a1 m = F90 f A a1 m := rfl
  have Hr : ∀ m', F90 f A a1 m = some m' → RM c m' → ∀ n' : Nat, (qV c (F90 f A a1 m)) (.inl none) m' n' := fun m' e h n' => ⟨rfl, h, e⟩
  refine PC.mk [some (.ref 8), some (.ref a1)] kn90 rfl ?_
  refine p_aload 1 c90_0 rfl rfl ?_
  refine p_getX 4 (m a1 0) c90_1 rfl (kS_0 hs1) rfl ?_
  by_cases hk2266 : m a1 0 = 2
  · have hX2267 := hX.trans (if_pos hk2266)
    refine p_top 2 hk2266 ?_
    refine p_tsw 72 c90_4 (rgD rfl) (by decide) rfl rfl ?_
    refine p_aload 73 c90_72 rfl rfl ?_
    refine p_aload 74 c90_73 rfl rfl ?_
    refine p_getR 77 c90_74 rfl kf8_0 ?_
    refine p_aload 78 c90_77 rfl rfl ?_
    refine p_getX 81 (m a1 3) c90_78 rfl (kS_3 hs1) rfl ?_
    refine p_aaX 82 c90_81 rfl kr9 (hR.rg _ _) (fun hx2268 => ?_)
    have hX2269 := hX2267.trans (if_pos hx2268)
    refine p_aload 83 c90_82 rfl rfl ?_
    refine p_getR 86 c90_83 rfl kf8_0 ?_
    refine p_aload 87 c90_86 rfl rfl ?_
    refine p_getX 90 (m a1 2) c90_87 rfl (kS_2 hs1) rfl ?_
    refine p_aaX 91 c90_90 rfl kr9 (hR.rg _ _) (fun hx2270 => ?_)
    have hX2271 := hX2269.trans (if_pos hx2270)
    refine p_cV 94 [.ref 8, .ref (10 + (m a1 3).toNat), .ref (10 + (m a1 2).toNat)] [] c90_91 rfl rfl rfl (fun k' hk' d' => d80_12_12 (f := f) (by omega) hc hA (kR9 hx2268) (by omega) (kR9 hx2270) (by omega) hR) (fun m2319 hF2315 hR2320 n2273 k2272 hk2272 => ?_)
    have hX2318 := hX2271.trans (bU_s hF2315)
    refine p_goto 134 c90_94 rfl ?_
    exact p_return c90_134 (Hr _ hX2318 hR2320 _)
  have hX2321 := hX.trans (if_neg hk2266)
  by_cases hk2322 : m a1 0 = 3
  · have hX2323 := hX2321.trans (if_pos hk2322)
    refine p_top 3 hk2322 ?_
    refine p_tsw 113 c90_4 (rgD rfl) (by decide) rfl rfl ?_
    refine p_aload 114 c90_113 rfl rfl ?_
    refine p_aload 115 c90_114 rfl rfl ?_
    refine p_cV 118 [.ref 8, .ref a1] [] c90_115 rfl rfl rfl (fun k' hk' d' => d85 (f := f) (by omega) hc hA hs1 hR) (fun m2380 hF2376 hR2381 n2325 k2324 hk2324 => ?_)
    have hX2379 := hX2323.trans (bU_s hF2376)
    refine p_goto 134 c90_118 rfl ?_
    exact p_return c90_134 (Hr _ hX2379 hR2381 _)
  have hX2382 := hX2321.trans (if_neg hk2322)
  by_cases hk2383 : m a1 0 = 4
  · have hX2384 := hX2382.trans (if_pos hk2383)
    refine p_top 4 hk2383 ?_
    refine p_tsw 121 c90_4 (rgD rfl) (by decide) rfl rfl ?_
    refine p_aload 122 c90_121 rfl rfl ?_
    refine p_aload 123 c90_122 rfl rfl ?_
    refine p_cV 126 [.ref 8, .ref a1] [] c90_123 rfl rfl rfl (fun k' hk' d' => d86 (f := f) (by omega) hc hA hs1 hR) (fun m2471 hF2467 hR2472 n2386 k2385 hk2385 => ?_)
    have hX2470 := hX2384.trans (bU_s hF2467)
    refine p_aload 127 c90_126 rfl rfl ?_
    refine p_aload 128 c90_127 rfl rfl ?_
    refine p_cV 131 [.ref 8, .ref a1] [] c90_128 rfl rfl rfl (fun k' hk' d' => d89 (f := f) (by omega) hc hA hs1 hR2472) (fun m2577 hF2573 hR2578 n2474 k2473 hk2473 => ?_)
    have hX2576 := hX2470.trans (bU_s hF2573)
    refine p_goto 134 c90_131 rfl ?_
    exact p_return c90_134 (Hr _ hX2576 hR2578 _)
  have hX2579 := hX2382.trans (if_neg hk2383)
  by_cases hk2580 : m a1 0 = 5
  · have hX2581 := hX2579.trans (if_pos hk2580)
    refine p_top 5 hk2580 ?_
    refine p_tsw 52 c90_4 (rgD rfl) (by decide) rfl rfl ?_
    refine p_aload 53 c90_52 rfl rfl ?_
    refine p_aload 54 c90_53 rfl rfl ?_
    refine p_getR 57 c90_54 rfl kf8_0 ?_
    refine p_aload 58 c90_57 rfl rfl ?_
    refine p_getX 61 (m a1 2) c90_58 rfl (kS_2 hs1) rfl ?_
    refine p_aaX 62 c90_61 rfl kr9 (hR.rg _ _) (fun hx2582 => ?_)
    have hX2583 := hX2581.trans (if_pos hx2582)
    refine p_aload 63 c90_62 rfl rfl ?_
    refine p_getX 66 (m a1 6) c90_63 rfl (kS_6 hs1) rfl ?_
    refine p_cV 69 [.ref 8, .ref (10 + (m a1 2).toNat), yI (m a1 6)] [] c90_66 rfl rfl rfl (fun k' hk' d' => d79_12 (f := f) (by omega) (kR9 hx2582) (by omega) (hR.rg _ _) hR) (fun m2590 hF2586 hR2591 n2585 k2584 hk2584 => ?_)
    have hX2589 := hX2583.trans (bU_s hF2586)
    refine p_goto 134 c90_69 rfl ?_
    exact p_return c90_134 (Hr _ hX2589 hR2591 _)
  have hX2592 := hX2579.trans (if_neg hk2580)
  by_cases hk2593 : m a1 0 = 6
  · have hX2594 := hX2592.trans (if_pos hk2593)
    refine p_top 6 hk2593 ?_
    refine p_tsw 134 c90_4 (rgD rfl) (by decide) rfl rfl ?_
    exact p_return c90_134 (Hr _ hX2594 hR _)
  have hX2595 := hX2592.trans (if_neg hk2593)
  by_cases hk2596 : m a1 0 = 7
  · have hX2597 := hX2595.trans (if_pos hk2596)
    refine p_top 7 hk2596 ?_
    refine p_tsw 97 c90_4 (rgD rfl) (by decide) rfl rfl ?_
    refine p_aload 98 c90_97 rfl rfl ?_
    refine p_aload 99 c90_98 rfl rfl ?_
    refine p_cV 102 [.ref 8, .ref a1] [] c90_99 rfl rfl rfl (fun k' hk' d' => d82 (f := f) (by omega) hc hA hs1 hR) (fun m2676 hF2672 hR2677 n2599 k2598 hk2598 => ?_)
    have hX2675 := hX2597.trans (bU_s hF2672)
    refine p_goto 134 c90_102 rfl ?_
    exact p_return c90_134 (Hr _ hX2675 hR2677 _)
  have hX2678 := hX2595.trans (if_neg hk2596)
  by_cases hk2679 : m a1 0 = 8
  · have hX2680 := hX2678.trans (if_pos hk2679)
    refine p_top 8 hk2679 ?_
    refine p_tsw 72 c90_4 (rgD rfl) (by decide) rfl rfl ?_
    refine p_aload 73 c90_72 rfl rfl ?_
    refine p_aload 74 c90_73 rfl rfl ?_
    refine p_getR 77 c90_74 rfl kf8_0 ?_
    refine p_aload 78 c90_77 rfl rfl ?_
    refine p_getX 81 (m a1 3) c90_78 rfl (kS_3 hs1) rfl ?_
    refine p_aaX 82 c90_81 rfl kr9 (hR.rg _ _) (fun hx2681 => ?_)
    have hX2682 := hX2680.trans (if_pos hx2681)
    refine p_aload 83 c90_82 rfl rfl ?_
    refine p_getR 86 c90_83 rfl kf8_0 ?_
    refine p_aload 87 c90_86 rfl rfl ?_
    refine p_getX 90 (m a1 2) c90_87 rfl (kS_2 hs1) rfl ?_
    refine p_aaX 91 c90_90 rfl kr9 (hR.rg _ _) (fun hx2683 => ?_)
    have hX2684 := hX2682.trans (if_pos hx2683)
    refine p_cV 94 [.ref 8, .ref (10 + (m a1 3).toNat), .ref (10 + (m a1 2).toNat)] [] c90_91 rfl rfl rfl (fun k' hk' d' => d80_12_12 (f := f) (by omega) hc hA (kR9 hx2681) (by omega) (kR9 hx2683) (by omega) hR) (fun m2691 hF2687 hR2692 n2686 k2685 hk2685 => ?_)
    have hX2690 := hX2684.trans (bU_s hF2687)
    refine p_goto 134 c90_94 rfl ?_
    exact p_return c90_134 (Hr _ hX2690 hR2692 _)
  have hX2693 := hX2678.trans (if_neg hk2679)
  by_cases hk2694 : m a1 0 = 9
  · have hX2695 := hX2693.trans (if_pos hk2694)
    refine p_top 9 hk2694 ?_
    refine p_tsw 105 c90_4 (rgD rfl) (by decide) rfl rfl ?_
    refine p_aload 106 c90_105 rfl rfl ?_
    refine p_aload 107 c90_106 rfl rfl ?_
    refine p_cV 110 [.ref 8, .ref a1] [] c90_107 rfl rfl rfl (fun k' hk' d' => d84 (f := f) (by omega) hc hA hs1 hR) (fun m2747 hF2743 hR2748 n2697 k2696 hk2696 => ?_)
    have hX2746 := hX2695.trans (bU_s hF2743)
    refine p_goto 134 c90_110 rfl ?_
    exact p_return c90_134 (Hr _ hX2746 hR2748 _)
  have hX2749 := hX2693.trans (if_neg hk2694)
  refine p_tswd 134 c90_4 (hR.rg _ _) (by omega) rfl ?_
  exact p_return c90_134 (Hr _ hX2749 hR _)
def J91_130 (f : Nat) (A : Nat) (x2 : Int) (m : yM) : Option ((Int × yM) ⊕ ((Int × yM) ⊕ (Unit × yM))) := (some (.inl ((wr (x2 + 1)), m)))
set_option maxRecDepth 100000 in
theorem tJ91_130 {L : Nat} {xs : Nat → Int32} {Q : xO → yM → Nat → Prop} {k d n : Nat} {c : yS3} {f : Nat} {A : Nat} {x2 : Int} {m : yM} {j1 j3 : Option Value} (hk : k ≤ f) (hc : c.2.1 = pX A) (hA : (A = 256 ∨ A = 316)) (gx2 : rg x2) (hR : RM c m) (Hn : ∀ (y0 : Int) (z0 z1 : Option Value) (m' : yM) (n' : Nat), J91_130 f A x2 m = some (.inl (y0, m')) → rg y0 → RM c m' → ∀ k', k' < k → PW (gZ L xs) k' 91 d 88 [some (.ref 8), z0, some (yI y0), z1] [] m' n' Q) (He : ∀ (y0 : Int) (z0 z1 : Option Value) (m' : yM) (n' : Nat), J91_130 f A x2 m = some (.inr (.inl (y0, m'))) → rg y0 → RM c m' → ∀ k', k' ≤ k → PW (gZ L xs) k' 91 d 136 [some (.ref 8), z0, some (yI y0), z1] [] m' n' Q) (Hr : ∀ m', J91_130 f A x2 m = some (.inr (.inr ((), m'))) → RM c m' → ∀ n', Q (.inl none) m' n') : PW (gZ L xs) k 91 d 130 [some (.ref 8), j1, some (yI x2), j3] [] m n Q := by
  have hX : J91_130 f A x2 m = J91_130 f A x2 m := rfl
  refine p_iinc 133 c91_130 rfl rfl rfl ?_
  refine p_gotoD 88 c91_133 rfl (fun k2262 hk2262 => ?_)
  exact Hn _ _ _ _ _ hX (rg_wr _) hR _ (by omega)
def B91_88 (f : Nat) (A : Nat) (x2 : Int) (m : yM) : Option ((Int × yM) ⊕ ((Int × yM) ⊕ (Unit × yM))) := (if x2 < m A 16 then (if 0 ≤ x2 ∧ x2 < ((40 : Nat) : Int) then (if F78 (m 71 (m (A + 20 + (x2).toNat) 1).toNat) m = 0 then (J91_130 f A x2 m) else (bU (F90 f A (A + 20 + (x2).toNat) m) (fun m2754 => (J91_130 f A x2 m2754)))) else none) else (some (.inr (.inl (x2, m)))))
set_option maxRecDepth 100000 in
theorem tB91_88 {L : Nat} {xs : Nat → Int32} {Q : xO → yM → Nat → Prop} {k d n : Nat} {c : yS3} {f : Nat} {A : Nat} {x2 : Int} {m : yM} {j1 j3 : Option Value} (hk : k ≤ f) (hc : c.2.1 = pX A) (hA : (A = 256 ∨ A = 316)) (gx2 : rg x2) (hR : RM c m) (Hn : ∀ (y0 : Int) (z0 z1 : Option Value) (m' : yM) (n' : Nat), B91_88 f A x2 m = some (.inl (y0, m')) → rg y0 → RM c m' → ∀ k', k' < k → PW (gZ L xs) k' 91 d 88 [some (.ref 8), z0, some (yI y0), z1] [] m' n' Q) (He : ∀ (y0 : Int) (z0 z1 : Option Value) (m' : yM) (n' : Nat), B91_88 f A x2 m = some (.inr (.inl (y0, m'))) → rg y0 → RM c m' → ∀ k', k' ≤ k → PW (gZ L xs) k' 91 d 136 [some (.ref 8), z0, some (yI y0), z1] [] m' n' Q) (Hr : ∀ m', B91_88 f A x2 m = some (.inr (.inr ((), m'))) → RM c m' → ∀ n', Q (.inl none) m' n') : PW (gZ L xs) k 91 d 88 [some (.ref 8), j1, some (yI x2), j3] [] m n Q := by
  have hX : B91_88 f A x2 m = B91_88 f A x2 m := rfl
  refine p_iload 89 c91_88 rfl rfl ?_
  refine p_aload 90 c91_89 rfl rfl ?_
  refine p_getV 93 (.ref A) c91_90 rfl kf8_4 (pX_of hA hR.2.2.2.2.1 hc) ?_
  refine p_getX 96 (m A 16) c91_93 rfl (kP_16 hA) rfl ?_
  refine p_icmp 136 99 c91_96 rfl rfl ((yc_ge gx2 (hR.rg _ _)).trans Int.not_lt.symm) (fun hb2237 k2238 hk2238 => ?_) (fun hb2237 k2239 hk2239 => ?_)
  · have hX2240 := hX.trans (if_neg hb2237)
    exact He _ _ _ _ _ hX2240 gx2 hR _ (by omega)
  · have hX2241 := hX.trans (if_pos (Classical.not_not.mp hb2237))
    refine p_aload 100 c91_99 rfl rfl ?_
    refine p_getV 103 (.ref A) c91_100 rfl kf8_4 (pX_of hA hR.2.2.2.2.1 hc) ?_
    refine p_getR 106 c91_103 rfl (kP_6 hA) ?_
    refine p_iload 107 c91_106 rfl rfl ?_
    refine p_aaX 108 c91_107 rfl (kPr_7 hA) gx2 (fun hx2242 => ?_)
    have hX2243 := hX2241.trans (if_pos hx2242)
    refine p_astore 109 c91_108 rfl rfl ?_
    refine p_aload 110 c91_109 rfl rfl ?_
    refine p_aload 111 c91_110 rfl rfl ?_
    refine p_getR 114 c91_111 rfl kf8_2 ?_
    refine p_aload 115 c91_114 rfl rfl ?_
    refine p_getX 118 (m (A + 20 + (x2).toNat) 1) c91_115 rfl (kS_1 (kSr hA hx2242)) rfl ?_
    refine p_iaX 119 (m 71 (m (A + 20 + (x2).toNat) 1).toNat) c91_118 rfl ka71 (hR.rg _ _) rfl (fun hx2244 => ?_)
    refine p_cX 122 [.ref 8, yI (m 71 (m (A + 20 + (x2).toNat) 1).toNat)] [] c91_119 rfl rfl rfl (fun k' hk' d' => d78 (hR.rg _ _) hR) (fun hg2257 n2246 k2245 hk2245 => ?_)
    refine p_if 130 125 c91_122 rfl rfl (yz_eq hg2257) (fun hb2258 k2259 hk2259 => ?_) (fun hb2258 k2260 hk2260 => ?_)
    · have hX2261 := hX2243.trans (if_pos hb2258)
      exact tJ91_130 (f := f) (by omega) hc hA gx2 hR (fun y0 y1 y2 m' n' e' h0 hR' k' hk' => Hn y0 y1 y2 m' n' (hX2261.trans e') h0 hR' k' (by omega)) (fun y0 y1 y2 m' n' e' h0 hR' k' hk' => He y0 y1 y2 m' n' (hX2261.trans e') h0 hR' k' (by omega)) (fun m' e' => Hr m' (hX2261.trans e'))
    · have hX2263 := hX2243.trans (if_neg hb2258)
      refine p_aload 126 c91_125 rfl rfl ?_
      refine p_aload 127 c91_126 rfl rfl ?_
      refine p_cV 130 [.ref 8, .ref (A + 20 + (x2).toNat)] [] c91_127 rfl rfl rfl (fun k' hk' d' => d90 (f := f) (by omega) hc hA (kSr hA hx2242) hR) (fun m2754 hF2750 hR2755 n2265 k2264 hk2264 => ?_)
      have hX2753 := hX2263.trans (bU_s hF2750)
      exact tJ91_130 (f := f) (by omega) hc hA gx2 hR2755 (fun y0 y1 y2 m' n' e' h0 hR' k' hk' => Hn y0 y1 y2 m' n' (hX2753.trans e') h0 hR' k' (by omega)) (fun y0 y1 y2 m' n' e' h0 hR' k' hk' => He y0 y1 y2 m' n' (hX2753.trans e') h0 hR' k' (by omega)) (fun m' e' => Hr m' (hX2753.trans e'))
def B91_65 (f : Nat) (A : Nat) (m : yM) : Option ((Unit × yM) ⊕ ((Unit × yM) ⊕ (Unit × yM))) := (if m 8 5 < 2000 then (if m 8 5 = m 8 6 then (bL (yloop (fun (l : Int) ml => B91_88 f A l ml) f 0 m) (fun l2756 m2762 => (some (.inl ((), yup m2762 8 5 (wr ((m2762 8 5) + 1)))))) (fun _ mr => some (.inr (.inr ((), mr))))) else (some (.inr (.inl ((), m))))) else (some (.inr (.inl ((), m)))))
set_option maxRecDepth 100000 in
theorem tB91_65 {L : Nat} {xs : Nat → Int32} {Q : xO → yM → Nat → Prop} {k d n : Nat} {c : yS3} {f : Nat} {A : Nat} {m : yM} {j1 j2 j3 : Option Value} (hk : k ≤ f) (hc : c.2.1 = pX A) (hA : (A = 256 ∨ A = 316)) (hR : RM c m) (Hn : ∀ (z0 z1 z2 : Option Value) (m' : yM) (n' : Nat), B91_65 f A m = some (.inl ((), m')) → RM c m' → ∀ k', k' < k → PW (gZ L xs) k' 91 d 65 [some (.ref 8), z0, z1, z2] [] m' n' Q) (He : ∀ (z0 z1 z2 : Option Value) (m' : yM) (n' : Nat), B91_65 f A m = some (.inr (.inl ((), m'))) → RM c m' → ∀ k', k' ≤ k → PW (gZ L xs) k' 91 d 149 [some (.ref 8), z0, z1, z2] [] m' n' Q) (Hr : ∀ m', B91_65 f A m = some (.inr (.inr ((), m'))) → RM c m' → ∀ n', Q (.inl none) m' n') : PW (gZ L xs) k 91 d 65 [some (.ref 8), j1, j2, j3] [] m n Q := by
  have hX : B91_65 f A m = B91_65 f A m := rfl
  refine p_aload 66 c91_65 rfl rfl ?_
  refine p_getX 69 (m 8 5) c91_66 rfl kf8_5 rfl ?_
  refine p_iconst 72 c91_69 rfl ?_
  refine p_icmp 149 75 c91_72 rfl rfl ((yc_ge (hR.rg _ _) (rgD rfl)).trans Int.not_lt.symm) (fun hb2227 k2228 hk2228 => ?_) (fun hb2227 k2229 hk2229 => ?_)
  · have hX2230 := hX.trans (if_neg hb2227)
    exact He _ _ _ _ _ hX2230 hR _ (by omega)
  · have hX2231 := hX.trans (if_pos (Classical.not_not.mp hb2227))
    refine p_aload 76 c91_75 rfl rfl ?_
    refine p_getX 79 (m 8 5) c91_76 rfl kf8_5 rfl ?_
    refine p_aload 80 c91_79 rfl rfl ?_
    refine p_getX 83 (m 8 6) c91_80 rfl kf8_6 rfl ?_
    refine p_icmp 149 86 c91_83 rfl rfl (yc_ne (hR.rg _ _) (hR.rg _ _)) (fun hb2232 k2233 hk2233 => ?_) (fun hb2232 k2234 hk2234 => ?_)
    · have hX2235 := hX2231.trans (if_neg hb2232)
      exact He _ _ _ _ _ hX2235 hR _ (by omega)
    · have hX2236 := hX2231.trans (if_pos (Classical.not_not.mp hb2232))
      refine p_iconst 87 c91_86 rfl ?_
      refine p_istore 88 c91_87 rfl rfl ?_
      refine PW.loop (K := k2234) (pce := 136) (fun (l : Int) ml => B91_88 f A l ml) (fun (l : Int) j => [some (.ref 8), j 1, some (yI l), j 3]) (fun (l : Int) => rg l) (RM c) (fun (r' : Unit) m' => RM c m' → ∀ n' : Nat, Q (.inl none) m' n') (fun k' hk' l j m' n' hl hI Hn' He' Hr' => tB91_88 (f := f) (by omega) hc hA hl hI (fun y0 y1 y2 m2 n2 e h0 hR2 => Hn' y0 (fun q => ([none, y1, none, y2] : List (Option Value)).getD q none) m2 n2 e h0 hR2) (fun y0 y1 y2 m2 n2 e h0 hR2 => He' y0 (fun q => ([none, y1, none, y2] : List (Option Value)).getD q none) m2 n2 e h0 hR2) (fun m2 e => Hr' () m2 e)) f k2234 (by omega) (Nat.le_refl _) 0 (fun q => ([some (.ref 8), j1, some (yI 0), j3] : xL).getD q none) _ _ (rgD rfl) hR (fun l2756 j2759 m2762 n2761 e2758 hl2757 hR2763 k2760 hk2760 => ?_) (fun r' m' e' => ?_)
      · have hX2764 := hX2236.trans (bL_l e2758)
        refine p_aload 137 c91_136 rfl rfl ?_
        refine p_dup 138 c91_137 rfl rfl ?_
        refine p_getX 141 (m2762 8 5) c91_138 rfl kf8_5 rfl ?_
        refine p_iconst 142 c91_141 rfl ?_
        refine p_iadd 143 c91_142 rfl ?_
        refine p_putI 146 c91_143 rfl kf8_5 ?_
        have hR2765 := hR2763.up 8 5 (v := wr ((m2762 8 5) + 1)) (nselD rfl) (rg_wr _)
        refine p_gotoD 65 c91_146 rfl (fun k2766 hk2766 => ?_)
        exact Hn _ _ _ _ _ hX2764 hR2765 _ (by omega)
      · exact Hr m' (hX2236.trans (bL_r e'))
def F91 (f : Nat) (A : Nat) (m : yM) : Option yM := (bU (F77 f (yup m 8 4 (pX A))) (fun m2209 => (if m2209 A 17 = (-1) then (some m2209) else (if 0 ≤ (m2209 A 17) ∧ (m2209 A 17) < ((10 : Nat) : Int) then (if 0 ≤ (F57 (A + 10 + (m2209 A 17).toNat) (yup m2209 71 (m2209 A 17).toNat 0)) ∧ (F57 (A + 10 + (m2209 A 17).toNat) (yup m2209 71 (m2209 A 17).toNat 0)) < ((48 : Nat) : Int) then (bL (yloop (fun (l : Unit) ml => B91_65 f A ml) f () (yup (yup (yup m2209 71 (m2209 A 17).toNat 0) (10 + (F57 (A + 10 + (m2209 A 17).toNat) (yup m2209 71 (m2209 A 17).toNat 0)).toNat) 0 0) 8 5 0)) (fun _ m2773 => (some m2773)) (fun _ mr => some mr)) else none) else none))))
set_option maxRecDepth 100000 in
theorem d91 {L : Nat} {xs : Nat → Int32} {k d n : Nat} {c : yS3} {f : Nat} {A : Nat} {m : yM} (hk : k ≤ f) (hA : (A = 256 ∨ A = 316)) (hR : RM c m) : PC (gZ L xs) k d 91 [.ref 8, .ref A] m n (qV (c.1, pX A, c.2.2) (F91 f A m)) := by
  have hX : F91 f A m = F91 f A m := rfl
  have Hr : ∀ m', F91 f A m = some m' → RM (c.1, pX A, c.2.2) m' → ∀ n' : Nat, (qV (c.1, pX A, c.2.2) (F91 f A m)) (.inl none) m' n' := fun m' e h n' => ⟨rfl, h, e⟩
  refine PC.mk [some (.ref 8), some (.ref A), none, none] kn91 rfl ?_
  refine p_aload 1 c91_0 rfl rfl ?_
  refine p_aload 2 c91_1 rfl rfl ?_
  refine p_put 5 (x := pX A) c91_2 rfl kf8_4 (pX_sv hA) ?_
  have hR2060 := RM.s8 hR (pX_01 A)
  refine p_aload 6 c91_5 rfl rfl ?_
  refine p_cV 9 [.ref 8] [] c91_6 rfl rfl rfl (fun k' hk' d' => d77 (f := f) (by omega) hR2060) (fun m2209 hF2205 hR2210 n2062 k2061 hk2061 => ?_)
  have hX2208 := hX.trans (bU_s hF2205)
  refine p_aload 10 c91_9 rfl rfl ?_
  refine p_getV 13 (.ref A) c91_10 rfl kf8_4 (pX_of hA hR2210.2.2.2.2.1 (rfl : ((c.1, pX A, c.2.2) : yS3).2.1 = pX A)) ?_
  refine p_getX 16 (m2209 A 17) c91_13 rfl (kP_17 hA) rfl ?_
  refine p_iconst 17 c91_16 rfl ?_
  refine p_icmp 21 20 c91_17 rfl rfl (yc_ne (hR2210.rg _ _) (rgD rfl)) (fun hb2211 k2212 hk2212 => ?_) (fun hb2211 k2213 hk2213 => ?_)
  · have hX2214 := hX2208.trans (if_neg hb2211)
    refine p_aload 22 c91_21 rfl rfl ?_
    refine p_getR 25 c91_22 rfl kf8_2 ?_
    refine p_aload 26 c91_25 rfl rfl ?_
    refine p_getV 29 (.ref A) c91_26 rfl kf8_4 (pX_of hA hR2210.2.2.2.2.1 (rfl : ((c.1, pX A, c.2.2) : yS3).2.1 = pX A)) ?_
    refine p_getX 32 (m2209 A 17) c91_29 rfl (kP_17 hA) rfl ?_
    refine p_iconst 33 c91_32 rfl ?_
    refine p_iaS 34 c91_33 rfl ka71 (hR2210.rg _ _) 0 (nar0 (rgD rfl)) (fun hx2215 => ?_)
    have hR2216 := hR2210.up 71 (m2209 A 17).toNat (v := 0) (nselA (by decide)) (rgD rfl)
    refine p_aload 35 c91_34 rfl rfl ?_
    refine p_getR 38 c91_35 rfl kf8_0 ?_
    refine p_aload 39 c91_38 rfl rfl ?_
    refine p_getV 42 (.ref A) c91_39 rfl kf8_4 (pX_of hA hR2216.2.2.2.2.1 (rfl : ((c.1, pX A, c.2.2) : yS3).2.1 = pX A)) ?_
    refine p_getR 45 c91_42 rfl (kP_5 hA) ?_
    refine p_aload 46 c91_45 rfl rfl ?_
    refine p_getV 49 (.ref A) c91_46 rfl kf8_4 (pX_of hA hR2216.2.2.2.2.1 (rfl : ((c.1, pX A, c.2.2) : yS3).2.1 = pX A)) ?_
    refine p_getX 52 (m2209 A 17) c91_49 rfl (kP_17 hA) (yup_na (by omega)) ?_
    refine p_aaX 53 c91_52 rfl (kPr_6 hA) (hR2210.rg _ _) (fun hx2217 => ?_)
    have hX2218 := hX2214.trans (if_pos hx2217)
    refine p_cX 56 [.ref (A + 10 + (m2209 A 17).toNat)] [.ref 9] c91_53 rfl rfl rfl (fun k' hk' d' => d57 (kMr hA hx2217) hR2216) (fun hg2221 n2220 k2219 hk2219 => ?_)
    refine p_aaX 57 c91_56 rfl kr9 hg2221 (fun hx2222 => ?_)
    have hX2223 := hX2218.trans (if_pos hx2222)
    refine p_iconst 58 c91_57 rfl ?_
    refine p_iconst 59 c91_58 rfl ?_
    refine p_iaS 60 c91_59 rfl (kR9 hx2222) (rgD rfl) 0 (nar0 (rgD rfl)) (fun hx2224 => ?_)
    have hR2225 := hR2216.up (10 + (F57 (A + 10 + (m2209 A 17).toNat) (yup m2209 71 (m2209 A 17).toNat 0)).toNat) 0 (v := 0) (nselA (by omega)) (rgD rfl)
    refine p_aload 61 c91_60 rfl rfl ?_
    refine p_iconst 62 c91_61 rfl ?_
    refine p_putI 65 c91_62 rfl kf8_5 ?_
    have hR2226 := hR2225.up 8 5 (v := 0) (nselD rfl) (rgD rfl)
    refine PW.loop (K := k2219) (pce := 149) (fun (l : Unit) ml => B91_65 f A ml) (fun (l : Unit) j => [some (.ref 8), j 1, j 2, j 3]) (fun (l : Unit) => True) (RM ((c.1, pX A, c.2.2))) (fun (r' : Unit) m' => RM ((c.1, pX A, c.2.2)) m' → ∀ n' : Nat, (qV (c.1, pX A, c.2.2) (F91 f A m)) (.inl none) m' n') (fun k' hk' l j m' n' hl hI Hn' He' Hr' => tB91_65 (f := f) (by omega) (rfl : ((c.1, pX A, c.2.2) : yS3).2.1 = pX A) hA hI (fun y0 y1 y2 m2 n2 e  hR2 => Hn' () (fun q => ([none, y0, y1, y2] : List (Option Value)).getD q none) m2 n2 e trivial hR2) (fun y0 y1 y2 m2 n2 e  hR2 => He' () (fun q => ([none, y0, y1, y2] : List (Option Value)).getD q none) m2 n2 e trivial hR2) (fun m2 e => Hr' () m2 e)) f k2219 (by omega) (Nat.le_refl _) () (fun q => ([some (.ref 8), some (.ref A), none, none] : xL).getD q none) _ _ trivial hR2226 (fun l2767 j2770 m2773 n2772 e2769 hl2768 hR2774 k2771 hk2771 => ?_) (fun r' m' e' => ?_)
    · have hX2775 := hX2223.trans (bL_l e2769)
      exact p_return c91_149 (Hr _ hX2775 hR2774 _)
    · exact Hr m' (hX2223.trans (bL_r e'))
  · have hX2776 := hX2208.trans (if_pos (Classical.not_not.mp hb2211))
    exact p_return c91_20 (Hr _ hX2776 hR2210 _)
def B92_2 (f : Nat) (x1 : Int) (m : yM) : Option ((Int × yM) ⊕ ((Int × yM) ⊕ (Unit × yM))) := (if x1 < 48 then (if 0 ≤ x1 ∧ x1 < ((48 : Nat) : Int) then (bU (F75_12 f (171 + (x1).toNat) 0 m) (fun m2798 => (some (.inl ((wr (x1 + 1)), m2798))))) else none) else (some (.inr (.inl (x1, m)))))
set_option maxRecDepth 100000 in
theorem tB92_2 {L : Nat} {xs : Nat → Int32} {Q : xO → yM → Nat → Prop} {k d n : Nat} {c : yS3} {f : Nat} {x1 : Int} {m : yM} (hk : k ≤ f) (gx1 : rg x1) (hR : RM c m) (Hn : ∀ (y0 : Int) (m' : yM) (n' : Nat), B92_2 f x1 m = some (.inl (y0, m')) → rg y0 → RM c m' → ∀ k', k' < k → PW (gZ L xs) k' 92 d 2 [some (.ref 169), some (yI y0)] [] m' n' Q) (He : ∀ (y0 : Int) (m' : yM) (n' : Nat), B92_2 f x1 m = some (.inr (.inl (y0, m'))) → rg y0 → RM c m' → ∀ k', k' ≤ k → PW (gZ L xs) k' 92 d 24 [some (.ref 169), some (yI y0)] [] m' n' Q) (Hr : ∀ m', B92_2 f x1 m = some (.inr (.inr ((), m'))) → RM c m' → ∀ n', Q (.inl none) m' n') : PW (gZ L xs) k 92 d 2 [some (.ref 169), some (yI x1)] [] m n Q := by
  have hX : B92_2 f x1 m = B92_2 f x1 m := rfl
  refine p_iload 3 c92_2 rfl rfl ?_
  refine p_iconst 5 c92_3 rfl ?_
  refine p_icmp 24 8 c92_5 rfl rfl ((yc_ge gx1 (rgD rfl)).trans Int.not_lt.symm) (fun hb2785 k2786 hk2786 => ?_) (fun hb2785 k2787 hk2787 => ?_)
  · have hX2788 := hX.trans (if_neg hb2785)
    exact He _ _ _ hX2788 gx1 hR _ (by omega)
  · have hX2789 := hX.trans (if_pos (Classical.not_not.mp hb2785))
    refine p_aload 9 c92_8 rfl rfl ?_
    refine p_getR 12 c92_9 rfl kf169_0 ?_
    refine p_iload 13 c92_12 rfl rfl ?_
    refine p_aaX 14 c92_13 rfl kr170 gx1 (fun hx2790 => ?_)
    have hX2791 := hX2789.trans (if_pos hx2790)
    refine p_iconst 15 c92_14 rfl ?_
    refine p_cV 18 [.ref (171 + (x1).toNat), yI 0] [] c92_15 rfl rfl rfl (fun k' hk' d' => d75_12 (f := f) (by omega) (kR170 hx2790) (by omega) (rgD rfl) hR) (fun m2798 hF2794 hR2799 n2793 k2792 hk2792 => ?_)
    have hX2797 := hX2791.trans (bU_s hF2794)
    refine p_iinc 21 c92_18 rfl rfl rfl ?_
    refine p_gotoD 2 c92_21 rfl (fun k2800 hk2800 => ?_)
    exact Hn _ _ _ hX2797 (rg_wr _) hR2799 _ (by omega)
def F92 (f : Nat) (m : yM) : Option yM := (bL (yloop (fun (l : Int) ml => B92_2 f l ml) f 0 m) (fun l2801 m2807 => (some m2807)) (fun _ mr => some mr))
set_option maxRecDepth 100000 in
theorem d92 {L : Nat} {xs : Nat → Int32} {k d n : Nat} {c : yS3} {f : Nat} {m : yM} (hk : k ≤ f) (hR : RM c m) : PC (gZ L xs) k d 92 [.ref 169] m n (qV c (F92 f m)) := by
  have hX : F92 f m = F92 f m := rfl
  have Hr : ∀ m', F92 f m = some m' → RM c m' → ∀ n' : Nat, (qV c (F92 f m)) (.inl none) m' n' := fun m' e h n' => ⟨rfl, h, e⟩
  refine PC.mk [some (.ref 169), none] kn92 rfl ?_
  refine p_iconst 1 c92_0 rfl ?_
  refine p_istore 2 c92_1 rfl rfl ?_
  refine PW.loop (K := k) (pce := 24) (fun (l : Int) ml => B92_2 f l ml) (fun (l : Int) j => [some (.ref 169), some (yI l)]) (fun (l : Int) => rg l) (RM c) (fun (r' : Unit) m' => RM c m' → ∀ n' : Nat, (qV c (F92 f m)) (.inl none) m' n') (fun k' hk' l j m' n' hl hI Hn' He' Hr' => tB92_2 (f := f) (by omega) hl hI (fun y0 m2 n2 e h0 hR2 => Hn' y0 (fun q => ([none, none] : List (Option Value)).getD q none) m2 n2 e h0 hR2) (fun y0 m2 n2 e h0 hR2 => He' y0 (fun q => ([none, none] : List (Option Value)).getD q none) m2 n2 e h0 hR2) (fun m2 e => Hr' () m2 e)) f k (by omega) (Nat.le_refl _) 0 (fun q => ([some (.ref 169), some (yI 0)] : xL).getD q none) _ _ (rgD rfl) hR (fun l2801 j2804 m2807 n2806 e2803 hl2802 hR2808 k2805 hk2805 => ?_) (fun r' m' e' => ?_)
  · have hX2809 := hX.trans (bL_l e2803)
    exact p_return c92_24 (Hr _ hX2809 hR2808 _)
  · exact Hr m' (hX.trans (bL_r e'))
def J93_43 (f : Nat) (A : Nat) (x1 : Int) (x2 : Int) (x3 : Int) : Option ((Int × Int) ⊕ ((Int × Int) ⊕ Int)) := (some (.inl (x1, wr (x3 + 1))))
set_option maxRecDepth 100000 in
theorem tJ93_43 {L : Nat} {xs : Nat → Int32} {Q : xO → yM → Nat → Prop} {k d n : Nat} {c : yS3} {f : Nat} {A : Nat} {x1 : Int} {x2 : Int} {x3 : Int} {m : yM} (hk : k ≤ f) (hc : c.2.1 = pX A) (hA : (A = 256 ∨ A = 316)) (gx1 : rg x1) (gx2 : rg x2) (gx3 : rg x3) (hR : RM c m) (Hn : ∀ (y0 y1 : Int) (n' : Nat), J93_43 f A x1 x2 x3 = some (.inl (y0, y1)) → rg y0 → rg y1 → ∀ k', k' < k → PW (gZ L xs) k' 93 d 17 [some (.ref 8), some (yI y0), some (yI x2), some (yI y1)] [] m n' Q) (He : ∀ (y0 y1 : Int) (n' : Nat), J93_43 f A x1 x2 x3 = some (.inr (.inl (y0, y1))) → rg y0 → rg y1 → ∀ k', k' ≤ k → PW (gZ L xs) k' 93 d 49 [some (.ref 8), some (yI y0), some (yI x2), some (yI y1)] [] m n' Q) (Hr : ∀ r, J93_43 f A x1 x2 x3 = some (.inr (.inr r)) → rg r → ∀ n', Q (.inl (some (yI r))) m n') : PW (gZ L xs) k 93 d 43 [some (.ref 8), some (yI x1), some (yI x2), some (yI x3)] [] m n Q := by
  have hX : J93_43 f A x1 x2 x3 = J93_43 f A x1 x2 x3 := rfl
  refine p_iinc 46 c93_43 rfl rfl rfl ?_
  refine p_gotoD 17 c93_46 rfl (fun k2835 hk2835 => ?_)
  exact Hn _ _ _ hX gx1 (rg_wr _) _ (by omega)
def B93_17 (f : Nat) (A : Nat) (x2 : Int) (x1 : Int) (x3 : Int) (m : yM) : Option ((Int × Int) ⊕ ((Int × Int) ⊕ Int)) := (if x3 < m A 14 then (if 0 ≤ x2 ∧ x2 < ((48 : Nat) : Int) then (if m (10 + (x2).toNat) x3.toNat = (-1) then (J93_43 f A x1 x2 x3) else (J93_43 f A (wr (x1 + 1)) x2 x3)) else none) else (some (.inr (.inl (x1, x3)))))
set_option maxRecDepth 100000 in
theorem tB93_17 {L : Nat} {xs : Nat → Int32} {Q : xO → yM → Nat → Prop} {k d n : Nat} {c : yS3} {f : Nat} {A : Nat} {x2 : Int} {x1 : Int} {x3 : Int} {m : yM} (hk : k ≤ f) (hc : c.2.1 = pX A) (hA : (A = 256 ∨ A = 316)) (gx2 : rg x2) (gx1 : rg x1) (gx3 : rg x3) (hR : RM c m) (Hn : ∀ (y0 y1 : Int) (n' : Nat), B93_17 f A x2 x1 x3 m = some (.inl (y0, y1)) → rg y0 → rg y1 → ∀ k', k' < k → PW (gZ L xs) k' 93 d 17 [some (.ref 8), some (yI y0), some (yI x2), some (yI y1)] [] m n' Q) (He : ∀ (y0 y1 : Int) (n' : Nat), B93_17 f A x2 x1 x3 m = some (.inr (.inl (y0, y1))) → rg y0 → rg y1 → ∀ k', k' ≤ k → PW (gZ L xs) k' 93 d 49 [some (.ref 8), some (yI y0), some (yI x2), some (yI y1)] [] m n' Q) (Hr : ∀ r, B93_17 f A x2 x1 x3 m = some (.inr (.inr r)) → rg r → ∀ n', Q (.inl (some (yI r))) m n') : PW (gZ L xs) k 93 d 17 [some (.ref 8), some (yI x1), some (yI x2), some (yI x3)] [] m n Q := by
  have hX : B93_17 f A x2 x1 x3 m = B93_17 f A x2 x1 x3 m := rfl
  refine p_iload 18 c93_17 rfl rfl ?_
  refine p_aload 19 c93_18 rfl rfl ?_
  refine p_getV 22 (.ref A) c93_19 rfl kf8_4 (pX_of hA hR.2.2.2.2.1 hc) ?_
  refine p_getX 25 (m A 14) c93_22 rfl (kP_14 hA) rfl ?_
  refine p_icmp 49 28 c93_25 rfl rfl ((yc_ge gx3 (hR.rg _ _)).trans Int.not_lt.symm) (fun hb2823 k2824 hk2824 => ?_) (fun hb2823 k2825 hk2825 => ?_)
  · have hX2826 := hX.trans (if_neg hb2823)
    exact He _ _ _ hX2826 gx1 gx3 _ (by omega)
  · have hX2827 := hX.trans (if_pos (Classical.not_not.mp hb2823))
    refine p_aload 29 c93_28 rfl rfl ?_
    refine p_getR 32 c93_29 rfl kf8_0 ?_
    refine p_iload 33 c93_32 rfl rfl ?_
    refine p_aaX 34 c93_33 rfl kr9 gx2 (fun hx2828 => ?_)
    have hX2829 := hX2827.trans (if_pos hx2828)
    refine p_iload 35 c93_34 rfl rfl ?_
    refine p_iaX 36 (m (10 + (x2).toNat) x3.toNat) c93_35 rfl (kR9 hx2828) gx3 rfl (fun hx2830 => ?_)
    refine p_iconst 37 c93_36 rfl ?_
    refine p_icmp 43 40 c93_37 rfl rfl (yc_eq (hR.rg _ _) (rgD rfl)) (fun hb2831 k2832 hk2832 => ?_) (fun hb2831 k2833 hk2833 => ?_)
    · have hX2834 := hX2829.trans (if_pos hb2831)
      exact tJ93_43 (f := f) (by omega) hc hA gx1 gx2 gx3 hR (fun y0 y1 n' e' h0 h1 k' hk' => Hn y0 y1 n' (hX2834.trans e') h0 h1 k' (by omega)) (fun y0 y1 n' e' h0 h1 k' hk' => He y0 y1 n' (hX2834.trans e') h0 h1 k' (by omega)) (fun r' e' => Hr r' (hX2834.trans e'))
    · have hX2836 := hX2829.trans (if_neg hb2831)
      refine p_iinc 43 c93_40 rfl rfl rfl ?_
      exact tJ93_43 (f := f) (by omega) hc hA (rg_wr _) gx2 gx3 hR (fun y0 y1 n' e' h0 h1 k' hk' => Hn y0 y1 n' (hX2836.trans e') h0 h1 k' (by omega)) (fun y0 y1 n' e' h0 h1 k' hk' => He y0 y1 n' (hX2836.trans e') h0 h1 k' (by omega)) (fun r' e' => Hr r' (hX2836.trans e'))
def B93_4 (f : Nat) (A : Nat) (x1 : Int) (x2 : Int) (m : yM) : Option ((Int × Int) ⊕ ((Int × Int) ⊕ Int)) := (if x2 < m A 15 then (bQ (ploop (fun (l : Int × Int) => B93_17 f A x2 l.1 l.2 m) f (x1, 0)) (fun l2837 => (some (.inl (l2837.1, wr (x2 + 1))))) (fun r => some (.inr (.inr r)))) else (some (.inr (.inl (x1, x2)))))
set_option maxRecDepth 100000 in
theorem tB93_4 {L : Nat} {xs : Nat → Int32} {Q : xO → yM → Nat → Prop} {k d n : Nat} {c : yS3} {f : Nat} {A : Nat} {x1 : Int} {x2 : Int} {m : yM} {j3 : Option Value} (hk : k ≤ f) (hc : c.2.1 = pX A) (hA : (A = 256 ∨ A = 316)) (gx1 : rg x1) (gx2 : rg x2) (hR : RM c m) (Hn : ∀ (y0 y1 : Int) (z0 : Option Value) (n' : Nat), B93_4 f A x1 x2 m = some (.inl (y0, y1)) → rg y0 → rg y1 → ∀ k', k' < k → PW (gZ L xs) k' 93 d 4 [some (.ref 8), some (yI y0), some (yI y1), z0] [] m n' Q) (He : ∀ (y0 y1 : Int) (z0 : Option Value) (n' : Nat), B93_4 f A x1 x2 m = some (.inr (.inl (y0, y1))) → rg y0 → rg y1 → ∀ k', k' ≤ k → PW (gZ L xs) k' 93 d 55 [some (.ref 8), some (yI y0), some (yI y1), z0] [] m n' Q) (Hr : ∀ r, B93_4 f A x1 x2 m = some (.inr (.inr r)) → rg r → ∀ n', Q (.inl (some (yI r))) m n') : PW (gZ L xs) k 93 d 4 [some (.ref 8), some (yI x1), some (yI x2), j3] [] m n Q := by
  have hX : B93_4 f A x1 x2 m = B93_4 f A x1 x2 m := rfl
  refine p_iload 5 c93_4 rfl rfl ?_
  refine p_aload 6 c93_5 rfl rfl ?_
  refine p_getV 9 (.ref A) c93_6 rfl kf8_4 (pX_of hA hR.2.2.2.2.1 hc) ?_
  refine p_getX 12 (m A 15) c93_9 rfl (kP_15 hA) rfl ?_
  refine p_icmp 55 15 c93_12 rfl rfl ((yc_ge gx2 (hR.rg _ _)).trans Int.not_lt.symm) (fun hb2818 k2819 hk2819 => ?_) (fun hb2818 k2820 hk2820 => ?_)
  · have hX2821 := hX.trans (if_neg hb2818)
    exact He _ _ _ _ hX2821 gx1 gx2 _ (by omega)
  · have hX2822 := hX.trans (if_pos (Classical.not_not.mp hb2818))
    refine p_iconst 16 c93_15 rfl ?_
    refine p_istore 17 c93_16 rfl rfl ?_
    refine PW.ploop (K := k2820) (pce := 49) (fun (l : Int × Int) => B93_17 f A x2 l.1 l.2 m) (fun (l : Int × Int) j => [some (.ref 8), some (yI l.1), some (yI x2), some (yI l.2)]) (fun (l : Int × Int) => rg l.1 ∧ rg l.2) (fun r' => rg r' → ∀ n' : Nat, Q (.inl (some (yI r'))) m n') (fun k' hk' l j n' hl Hn' He' Hr' => tB93_17 (f := f) (by omega) hc hA gx2 hl.1 hl.2 hR (fun y0 y1 n2 e h0 h1 => Hn' (y0, y1) (fun q => ([none, none, none, none] : List (Option Value)).getD q none) n2 e ⟨h0, h1⟩) (fun y0 y1 n2 e h0 h1 => He' (y0, y1) (fun q => ([none, none, none, none] : List (Option Value)).getD q none) n2 e ⟨h0, h1⟩) Hr') f k2820 (by omega) (Nat.le_refl _) (x1, 0) (fun q => ([some (.ref 8), some (yI x1), some (yI x2), some (yI 0)] : xL).getD q none) _ ⟨gx1, (rgD rfl)⟩ (fun l2837 j2840 n2842 e2839 hl2838 k2841 hk2841 => ?_) (fun r' e' => ?_)
    · have hX2843 := hX2822.trans (bQ_l e2839)
      refine p_iinc 52 c93_49 rfl rfl rfl ?_
      refine p_gotoD 4 c93_52 rfl (fun k2844 hk2844 => ?_)
      exact Hn _ _ _ _ hX2843 hl2838.1 (rg_wr _) _ (by omega)
    · exact Hr r' (hX2822.trans (bQ_r e'))
def F93 (f : Nat) (A : Nat) (m : yM) : Option Int := (bQ (ploop (fun (l : Int × Int) => B93_4 f A l.1 l.2 m) f (0, 0)) (fun l2845 => (some l2845.1)) (fun r => some r))
set_option maxRecDepth 100000 in
theorem d93 {L : Nat} {xs : Nat → Int32} {k d n : Nat} {c : yS3} {f : Nat} {A : Nat} {m : yM} (hk : k ≤ f) (hc : c.2.1 = pX A) (hA : (A = 256 ∨ A = 316)) (hR : RM c m) : PC (gZ L xs) k d 93 [.ref 8] m n (qO m (F93 f A m)) := by
  have hX : F93 f A m = F93 f A m := rfl
  have Hr : ∀ r, F93 f A m = some r → rg r → ∀ n' : Nat, (qO m (F93 f A m)) (.inl (some (yI r))) m n' := fun r e h n' => ⟨r, rfl, h, rfl, e⟩
  refine PC.mk [some (.ref 8), none, none, none] kn93 rfl ?_
  refine p_iconst 1 c93_0 rfl ?_
  refine p_istore 2 c93_1 rfl rfl ?_
  refine p_iconst 3 c93_2 rfl ?_
  refine p_istore 4 c93_3 rfl rfl ?_
  refine PW.ploop (K := k) (pce := 55) (fun (l : Int × Int) => B93_4 f A l.1 l.2 m) (fun (l : Int × Int) j => [some (.ref 8), some (yI l.1), some (yI l.2), j 3]) (fun (l : Int × Int) => rg l.1 ∧ rg l.2) (fun r' => rg r' → ∀ n' : Nat, (qO m (F93 f A m)) (.inl (some (yI r'))) m n') (fun k' hk' l j n' hl Hn' He' Hr' => tB93_4 (f := f) (by omega) hc hA hl.1 hl.2 hR (fun y0 y1 y2 n2 e h0 h1 => Hn' (y0, y1) (fun q => ([none, none, none, y2] : List (Option Value)).getD q none) n2 e ⟨h0, h1⟩) (fun y0 y1 y2 n2 e h0 h1 => He' (y0, y1) (fun q => ([none, none, none, y2] : List (Option Value)).getD q none) n2 e ⟨h0, h1⟩) Hr') f k (by omega) (Nat.le_refl _) (0, 0) (fun q => ([some (.ref 8), some (yI 0), some (yI 0), none] : xL).getD q none) _ ⟨(rgD rfl), (rgD rfl)⟩ (fun l2845 j2848 n2850 e2847 hl2846 k2849 hk2849 => ?_) (fun r' e' => ?_)
  · have hX2851 := hX.trans (bQ_l e2847)
    refine p_iload 56 c93_55 rfl rfl ?_
    exact p_ireturn c93_56 (Hr _ hX2851 hl2846.1 _)
  · exact Hr r' (hX.trans (bQ_r e'))
def F94 (f : Nat) (m : yM) : Option ((Int ⊕ Nat) × yM) := (bI (F74 f (m 0 6) (pA (m 0 5)) m) (fun r2047 m2049 => (if r2047 = (-1) then (bU (F91 f (pA (pX (pA (m2049 0 5)))) (yup (yup (yup m2049 0 7 r2047) 0 4 (pX (pA (m2049 0 5)))) 0 5 (pX (pA (m2049 0 4))))) (fun m2781 => (bU (F92 f m2781) (fun m2814 => (bP (F93 f (pA (pX (pA (m2049 0 5)))) m2814) (fun r2854 => (some (.inl r2854, m2814)))))))) else (some (.inr 9, yup m2049 0 7 r2047)))))
set_option maxRecDepth 100000 in
theorem d94 {L : Nat} {xs : Nat → Int32} {k d n : Nat} {c : yS3} {f : Nat} {m : yM} (hk : k ≤ f) (hR : RM c m) : PC (gZ L xs) k d 94 [.ref 0] m n (qEIe (fun e => e = 9) (F94 f m)) := by
  have hX : F94 f m = F94 f m := rfl
  have Hr : ∀ r m', F94 f m = some (.inl r, m') → rg r → (∃ c, RM c m') → ∀ n' : Nat, (qEIe (fun e => e = 9) (F94 f m)) (.inl (some (yI r))) m' n' := fun r m' e h1 h2 n' => Or.inl ⟨r, rfl, h1, h2, e⟩
  have Ht : ∀ e m', F94 f m = some (.inr e, m') → (fun e => e = 9) e → (∃ c, RM c m') → ∀ x n' : Nat, (qEIe (fun e => e = 9) (F94 f m)) (.inr (e, x)) m' n' := fun e m' e1 h1 h2 x n' => Or.inr ⟨e, x, rfl, h1, h2, e1⟩
  refine PC.mk [some (.ref 0), none] kn94 rfl ?_
  refine p_aload 1 c94_0 rfl rfl ?_
  refine p_aload 2 c94_1 rfl rfl ?_
  refine p_getR 5 c94_2 rfl kf0_1 ?_
  refine p_aload 6 c94_5 rfl rfl ?_
  refine p_getR 9 c94_6 rfl kf0_0 ?_
  refine p_aload 10 c94_9 rfl rfl ?_
  refine p_getX 13 (m 0 6) c94_10 rfl kf0_6 rfl ?_
  refine p_aload 14 c94_13 rfl rfl ?_
  refine p_getV 17 (.ref (pA (m 0 5))) c94_14 rfl kf0_5 (pA_sv2 hR.2.2.1 rfl) ?_
  refine p_cS 20 [.ref 2, .ref 1, yI (m 0 6), .ref (pA (m 0 5))] [.ref 0] c94_17 rfl rfl rfl (fun k' hk' d' => d74 (f := f) (by omega) (hR.rg _ _) (pA_is _) hR) (fun r2047 m2049 hF2045 hg2046 hR2050 n296 k295 hk295 => ?_)
  have hX2048 := hX.trans (bI_s hF2045)
  refine p_putI 23 c94_20 rfl kf0_7 ?_
  have hR2051 := hR2050.up 0 7 (v := r2047) (nselD rfl) hg2046
  refine p_aload 24 c94_23 rfl rfl ?_
  refine p_getX 27 r2047 c94_24 rfl kf0_7 (yup_eq _ _ _ _) ?_
  refine p_iconst 28 c94_27 rfl ?_
  refine p_icmp 39 31 c94_28 rfl rfl (yc_eq hg2046 (rgD rfl)) (fun hb2052 k2053 hk2053 => ?_) (fun hb2052 k2054 hk2054 => ?_)
  · have hX2055 := hX2048.trans (if_pos hb2052)
    refine p_aload 40 c94_39 rfl rfl ?_
    refine p_getV 43 (.ref (pA (m2049 0 4))) c94_40 rfl kf0_4 (pA_sv2 hR2051.2.1 (yup_nk (by decide))) ?_
    refine p_astore 44 c94_43 rfl rfl ?_
    refine p_aload 45 c94_44 rfl rfl ?_
    refine p_aload 46 c94_45 rfl rfl ?_
    refine p_getV 49 (.ref (pA (m2049 0 5))) c94_46 rfl kf0_5 (pA_sv2 hR2051.2.2.1 (yup_nk (by decide))) ?_
    refine p_put 52 (x := pX (pA (m2049 0 5))) c94_49 rfl kf0_4 (pX_sv (pA_is _)) ?_
    have hR2056 := RM.s04 hR2051 (pX_01 (pA (m2049 0 5)))
    refine p_aload 53 c94_52 rfl rfl ?_
    refine p_aload 54 c94_53 rfl rfl ?_
    refine p_put 57 (x := pX (pA (m2049 0 4))) c94_54 rfl kf0_5 (pX_sv (pA_is _)) ?_
    have hR2057 := RM.s05 hR2056 (pX_01 (pA (m2049 0 4)))
    refine p_aload 58 c94_57 rfl rfl ?_
    refine p_getR 61 c94_58 rfl kf0_2 ?_
    refine p_aload 62 c94_61 rfl rfl ?_
    refine p_getV 65 (.ref (pA (pX (pA (m2049 0 5))))) c94_62 rfl kf0_4 (pA_sv2 hR2057.2.1 ((yup_nk (by decide)).trans (yup_eq _ _ _ _))) ?_
    refine p_cV 68 [.ref 8, .ref (pA (pX (pA (m2049 0 5))))] [] c94_65 rfl rfl rfl (fun k' hk' d' => d91 (f := f) (by omega) (pA_is _) hR2057) (fun m2781 hF2777 hR2782 n2059 k2058 hk2058 => ?_)
    have hX2780 := hX2055.trans (bU_s hF2777)
    refine p_aload 69 c94_68 rfl rfl ?_
    refine p_getR 72 c94_69 rfl kf0_3 ?_
    refine p_cV 75 [.ref 169] [] c94_72 rfl rfl rfl (fun k' hk' d' => d92 (f := f) (by omega) hR2782) (fun m2814 hF2810 hR2815 n2784 k2783 hk2783 => ?_)
    have hX2813 := hX2780.trans (bU_s hF2810)
    refine p_aload 76 c94_75 rfl rfl ?_
    refine p_getR 79 c94_76 rfl kf0_2 ?_
    refine p_cO 82 [.ref 8] [] c94_79 rfl rfl rfl (fun k' hk' d' => d93 (f := f) (by omega) (rfl : ((((pX (pA (m 0 5)), c.2)).1, pX (pA (pX (pA (m2049 0 5)))), ((pX (pA (m 0 5)), c.2)).2.2) : yS3).2.1 = pX (pA (pX (pA (m2049 0 5))))) (pA_is _) hR2815) (fun r2854 hF2852 hg2853 n2817 k2816 hk2816 => ?_)
    have hX2855 := hX2813.trans (bP_s hF2852)
    exact p_ireturn c94_82 (Hr _ _ hX2855 hg2853 ⟨_, hR2815⟩ _)
  · have hX2856 := hX2048.trans (if_neg hb2052)
    exact p_throw c94_31 (fun x n' => Ht _ _ hX2856 rfl ⟨_, hR2051⟩ x n')
def F95 (f : Nat) (m : yM) : Option (Int × yM) := (bT (F94 f m) (fun r2859 m2861 => (some (0, yup m2861 413 0 ((i2l r2859).toInt)))) (fun e' m2861 => (if e' = 9 then (some (1, m2861)) else none)))
set_option maxRecDepth 100000 in
theorem d95 {L : Nat} {xs : Nat → Int32} {k d n : Nat} {c : yS3} {f : Nat} {m : yM} (hk : k ≤ f) (hR : RM c m) : PC (gZ L xs) k d 95 [.ref 0, .ref 413] m n (qSe (F95 f m)) := by
  have hX : F95 f m = F95 f m := rfl
  have Hr : ∀ r m', F95 f m = some (r, m') → rg r → (∃ c, RM c m') → ∀ n' : Nat, (qSe (F95 f m)) (.inl (some (yI r))) m' n' := fun r m' e h1 h2 n' => ⟨r, rfl, h1, h2, e⟩
  refine PC.mk [some (.ref 0), some (.ref 413), none] kn95 rfl ?_
  refine p_aload 1 c95_0 rfl rfl ?_
  refine p_iconst 2 c95_1 rfl ?_
  refine p_aload 3 c95_2 rfl rfl ?_
  refine p_cTIe 6 [.ref 0] [yI 0, .ref 413] c95_3 rfl rfl rfl (fun k' hk' d' => d94 (f := f) (by omega) hR) (fun r2859 m2861 c2867 hF2857 hg2858 hR2862 n294 k293 hk293 => ?_) (fun e' q2866 m2861 n' c2867 hF2857 hE2864 hR2865 => ?_)
  · have hX2860 := hX.trans (bT_l hF2857)
    refine p_i2l 7 c95_6 rfl ?_
    refine p_laS 8 c95_7 rfl kl413 (rgD rfl) (fun hx2868 => ?_)
    have hR2869 := hR2862.up 413 0 (v := (i2l r2859).toInt) (nselD rfl) (rg_i2l _)
    refine p_goto 14 c95_8 rfl ?_
    refine p_iconst 15 c95_14 rfl ?_
    exact p_ireturn c95_15 (Hr _ _ hX2860 (rgD rfl) ⟨_, hR2869⟩ _)
  · have hXe := hX.trans (bT_r hF2857)
    cases (show e' = 9 from hE2864)
    have hX2870 := hXe.trans (if_pos rfl)
    refine ⟨fun pq hpq k2871 hk2871 => ?_, fun hno => absurd (r_kh95_3_9.symm.trans hno) (by simp)⟩
    have hpp : pq = 11 := by have := r_kh95_3_9.symm.trans hpq; simpa using this.symm
    subst hpp
    refine p_astore 12 c95_11 rfl rfl ?_
    refine p_iconst 13 c95_12 rfl ?_
    exact p_ireturn c95_13 (Hr _ _ hX2870 (rgD rfl) ⟨_, hR2865⟩ _)
def F96 (m : yM) : Int := (wr (1 - (m 376 18)))
set_option maxRecDepth 100000 in
theorem d96 {L : Nat} {xs : Nat → Int32} {k d n : Nat} {c : yS3} {m : yM} (hR : RM c m) : PC (gZ L xs) k d 96 [.ref 376] m n (qX m (F96 m)) := by
  have hX : F96 m = F96 m := rfl
  have Hr : ∀ r, F96 m = r → rg r → ∀ n' : Nat, (qX m (F96 m)) (.inl (some (yI r))) m n' := fun r e h n' => by subst e; exact ⟨rfl, h, rfl⟩
  refine PC.mk [some (.ref 376)] kn96 rfl ?_
  refine p_iconst 1 c96_0 rfl ?_
  refine p_aload 2 c96_1 rfl rfl ?_
  refine p_getX 5 (m 376 18) c96_2 rfl kf376_18 rfl ?_
  refine p_isub 6 c96_5 rfl ?_
  exact p_ireturn c96_6 (Hr _ hX (rg_wr _) _)
def F97 (x0 : Int) : Int := (if x0 = 123 then 1 else (if x0 = 125 then 1 else (if x0 = 40 then 1 else (if x0 = 41 then 1 else (if x0 = 61 then 1 else (if x0 = 46 then 1 else (if x0 = 44 then 1 else (if x0 = 59 then 1 else (if x0 = 58 then 1 else 0)))))))))
set_option maxRecDepth 100000 in
theorem d97 {L : Nat} {xs : Nat → Int32} {k d n : Nat} {c : yS3} {x0 : Int} {m : yM} (gx0 : rg x0) (hR : RM c m) : PC (gZ L xs) k d 97 [yI x0] m n (qX m (F97 x0)) := by
  have hX : F97 x0 = F97 x0 := rfl
  have Hr : ∀ r, F97 x0 = r → rg r → ∀ n' : Nat, (qX m (F97 x0)) (.inl (some (yI r))) m n' := fun r e h n' => by subst e; exact ⟨rfl, h, rfl⟩
  refine PC.mk [some (yI x0)] kn97 rfl ?_
  refine p_iload 1 c97_0 rfl rfl ?_
  refine p_iconst 3 c97_1 rfl ?_
  refine p_icmp 54 6 c97_3 rfl rfl (yc_eq gx0 (rgD rfl)) (fun hb2938 k2939 hk2939 => ?_) (fun hb2938 k2940 hk2940 => ?_)
  · have hX2941 := hX.trans (if_pos hb2938)
    refine p_iconst 55 c97_54 rfl ?_
    refine p_goto 59 c97_55 rfl ?_
    exact p_ireturn c97_59 (Hr _ hX2941 (rgD rfl) _)
  · have hX2942 := hX.trans (if_neg hb2938)
    refine p_iload 7 c97_6 rfl rfl ?_
    refine p_iconst 9 c97_7 rfl ?_
    refine p_icmp 54 12 c97_9 rfl rfl (yc_eq gx0 (rgD rfl)) (fun hb2943 k2944 hk2944 => ?_) (fun hb2943 k2945 hk2945 => ?_)
    · have hX2946 := hX2942.trans (if_pos hb2943)
      refine p_iconst 55 c97_54 rfl ?_
      refine p_goto 59 c97_55 rfl ?_
      exact p_ireturn c97_59 (Hr _ hX2946 (rgD rfl) _)
    · have hX2947 := hX2942.trans (if_neg hb2943)
      refine p_iload 13 c97_12 rfl rfl ?_
      refine p_iconst 15 c97_13 rfl ?_
      refine p_icmp 54 18 c97_15 rfl rfl (yc_eq gx0 (rgD rfl)) (fun hb2948 k2949 hk2949 => ?_) (fun hb2948 k2950 hk2950 => ?_)
      · have hX2951 := hX2947.trans (if_pos hb2948)
        refine p_iconst 55 c97_54 rfl ?_
        refine p_goto 59 c97_55 rfl ?_
        exact p_ireturn c97_59 (Hr _ hX2951 (rgD rfl) _)
      · have hX2952 := hX2947.trans (if_neg hb2948)
        refine p_iload 19 c97_18 rfl rfl ?_
        refine p_iconst 21 c97_19 rfl ?_
        refine p_icmp 54 24 c97_21 rfl rfl (yc_eq gx0 (rgD rfl)) (fun hb2953 k2954 hk2954 => ?_) (fun hb2953 k2955 hk2955 => ?_)
        · have hX2956 := hX2952.trans (if_pos hb2953)
          refine p_iconst 55 c97_54 rfl ?_
          refine p_goto 59 c97_55 rfl ?_
          exact p_ireturn c97_59 (Hr _ hX2956 (rgD rfl) _)
        · have hX2957 := hX2952.trans (if_neg hb2953)
          refine p_iload 25 c97_24 rfl rfl ?_
          refine p_iconst 27 c97_25 rfl ?_
          refine p_icmp 54 30 c97_27 rfl rfl (yc_eq gx0 (rgD rfl)) (fun hb2958 k2959 hk2959 => ?_) (fun hb2958 k2960 hk2960 => ?_)
          · have hX2961 := hX2957.trans (if_pos hb2958)
            refine p_iconst 55 c97_54 rfl ?_
            refine p_goto 59 c97_55 rfl ?_
            exact p_ireturn c97_59 (Hr _ hX2961 (rgD rfl) _)
          · have hX2962 := hX2957.trans (if_neg hb2958)
            refine p_iload 31 c97_30 rfl rfl ?_
            refine p_iconst 33 c97_31 rfl ?_
            refine p_icmp 54 36 c97_33 rfl rfl (yc_eq gx0 (rgD rfl)) (fun hb2963 k2964 hk2964 => ?_) (fun hb2963 k2965 hk2965 => ?_)
            · have hX2966 := hX2962.trans (if_pos hb2963)
              refine p_iconst 55 c97_54 rfl ?_
              refine p_goto 59 c97_55 rfl ?_
              exact p_ireturn c97_59 (Hr _ hX2966 (rgD rfl) _)
            · have hX2967 := hX2962.trans (if_neg hb2963)
              refine p_iload 37 c97_36 rfl rfl ?_
              refine p_iconst 39 c97_37 rfl ?_
              refine p_icmp 54 42 c97_39 rfl rfl (yc_eq gx0 (rgD rfl)) (fun hb2968 k2969 hk2969 => ?_) (fun hb2968 k2970 hk2970 => ?_)
              · have hX2971 := hX2967.trans (if_pos hb2968)
                refine p_iconst 55 c97_54 rfl ?_
                refine p_goto 59 c97_55 rfl ?_
                exact p_ireturn c97_59 (Hr _ hX2971 (rgD rfl) _)
              · have hX2972 := hX2967.trans (if_neg hb2968)
                refine p_iload 43 c97_42 rfl rfl ?_
                refine p_iconst 45 c97_43 rfl ?_
                refine p_icmp 54 48 c97_45 rfl rfl (yc_eq gx0 (rgD rfl)) (fun hb2973 k2974 hk2974 => ?_) (fun hb2973 k2975 hk2975 => ?_)
                · have hX2976 := hX2972.trans (if_pos hb2973)
                  refine p_iconst 55 c97_54 rfl ?_
                  refine p_goto 59 c97_55 rfl ?_
                  exact p_ireturn c97_59 (Hr _ hX2976 (rgD rfl) _)
                · have hX2977 := hX2972.trans (if_neg hb2973)
                  refine p_iload 49 c97_48 rfl rfl ?_
                  refine p_iconst 51 c97_49 rfl ?_
                  refine p_icmp 58 54 c97_51 rfl rfl (yc_ne gx0 (rgD rfl)) (fun hb2978 k2979 hk2979 => ?_) (fun hb2978 k2980 hk2980 => ?_)
                  · have hX2981 := hX2977.trans (if_neg hb2978)
                    refine p_iconst 59 c97_58 rfl ?_
                    exact p_ireturn c97_59 (Hr _ hX2981 (rgD rfl) _)
                  · have hX2982 := hX2977.trans (if_pos (Classical.not_not.mp hb2978))
                    refine p_iconst 55 c97_54 rfl ?_
                    refine p_goto 59 c97_55 rfl ?_
                    exact p_ireturn c97_59 (Hr _ hX2982 (rgD rfl) _)
def F98 (x0 : Int) : Int := (F22 x0 97 122)
set_option maxRecDepth 100000 in
theorem d98 {L : Nat} {xs : Nat → Int32} {k d n : Nat} {c : yS3} {x0 : Int} {m : yM} (gx0 : rg x0) (hR : RM c m) : PC (gZ L xs) k d 98 [yI x0] m n (qX m (F98 x0)) := by
  have hX : F98 x0 = F98 x0 := rfl
  have Hr : ∀ r, F98 x0 = r → rg r → ∀ n' : Nat, (qX m (F98 x0)) (.inl (some (yI r))) m n' := fun r e h n' => by subst e; exact ⟨rfl, h, rfl⟩
  refine PC.mk [some (yI x0)] kn98 rfl ?_
  refine p_iload 1 c98_0 rfl rfl ?_
  refine p_iconst 3 c98_1 rfl ?_
  refine p_iconst 5 c98_3 rfl ?_
  refine p_cX 8 [yI x0, yI 97, yI 122] [] c98_5 rfl rfl rfl (fun k' hk' d' => d22 gx0 (rgD rfl) (rgD rfl) hR) (fun hg2995 n2994 k2993 hk2993 => ?_)
  exact p_ireturn c98_8 (Hr _ hX hg2995 _)
def B99_13 (f : Nat) (x1 : Int) (m : yM) : Option ((Int × yM) ⊕ ((Int × yM) ⊕ (Unit × yM))) := (if x1 < m 376 1 then (if m 377 x1.toNat = 32 then (some (.inl ((wr (x1 + 1)), m))) else (some (.inr (.inl (x1, m))))) else (some (.inr (.inl (x1, m)))))
set_option maxRecDepth 100000 in
theorem tB99_13 {L : Nat} {xs : Nat → Int32} {Q : xO → yM → Nat → Prop} {k d n : Nat} {c : yS3} {f : Nat} {x1 : Int} {m : yM} {j2 j3 : Option Value} (hk : k ≤ f) (gx1 : rg x1) (hR : RM c m) (Hn : ∀ (y0 : Int) (z0 z1 : Option Value) (m' : yM) (n' : Nat), B99_13 f x1 m = some (.inl (y0, m')) → rg y0 → RM c m' → ∀ k', k' < k → PW (gZ L xs) k' 99 d 13 [some (.ref 376), some (yI y0), z0, z1] [] m' n' Q) (He : ∀ (y0 : Int) (z0 z1 : Option Value) (m' : yM) (n' : Nat), B99_13 f x1 m = some (.inr (.inl (y0, m'))) → rg y0 → RM c m' → ∀ k', k' ≤ k → PW (gZ L xs) k' 99 d 38 [some (.ref 376), some (yI y0), z0, z1] [] m' n' Q) (Hr : ∀ m', B99_13 f x1 m = some (.inr (.inr ((), m'))) → RM c m' → ∀ n', Q (.inl none) m' n') : PW (gZ L xs) k 99 d 13 [some (.ref 376), some (yI x1), j2, j3] [] m n Q := by
  have hX : B99_13 f x1 m = B99_13 f x1 m := rfl
  refine p_iload 14 c99_13 rfl rfl ?_
  refine p_aload 15 c99_14 rfl rfl ?_
  refine p_getX 18 (m 376 1) c99_15 rfl kf376_1 rfl ?_
  refine p_icmp 38 21 c99_18 rfl rfl ((yc_ge gx1 (hR.rg _ _)).trans Int.not_lt.symm) (fun hb2909 k2910 hk2910 => ?_) (fun hb2909 k2911 hk2911 => ?_)
  · have hX2912 := hX.trans (if_neg hb2909)
    exact He _ _ _ _ _ hX2912 gx1 hR _ (by omega)
  · have hX2913 := hX.trans (if_pos (Classical.not_not.mp hb2909))
    refine p_aload 22 c99_21 rfl rfl ?_
    refine p_getR 25 c99_22 rfl kf376_0 ?_
    refine p_iload 26 c99_25 rfl rfl ?_
    refine p_iaX 27 (m 377 x1.toNat) c99_26 rfl ka377 gx1 rfl (fun hx2914 => ?_)
    refine p_iconst 29 c99_27 rfl ?_
    refine p_icmp 38 32 c99_29 rfl rfl (yc_ne (hR.rg _ _) (rgD rfl)) (fun hb2915 k2916 hk2916 => ?_) (fun hb2915 k2917 hk2917 => ?_)
    · have hX2918 := hX2913.trans (if_neg hb2915)
      exact He _ _ _ _ _ hX2918 gx1 hR _ (by omega)
    · have hX2919 := hX2913.trans (if_pos (Classical.not_not.mp hb2915))
      refine p_iinc 35 c99_32 rfl rfl rfl ?_
      refine p_gotoD 13 c99_35 rfl (fun k2920 hk2920 => ?_)
      exact Hn _ _ _ _ _ hX2919 (rg_wr _) hR _ (by omega)
def J99_156 (f : Nat) (x1 : Int) (x3 : Int) (m : yM) : Option (((Int × Int) × yM) ⊕ (((Int × Int) × yM) ⊕ (Unit × yM))) := (some (.inl ((wr (x1 + 1), wr (x3 + 1)), m)))
set_option maxRecDepth 100000 in
theorem tJ99_156 {L : Nat} {xs : Nat → Int32} {Q : xO → yM → Nat → Prop} {k d n : Nat} {c : yS3} {f : Nat} {x1 : Int} {x3 : Int} {m : yM} {j2 : Option Value} (hk : k ≤ f) (gx1 : rg x1) (gx3 : rg x3) (hR : RM c m) (Hn : ∀ (y0 y1 : Int) (z0 : Option Value) (m' : yM) (n' : Nat), J99_156 f x1 x3 m = some (.inl ((y0, y1), m')) → rg y0 → rg y1 → RM c m' → ∀ k', k' < k → PW (gZ L xs) k' 99 d 107 [some (.ref 376), some (yI y0), z0, some (yI y1)] [] m' n' Q) (He : ∀ (y0 y1 : Int) (z0 : Option Value) (m' : yM) (n' : Nat), J99_156 f x1 x3 m = some (.inr (.inl ((y0, y1), m'))) → rg y0 → rg y1 → RM c m' → ∀ k', k' ≤ k → PW (gZ L xs) k' 99 d 165 [some (.ref 376), some (yI y0), z0, some (yI y1)] [] m' n' Q) (Hr : ∀ m', J99_156 f x1 x3 m = some (.inr (.inr ((), m'))) → RM c m' → ∀ n', Q (.inl none) m' n') : PW (gZ L xs) k 99 d 156 [some (.ref 376), some (yI x1), j2, some (yI x3)] [] m n Q := by
  have hX : J99_156 f x1 x3 m = J99_156 f x1 x3 m := rfl
  refine p_iinc 159 c99_156 rfl rfl rfl ?_
  refine p_iinc 162 c99_159 rfl rfl rfl ?_
  refine p_gotoD 107 c99_162 rfl (fun k3020 hk3020 => ?_)
  exact Hn _ _ _ _ _ hX (rg_wr _) (rg_wr _) hR _ (by omega)
def B99_107 (f : Nat) (x1 : Int) (x3 : Int) (m : yM) : Option (((Int × Int) × yM) ⊕ (((Int × Int) × yM) ⊕ (Unit × yM))) := (if x1 < m 376 1 then (if F98 (m 377 x1.toNat) = 0 then (some (.inr (.inl ((x1, x3), m)))) else (if x3 < 6 then (J99_156 f x1 x3 (yup m 376 4 (wr ((wr ((wr ((wr (27 * (m 376 4))) + (m 377 x1.toNat))) - 97)) + 1)))) else (J99_156 f x1 x3 m))) else (some (.inr (.inl ((x1, x3), m)))))
set_option maxRecDepth 100000 in
theorem tB99_107 {L : Nat} {xs : Nat → Int32} {Q : xO → yM → Nat → Prop} {k d n : Nat} {c : yS3} {f : Nat} {x1 : Int} {x3 : Int} {m : yM} {j2 : Option Value} (hk : k ≤ f) (gx1 : rg x1) (gx3 : rg x3) (hR : RM c m) (Hn : ∀ (y0 y1 : Int) (z0 : Option Value) (m' : yM) (n' : Nat), B99_107 f x1 x3 m = some (.inl ((y0, y1), m')) → rg y0 → rg y1 → RM c m' → ∀ k', k' < k → PW (gZ L xs) k' 99 d 107 [some (.ref 376), some (yI y0), z0, some (yI y1)] [] m' n' Q) (He : ∀ (y0 y1 : Int) (z0 : Option Value) (m' : yM) (n' : Nat), B99_107 f x1 x3 m = some (.inr (.inl ((y0, y1), m'))) → rg y0 → rg y1 → RM c m' → ∀ k', k' ≤ k → PW (gZ L xs) k' 99 d 165 [some (.ref 376), some (yI y0), z0, some (yI y1)] [] m' n' Q) (Hr : ∀ m', B99_107 f x1 x3 m = some (.inr (.inr ((), m'))) → RM c m' → ∀ n', Q (.inl none) m' n') : PW (gZ L xs) k 99 d 107 [some (.ref 376), some (yI x1), j2, some (yI x3)] [] m n Q := by
  have hX : B99_107 f x1 x3 m = B99_107 f x1 x3 m := rfl
  refine p_iload 108 c99_107 rfl rfl ?_
  refine p_aload 109 c99_108 rfl rfl ?_
  refine p_getX 112 (m 376 1) c99_109 rfl kf376_1 rfl ?_
  refine p_icmp 165 115 c99_112 rfl rfl ((yc_ge gx1 (hR.rg _ _)).trans Int.not_lt.symm) (fun hb3002 k3003 hk3003 => ?_) (fun hb3002 k3004 hk3004 => ?_)
  · have hX3005 := hX.trans (if_neg hb3002)
    exact He _ _ _ _ _ hX3005 gx1 gx3 hR _ (by omega)
  · have hX3006 := hX.trans (if_pos (Classical.not_not.mp hb3002))
    refine p_aload 116 c99_115 rfl rfl ?_
    refine p_getR 119 c99_116 rfl kf376_0 ?_
    refine p_iload 120 c99_119 rfl rfl ?_
    refine p_iaX 121 (m 377 x1.toNat) c99_120 rfl ka377 gx1 rfl (fun hx3007 => ?_)
    refine p_cX 124 [yI (m 377 x1.toNat)] [] c99_121 rfl rfl rfl (fun k' hk' d' => d98 (hR.rg _ _) hR) (fun hg3010 n3009 k3008 hk3008 => ?_)
    refine p_if 165 127 c99_124 rfl rfl (yz_eq hg3010) (fun hb3011 k3012 hk3012 => ?_) (fun hb3011 k3013 hk3013 => ?_)
    · have hX3014 := hX3006.trans (if_pos hb3011)
      exact He _ _ _ _ _ hX3014 gx1 gx3 hR _ (by omega)
    · have hX3015 := hX3006.trans (if_neg hb3011)
      refine p_iload 128 c99_127 rfl rfl ?_
      refine p_iconst 130 c99_128 rfl ?_
      refine p_icmp 156 133 c99_130 rfl rfl ((yc_ge gx3 (rgD rfl)).trans Int.not_lt.symm) (fun hb3016 k3017 hk3017 => ?_) (fun hb3016 k3018 hk3018 => ?_)
      · have hX3019 := hX3015.trans (if_neg hb3016)
        exact tJ99_156 (f := f) (by omega) gx1 gx3 hR (fun y0 y1 y2 m' n' e' h0 h1 hR' k' hk' => Hn y0 y1 y2 m' n' (hX3019.trans e') h0 h1 hR' k' (by omega)) (fun y0 y1 y2 m' n' e' h0 h1 hR' k' hk' => He y0 y1 y2 m' n' (hX3019.trans e') h0 h1 hR' k' (by omega)) (fun m' e' => Hr m' (hX3019.trans e'))
      · have hX3021 := hX3015.trans (if_pos (Classical.not_not.mp hb3016))
        refine p_aload 134 c99_133 rfl rfl ?_
        refine p_iconst 136 c99_134 rfl ?_
        refine p_aload 137 c99_136 rfl rfl ?_
        refine p_getX 140 (m 376 4) c99_137 rfl kf376_4 rfl ?_
        refine p_imul 141 c99_140 rfl ?_
        refine p_aload 142 c99_141 rfl rfl ?_
        refine p_getR 145 c99_142 rfl kf376_0 ?_
        refine p_iload 146 c99_145 rfl rfl ?_
        refine p_iaX 147 (m 377 x1.toNat) c99_146 rfl ka377 gx1 rfl (fun hx3022 => ?_)
        refine p_iadd 148 c99_147 rfl ?_
        refine p_iconst 150 c99_148 rfl ?_
        refine p_isub 151 c99_150 rfl ?_
        refine p_iconst 152 c99_151 rfl ?_
        refine p_iadd 153 c99_152 rfl ?_
        refine p_putI 156 c99_153 rfl kf376_4 ?_
        have hR3023 := hR.up 376 4 (v := wr ((wr ((wr ((wr (27 * (m 376 4))) + (m 377 x1.toNat))) - 97)) + 1)) (nselD rfl) (rg_wr _)
        exact tJ99_156 (f := f) (by omega) gx1 gx3 hR3023 (fun y0 y1 y2 m' n' e' h0 h1 hR' k' hk' => Hn y0 y1 y2 m' n' (hX3021.trans e') h0 h1 hR' k' (by omega)) (fun y0 y1 y2 m' n' e' h0 h1 hR' k' hk' => He y0 y1 y2 m' n' (hX3021.trans e') h0 h1 hR' k' (by omega)) (fun m' e' => Hr m' (hX3021.trans e'))
def J99_182 (f : Nat) (xs1 : Int) (m : yM) : Option yM := (some (yup m 376 3 xs1))
set_option maxRecDepth 100000 in
theorem tJ99_182 {L : Nat} {xs : Nat → Int32} {Q : xO → yM → Nat → Prop} {k d n : Nat} {c : yS3} {f : Nat} {xs1 : Int} {m : yM} {j0 j1 j2 j3 : Option Value} (hk : k ≤ f) (gxs1 : rg xs1) (hR : RM c m) (Hr : ∀ m', J99_182 f xs1 m = some m' → RM c m' → ∀ n', Q (.inl none) m' n') : PW (gZ L xs) k 99 d 182 [j0, j1, j2, j3] [yI xs1, .ref 376] m n Q := by
  have hX : J99_182 f xs1 m = J99_182 f xs1 m := rfl
  refine p_putI 185 c99_182 rfl kf376_3 ?_
  have hR3038 := hR.up 376 3 (v := xs1) (nselD rfl) gxs1
  exact p_return c99_185 (Hr _ hX hR3038 _)
def J99_165 (f : Nat) (x1 : Int) (x3 : Int) (m : yM) : Option yM := (if 6 < x3 then (J99_182 f 3 (yup m 376 6 x1)) else (J99_182 f 1 (yup m 376 6 x1)))
set_option maxRecDepth 100000 in
theorem tJ99_165 {L : Nat} {xs : Nat → Int32} {Q : xO → yM → Nat → Prop} {k d n : Nat} {c : yS3} {f : Nat} {x1 : Int} {x3 : Int} {m : yM} {j2 : Option Value} (hk : k ≤ f) (gx1 : rg x1) (gx3 : rg x3) (hR : RM c m) (Hr : ∀ m', J99_165 f x1 x3 m = some m' → RM c m' → ∀ n', Q (.inl none) m' n') : PW (gZ L xs) k 99 d 165 [some (.ref 376), some (yI x1), j2, some (yI x3)] [] m n Q := by
  have hX : J99_165 f x1 x3 m = J99_165 f x1 x3 m := rfl
  refine p_aload 166 c99_165 rfl rfl ?_
  refine p_iload 167 c99_166 rfl rfl ?_
  refine p_putI 170 c99_167 rfl kf376_6 ?_
  have hR3033 := hR.up 376 6 (v := x1) (nselD rfl) gx1
  refine p_aload 171 c99_170 rfl rfl ?_
  refine p_iload 172 c99_171 rfl rfl ?_
  refine p_iconst 174 c99_172 rfl ?_
  refine p_icmp 181 177 c99_174 rfl rfl ((yc_le gx3 (rgD rfl)).trans Int.not_lt.symm) (fun hb3034 k3035 hk3035 => ?_) (fun hb3034 k3036 hk3036 => ?_)
  · have hX3037 := hX.trans (if_neg hb3034)
    refine p_iconst 182 c99_181 rfl ?_
    exact tJ99_182 (f := f) (by omega) (rgD rfl) hR3033 (fun m' e' => Hr m' (hX3037.trans e'))
  · have hX3039 := hX.trans (if_pos (Classical.not_not.mp hb3034))
    refine p_iconst 178 c99_177 rfl ?_
    refine p_goto 182 c99_178 rfl ?_
    exact tJ99_182 (f := f) (by omega) (rgD rfl) hR3033 (fun m' e' => Hr m' (hX3039.trans e'))
def J99_77 (f : Nat) (x1 : Int) (x2 : Int) (xs1 : Int) (m : yM) : Option yM := (if F98 x2 = 0 then (some (yup (yup (yup m 376 3 xs1) 376 4 x2) 376 6 (wr (x1 + 1)))) else (bL (yloop (fun (l : Int × Int) ml => B99_107 f l.1 l.2 ml) f (x1, 0) (yup (yup (yup (yup m 376 3 xs1) 376 4 x2) 376 6 (wr (x1 + 1))) 376 4 0)) (fun l3024 m3030 => (J99_165 f l3024.1 l3024.2 m3030)) (fun _ mr => some mr)))
set_option maxRecDepth 100000 in
theorem tJ99_77 {L : Nat} {xs : Nat → Int32} {Q : xO → yM → Nat → Prop} {k d n : Nat} {c : yS3} {f : Nat} {x1 : Int} {x2 : Int} {xs1 : Int} {m : yM} {j3 : Option Value} (hk : k ≤ f) (gx1 : rg x1) (gx2 : rg x2) (gxs1 : rg xs1) (hR : RM c m) (Hr : ∀ m', J99_77 f x1 x2 xs1 m = some m' → RM c m' → ∀ n', Q (.inl none) m' n') : PW (gZ L xs) k 99 d 77 [some (.ref 376), some (yI x1), some (yI x2), j3] [yI xs1, .ref 376] m n Q := by
  have hX : J99_77 f x1 x2 xs1 m = J99_77 f x1 x2 xs1 m := rfl
  refine p_putI 80 c99_77 rfl kf376_3 ?_
  have hR2988 := hR.up 376 3 (v := xs1) (nselD rfl) gxs1
  refine p_aload 81 c99_80 rfl rfl ?_
  refine p_iload 82 c99_81 rfl rfl ?_
  refine p_putI 85 c99_82 rfl kf376_4 ?_
  have hR2989 := hR2988.up 376 4 (v := x2) (nselD rfl) gx2
  refine p_aload 86 c99_85 rfl rfl ?_
  refine p_iload 87 c99_86 rfl rfl ?_
  refine p_iconst 88 c99_87 rfl ?_
  refine p_iadd 89 c99_88 rfl ?_
  refine p_putI 92 c99_89 rfl kf376_6 ?_
  have hR2990 := hR2989.up 376 6 (v := wr (x1 + 1)) (nselD rfl) (rg_wr _)
  refine p_iload 93 c99_92 rfl rfl ?_
  refine p_cX 96 [yI x2] [] c99_93 rfl rfl rfl (fun k' hk' d' => d98 gx2 hR2990) (fun hg2996 n2992 k2991 hk2991 => ?_)
  refine p_if 100 99 c99_96 rfl rfl (yz_ne hg2996) (fun hb2997 k2998 hk2998 => ?_) (fun hb2997 k2999 hk2999 => ?_)
  · have hX3000 := hX.trans (if_neg hb2997)
    refine p_aload 101 c99_100 rfl rfl ?_
    refine p_iconst 102 c99_101 rfl ?_
    refine p_putI 105 c99_102 rfl kf376_4 ?_
    have hR3001 := hR2990.up 376 4 (v := 0) (nselD rfl) (rgD rfl)
    refine p_iconst 106 c99_105 rfl ?_
    refine p_istore 107 c99_106 rfl rfl ?_
    refine PW.loop (K := k2998) (pce := 165) (fun (l : Int × Int) ml => B99_107 f l.1 l.2 ml) (fun (l : Int × Int) j => [some (.ref 376), some (yI l.1), j 2, some (yI l.2)]) (fun (l : Int × Int) => rg l.1 ∧ rg l.2) (RM c) (fun (r' : Unit) m' => RM c m' → ∀ n' : Nat, Q (.inl none) m' n') (fun k' hk' l j m' n' hl hI Hn' He' Hr' => tB99_107 (f := f) (by omega) hl.1 hl.2 hI (fun y0 y1 y2 m2 n2 e h0 h1 hR2 => Hn' (y0, y1) (fun q => ([none, none, y2, none] : List (Option Value)).getD q none) m2 n2 e ⟨h0, h1⟩ hR2) (fun y0 y1 y2 m2 n2 e h0 h1 hR2 => He' (y0, y1) (fun q => ([none, none, y2, none] : List (Option Value)).getD q none) m2 n2 e ⟨h0, h1⟩ hR2) (fun m2 e => Hr' () m2 e)) f k2998 (by omega) (Nat.le_refl _) (x1, 0) (fun q => ([some (.ref 376), some (yI x1), some (yI x2), some (yI 0)] : xL).getD q none) _ _ ⟨gx1, (rgD rfl)⟩ hR3001 (fun l3024 j3027 m3030 n3029 e3026 hl3025 hR3031 k3028 hk3028 => ?_) (fun r' m' e' => ?_)
    · have hX3032 := hX3000.trans (bL_l e3026)
      exact tJ99_165 (f := f) (by omega) hl3025.1 hl3025.2 hR3031 (fun m' e' => Hr m' (hX3032.trans e'))
    · exact Hr m' (hX3000.trans (bL_r e'))
  · have hX3040 := hX.trans (if_pos (Classical.not_not.mp hb2997))
    exact p_return c99_99 (Hr _ hX3040 hR2990 _)
def J99_38 (f : Nat) (x1 : Int) (m : yM) : Option yM := (if x1 = m 376 1 then (some (yup (yup m 376 5 x1) 376 3 0)) else (if F97 (m 377 x1.toNat) = 0 then (J99_77 f x1 (m 377 x1.toNat) 3 (yup m 376 5 x1)) else (J99_77 f x1 (m 377 x1.toNat) 2 (yup m 376 5 x1))))
set_option maxRecDepth 100000 in
theorem tJ99_38 {L : Nat} {xs : Nat → Int32} {Q : xO → yM → Nat → Prop} {k d n : Nat} {c : yS3} {f : Nat} {x1 : Int} {m : yM} {j2 j3 : Option Value} (hk : k ≤ f) (gx1 : rg x1) (hR : RM c m) (Hr : ∀ m', J99_38 f x1 m = some m' → RM c m' → ∀ n', Q (.inl none) m' n') : PW (gZ L xs) k 99 d 38 [some (.ref 376), some (yI x1), j2, j3] [] m n Q := by
  have hX : J99_38 f x1 m = J99_38 f x1 m := rfl
  refine p_aload 39 c99_38 rfl rfl ?_
  refine p_iload 40 c99_39 rfl rfl ?_
  refine p_putI 43 c99_40 rfl kf376_5 ?_
  have hR2930 := hR.up 376 5 (v := x1) (nselD rfl) gx1
  refine p_iload 44 c99_43 rfl rfl ?_
  refine p_aload 45 c99_44 rfl rfl ?_
  refine p_getX 48 (m 376 1) c99_45 rfl kf376_1 (yup_nk (by decide)) ?_
  refine p_icmp 57 51 c99_48 rfl rfl (yc_ne gx1 (hR.rg _ _)) (fun hb2931 k2932 hk2932 => ?_) (fun hb2931 k2933 hk2933 => ?_)
  · have hX2934 := hX.trans (if_neg hb2931)
    refine p_aload 58 c99_57 rfl rfl ?_
    refine p_getR 61 c99_58 rfl kf376_0 ?_
    refine p_iload 62 c99_61 rfl rfl ?_
    refine p_iaX 63 (m 377 x1.toNat) c99_62 rfl ka377 gx1 (yup_na (by decide)) (fun hx2935 => ?_)
    refine p_istore 64 c99_63 rfl rfl ?_
    refine p_aload 65 c99_64 rfl rfl ?_
    refine p_iload 66 c99_65 rfl rfl ?_
    refine p_cX 69 [yI (m 377 x1.toNat)] [.ref 376] c99_66 rfl rfl rfl (fun k' hk' d' => d97 (hR.rg _ _) hR2930) (fun hg2983 n2937 k2936 hk2936 => ?_)
    refine p_if 76 72 c99_69 rfl rfl (yz_eq hg2983) (fun hb2984 k2985 hk2985 => ?_) (fun hb2984 k2986 hk2986 => ?_)
    · have hX2987 := hX2934.trans (if_pos hb2984)
      refine p_iconst 77 c99_76 rfl ?_
      exact tJ99_77 (f := f) (by omega) gx1 (hR.rg _ _) (rgD rfl) hR2930 (fun m' e' => Hr m' (hX2987.trans e'))
    · have hX3041 := hX2934.trans (if_neg hb2984)
      refine p_iconst 73 c99_72 rfl ?_
      refine p_goto 77 c99_73 rfl ?_
      exact tJ99_77 (f := f) (by omega) gx1 (hR.rg _ _) (rgD rfl) hR2930 (fun m' e' => Hr m' (hX3041.trans e'))
  · have hX3042 := hX.trans (if_pos (Classical.not_not.mp hb2931))
    refine p_aload 52 c99_51 rfl rfl ?_
    refine p_iconst 53 c99_52 rfl ?_
    refine p_putI 56 c99_53 rfl kf376_3 ?_
    have hR3043 := hR2930.up 376 3 (v := 0) (nselD rfl) (rgD rfl)
    exact p_return c99_56 (Hr _ hX3042 hR3043 _)
def F99 (f : Nat) (m : yM) : Option yM := (bL (yloop (fun (l : Int) ml => B99_13 f l ml) f (m 376 6) (yup m 376 7 (m 376 6))) (fun l2921 m2927 => (J99_38 f l2921 m2927)) (fun _ mr => some mr))
set_option maxRecDepth 100000 in
theorem d99 {L : Nat} {xs : Nat → Int32} {k d n : Nat} {c : yS3} {f : Nat} {m : yM} (hk : k ≤ f) (hR : RM c m) : PC (gZ L xs) k d 99 [.ref 376] m n (qV c (F99 f m)) := by
  have hX : F99 f m = F99 f m := rfl
  have Hr : ∀ m', F99 f m = some m' → RM c m' → ∀ n' : Nat, (qV c (F99 f m)) (.inl none) m' n' := fun m' e h n' => ⟨rfl, h, e⟩
  refine PC.mk [some (.ref 376), none, none, none] kn99 rfl ?_
  refine p_aload 1 c99_0 rfl rfl ?_
  refine p_aload 2 c99_1 rfl rfl ?_
  refine p_getX 5 (m 376 6) c99_2 rfl kf376_6 rfl ?_
  refine p_putI 8 c99_5 rfl kf376_7 ?_
  have hR2908 := hR.up 376 7 (v := m 376 6) (nselD rfl) (hR.rg _ _)
  refine p_aload 9 c99_8 rfl rfl ?_
  refine p_getX 12 (m 376 6) c99_9 rfl kf376_6 (yup_nk (by decide)) ?_
  refine p_istore 13 c99_12 rfl rfl ?_
  refine PW.loop (K := k) (pce := 38) (fun (l : Int) ml => B99_13 f l ml) (fun (l : Int) j => [some (.ref 376), some (yI l), j 2, j 3]) (fun (l : Int) => rg l) (RM c) (fun (r' : Unit) m' => RM c m' → ∀ n' : Nat, (qV c (F99 f m)) (.inl none) m' n') (fun k' hk' l j m' n' hl hI Hn' He' Hr' => tB99_13 (f := f) (by omega) hl hI (fun y0 y1 y2 m2 n2 e h0 hR2 => Hn' y0 (fun q => ([none, none, y1, y2] : List (Option Value)).getD q none) m2 n2 e h0 hR2) (fun y0 y1 y2 m2 n2 e h0 hR2 => He' y0 (fun q => ([none, none, y1, y2] : List (Option Value)).getD q none) m2 n2 e h0 hR2) (fun m2 e => Hr' () m2 e)) f k (by omega) (Nat.le_refl _) (m 376 6) (fun q => ([some (.ref 376), some (yI (m 376 6)), none, none] : xL).getD q none) _ _ (hR.rg _ _) hR2908 (fun l2921 j2924 m2927 n2926 e2923 hl2922 hR2928 k2925 hk2925 => ?_) (fun r' m' e' => ?_)
  · have hX2929 := hX.trans (bL_l e2923)
    exact tJ99_38 (f := f) (by omega) hl2922 hR2928 (fun m' e' => Hr m' (hX2929.trans e'))
  · exact Hr m' (hX.trans (bL_r e'))
def F100 (x0 : Int) (x1 : Int) : Int := (if x1 = 0 then x0 else (wr ((wr ((wr ((wr (27 * x0)) + x1)) - 97)) + 1)))
set_option maxRecDepth 100000 in
theorem d100 {L : Nat} {xs : Nat → Int32} {k d n : Nat} {c : yS3} {x0 : Int} {x1 : Int} {m : yM} (gx0 : rg x0) (gx1 : rg x1) (hR : RM c m) : PC (gZ L xs) k d 100 [yI x0, yI x1] m n (qX m (F100 x0 x1)) := by
  have hX : F100 x0 x1 = F100 x0 x1 := rfl
  have Hr : ∀ r, F100 x0 x1 = r → rg r → ∀ n' : Nat, (qX m (F100 x0 x1)) (.inl (some (yI r))) m n' := fun r e h n' => by subst e; exact ⟨rfl, h, rfl⟩
  refine PC.mk [some (yI x0), some (yI x1)] kn100 rfl ?_
  refine p_iload 1 c100_0 rfl rfl ?_
  refine p_if 8 4 c100_1 rfl rfl (yz_ne gx1) (fun hb3063 k3064 hk3064 => ?_) (fun hb3063 k3065 hk3065 => ?_)
  · have hX3066 := hX.trans (if_neg hb3063)
    refine p_iconst 10 c100_8 rfl ?_
    refine p_iload 11 c100_10 rfl rfl ?_
    refine p_imul 12 c100_11 rfl ?_
    refine p_iload 13 c100_12 rfl rfl ?_
    refine p_iadd 14 c100_13 rfl ?_
    refine p_iconst 16 c100_14 rfl ?_
    refine p_isub 17 c100_16 rfl ?_
    refine p_iconst 18 c100_17 rfl ?_
    refine p_iadd 19 c100_18 rfl ?_
    exact p_ireturn c100_19 (Hr _ hX3066 (rg_wr _) _)
  · have hX3067 := hX.trans (if_pos (Classical.not_not.mp hb3063))
    refine p_iload 5 c100_4 rfl rfl ?_
    refine p_goto 19 c100_5 rfl ?_
    exact p_ireturn c100_19 (Hr _ hX3067 gx0 _)
def F101 (x0 : Int) (x1 : Int) (x2 : Int) (x3 : Int) (x4 : Int) (x5 : Int) : Int := (F100 (F100 (F100 (F100 (F100 (F100 0 x0) x1) x2) x3) x4) x5)
set_option maxRecDepth 100000 in
theorem d101 {L : Nat} {xs : Nat → Int32} {k d n : Nat} {c : yS3} {x0 : Int} {x1 : Int} {x2 : Int} {x3 : Int} {x4 : Int} {x5 : Int} {m : yM} (gx0 : rg x0) (gx1 : rg x1) (gx2 : rg x2) (gx3 : rg x3) (gx4 : rg x4) (gx5 : rg x5) (hR : RM c m) : PC (gZ L xs) k d 101 [yI x0, yI x1, yI x2, yI x3, yI x4, yI x5] m n (qX m (F101 x0 x1 x2 x3 x4 x5)) := by
  have hX : F101 x0 x1 x2 x3 x4 x5 = F101 x0 x1 x2 x3 x4 x5 := rfl
  have Hr : ∀ r, F101 x0 x1 x2 x3 x4 x5 = r → rg r → ∀ n' : Nat, (qX m (F101 x0 x1 x2 x3 x4 x5)) (.inl (some (yI r))) m n' := fun r e h n' => by subst e; exact ⟨rfl, h, rfl⟩
  refine PC.mk [some (yI x0), some (yI x1), some (yI x2), some (yI x3), some (yI x4), some (yI x5)] kn101 rfl ?_
  refine p_iconst 1 c101_0 rfl ?_
  refine p_iload 2 c101_1 rfl rfl ?_
  refine p_cX 5 [yI 0, yI x0] [] c101_2 rfl rfl rfl (fun k' hk' d' => d100 (rgD rfl) gx0 hR) (fun hg3068 n3062 k3061 hk3061 => ?_)
  refine p_iload 6 c101_5 rfl rfl ?_
  refine p_cX 9 [yI (F100 0 x0), yI x1] [] c101_6 rfl rfl rfl (fun k' hk' d' => d100 hg3068 gx1 hR) (fun hg3071 n3070 k3069 hk3069 => ?_)
  refine p_iload 10 c101_9 rfl rfl ?_
  refine p_cX 13 [yI (F100 (F100 0 x0) x1), yI x2] [] c101_10 rfl rfl rfl (fun k' hk' d' => d100 hg3071 gx2 hR) (fun hg3074 n3073 k3072 hk3072 => ?_)
  refine p_iload 14 c101_13 rfl rfl ?_
  refine p_cX 17 [yI (F100 (F100 (F100 0 x0) x1) x2), yI x3] [] c101_14 rfl rfl rfl (fun k' hk' d' => d100 hg3074 gx3 hR) (fun hg3077 n3076 k3075 hk3075 => ?_)
  refine p_iload 19 c101_17 rfl rfl ?_
  refine p_cX 22 [yI (F100 (F100 (F100 (F100 0 x0) x1) x2) x3), yI x4] [] c101_19 rfl rfl rfl (fun k' hk' d' => d100 hg3077 gx4 hR) (fun hg3080 n3079 k3078 hk3078 => ?_)
  refine p_iload 24 c101_22 rfl rfl ?_
  refine p_cX 27 [yI (F100 (F100 (F100 (F100 (F100 0 x0) x1) x2) x3) x4), yI x5] [] c101_24 rfl rfl rfl (fun k' hk' d' => d100 hg3080 gx5 hR) (fun hg3083 n3082 k3081 hk3081 => ?_)
  exact p_ireturn c101_27 (Hr _ hX hg3083 _)
def F102 (x1 : Int) (m : yM) : Int := (if m 376 3 = 1 then (if m 376 4 = x1 then 1 else 0) else 0)
set_option maxRecDepth 100000 in
theorem d102 {L : Nat} {xs : Nat → Int32} {k d n : Nat} {c : yS3} {x1 : Int} {m : yM} (gx1 : rg x1) (hR : RM c m) : PC (gZ L xs) k d 102 [.ref 376, yI x1] m n (qX m (F102 x1 m)) := by
  have hX : F102 x1 m = F102 x1 m := rfl
  have Hr : ∀ r, F102 x1 m = r → rg r → ∀ n' : Nat, (qX m (F102 x1 m)) (.inl (some (yI r))) m n' := fun r e h n' => by subst e; exact ⟨rfl, h, rfl⟩
  refine PC.mk [some (.ref 376), some (yI x1)] kn102 rfl ?_
  refine p_aload 1 c102_0 rfl rfl ?_
  refine p_getX 4 (m 376 3) c102_1 rfl kf376_3 rfl ?_
  refine p_iconst 5 c102_4 rfl ?_
  refine p_icmp 20 8 c102_5 rfl rfl (yc_ne (hR.rg _ _) (rgD rfl)) (fun hb3087 k3088 hk3088 => ?_) (fun hb3087 k3089 hk3089 => ?_)
  · have hX3090 := hX.trans (if_neg hb3087)
    refine p_iconst 21 c102_20 rfl ?_
    exact p_ireturn c102_21 (Hr _ hX3090 (rgD rfl) _)
  · have hX3091 := hX.trans (if_pos (Classical.not_not.mp hb3087))
    refine p_aload 9 c102_8 rfl rfl ?_
    refine p_getX 12 (m 376 4) c102_9 rfl kf376_4 rfl ?_
    refine p_iload 13 c102_12 rfl rfl ?_
    refine p_icmp 20 16 c102_13 rfl rfl (yc_ne (hR.rg _ _) gx1) (fun hb3092 k3093 hk3093 => ?_) (fun hb3092 k3094 hk3094 => ?_)
    · have hX3095 := hX3091.trans (if_neg hb3092)
      refine p_iconst 21 c102_20 rfl ?_
      exact p_ireturn c102_21 (Hr _ hX3095 (rgD rfl) _)
    · have hX3096 := hX3091.trans (if_pos (Classical.not_not.mp hb3092))
      refine p_iconst 17 c102_16 rfl ?_
      refine p_goto 21 c102_17 rfl ?_
      exact p_ireturn c102_21 (Hr _ hX3096 (rgD rfl) _)
def F103 (m : yM) : Int := (F102 (F101 99 108 97 115 115 0) m)
set_option maxRecDepth 100000 in
theorem d103 {L : Nat} {xs : Nat → Int32} {k d n : Nat} {c : yS3} {m : yM} (hR : RM c m) : PC (gZ L xs) k d 103 [.ref 376] m n (qX m (F103 m)) := by
  have hX : F103 m = F103 m := rfl
  have Hr : ∀ r, F103 m = r → rg r → ∀ n' : Nat, (qX m (F103 m)) (.inl (some (yI r))) m n' := fun r e h n' => by subst e; exact ⟨rfl, h, rfl⟩
  refine PC.mk [some (.ref 376)] kn103 rfl ?_
  refine p_aload 1 c103_0 rfl rfl ?_
  refine p_iconst 3 c103_1 rfl ?_
  refine p_iconst 5 c103_3 rfl ?_
  refine p_iconst 7 c103_5 rfl ?_
  refine p_iconst 9 c103_7 rfl ?_
  refine p_iconst 11 c103_9 rfl ?_
  refine p_iconst 12 c103_11 rfl ?_
  refine p_cX 15 [yI 99, yI 108, yI 97, yI 115, yI 115, yI 0] [.ref 376] c103_12 rfl rfl rfl (fun k' hk' d' => d101 (rgD rfl) (rgD rfl) (rgD rfl) (rgD rfl) (rgD rfl) (rgD rfl) hR) (fun hg3084 n3060 k3059 hk3059 => ?_)
  refine p_cX 18 [.ref 376, yI (F101 99 108 97 115 115 0)] [] c103_15 rfl rfl rfl (fun k' hk' d' => d102 hg3084 hR) (fun hg3097 n3086 k3085 hk3085 => ?_)
  exact p_ireturn c103_18 (Hr _ hX hg3097 _)
def J104_26 (f : Nat) (xs1 : Int) (m : yM) : Option yM := (some (yup m 376 8 xs1))
set_option maxRecDepth 100000 in
theorem tJ104_26 {L : Nat} {xs : Nat → Int32} {Q : xO → yM → Nat → Prop} {k d n : Nat} {c : yS3} {f : Nat} {xs1 : Int} {m : yM} {j0 : Option Value} (hk : k ≤ f) (gxs1 : rg xs1) (hR : RM c m) (Hr : ∀ m', J104_26 f xs1 m = some m' → RM c m' → ∀ n', Q (.inl none) m' n') : PW (gZ L xs) k 104 d 26 [j0] [yI xs1, .ref 376] m n Q := by
  have hX : J104_26 f xs1 m = J104_26 f xs1 m := rfl
  refine p_putI 29 c104_26 rfl kf376_8 ?_
  have hR3130 := hR.up 376 8 (v := xs1) (nselD rfl) gxs1
  exact p_return c104_29 (Hr _ hX hR3130 _)
def F104 (f : Nat) (m : yM) : Option yM := (if m 376 8 < 0 then (if m 376 3 = 0 then (J104_26 f (m 376 7) m) else (J104_26 f (m 376 5) m)) else (some m))
set_option maxRecDepth 100000 in
theorem d104 {L : Nat} {xs : Nat → Int32} {k d n : Nat} {c : yS3} {f : Nat} {m : yM} (hk : k ≤ f) (hR : RM c m) : PC (gZ L xs) k d 104 [.ref 376] m n (qV c (F104 f m)) := by
  have hX : F104 f m = F104 f m := rfl
  have Hr : ∀ m', F104 f m = some m' → RM c m' → ∀ n' : Nat, (qV c (F104 f m)) (.inl none) m' n' := fun m' e h n' => ⟨rfl, h, e⟩
  refine PC.mk [some (.ref 376)] kn104 rfl ?_
  refine p_aload 1 c104_0 rfl rfl ?_
  refine p_getX 4 (m 376 8) c104_1 rfl kf376_8 rfl ?_
  refine p_if 29 7 c104_4 rfl rfl ((yz_ge (hR.rg _ _)).trans Int.not_lt.symm) (fun hb3121 k3122 hk3122 => ?_) (fun hb3121 k3123 hk3123 => ?_)
  · have hX3124 := hX.trans (if_neg hb3121)
    exact p_return c104_29 (Hr _ hX3124 hR _)
  · have hX3125 := hX.trans (if_pos (Classical.not_not.mp hb3121))
    refine p_aload 8 c104_7 rfl rfl ?_
    refine p_aload 9 c104_8 rfl rfl ?_
    refine p_getX 12 (m 376 3) c104_9 rfl kf376_3 rfl ?_
    refine p_if 22 15 c104_12 rfl rfl (yz_ne (hR.rg _ _)) (fun hb3126 k3127 hk3127 => ?_) (fun hb3126 k3128 hk3128 => ?_)
    · have hX3129 := hX3125.trans (if_neg hb3126)
      refine p_aload 23 c104_22 rfl rfl ?_
      refine p_getX 26 (m 376 5) c104_23 rfl kf376_5 rfl ?_
      exact tJ104_26 (f := f) (by omega) (hR.rg _ _) hR (fun m' e' => Hr m' (hX3129.trans e'))
    · have hX3131 := hX3125.trans (if_pos (Classical.not_not.mp hb3126))
      refine p_aload 16 c104_15 rfl rfl ?_
      refine p_getX 19 (m 376 7) c104_16 rfl kf376_7 rfl ?_
      refine p_goto 26 c104_19 rfl ?_
      exact tJ104_26 (f := f) (by omega) (hR.rg _ _) hR (fun m' e' => Hr m' (hX3131.trans e'))
def J105_8 (f : Nat) (m : yM) : Option (Int × yM) := (if m 376 8 < 0 then (bU (F99 f m) (fun m3115 => (some (1, m3115)))) else (some (0, m)))
set_option maxRecDepth 100000 in
theorem tJ105_8 {L : Nat} {xs : Nat → Int32} {Q : xO → yM → Nat → Prop} {k d n : Nat} {c : yS3} {f : Nat} {m : yM} {j1 : Option Value} (hk : k ≤ f) (hR : RM c m) (Hr : ∀ r m', J105_8 f m = some (r, m') → rg r → RM c m' → ∀ n', Q (.inl (some (yI r))) m' n') : PW (gZ L xs) k 105 d 8 [some (.ref 376), j1] [] m n Q := by
  have hX : J105_8 f m = J105_8 f m := rfl
  refine p_aload 9 c105_8 rfl rfl ?_
  refine p_getX 12 (m 376 8) c105_9 rfl kf376_8 rfl ?_
  refine p_if 17 15 c105_12 rfl rfl (yz_lt (hR.rg _ _)) (fun hb3105 k3106 hk3106 => ?_) (fun hb3105 k3107 hk3107 => ?_)
  · have hX3108 := hX.trans (if_pos hb3105)
    refine p_aload 18 c105_17 rfl rfl ?_
    refine p_cV 21 [.ref 376] [] c105_18 rfl rfl rfl (fun k' hk' d' => d99 (f := f) (by omega) hR) (fun m3115 hF3111 hR3116 n3110 k3109 hk3109 => ?_)
    have hX3114 := hX3108.trans (bU_s hF3111)
    refine p_iconst 22 c105_21 rfl ?_
    exact p_ireturn c105_22 (Hr _ _ hX3114 (rgD rfl) hR3116 _)
  · have hX3117 := hX.trans (if_neg hb3105)
    refine p_iconst 16 c105_15 rfl ?_
    exact p_ireturn c105_16 (Hr _ _ hX3117 (rgD rfl) hR _)
def F105 (f : Nat) (x1 : Int) (m : yM) : Option (Int × yM) := (if x1 = 0 then (bU (F104 f m) (fun m3136 => (J105_8 f m3136))) else (J105_8 f m))
set_option maxRecDepth 100000 in
theorem d105 {L : Nat} {xs : Nat → Int32} {k d n : Nat} {c : yS3} {f : Nat} {x1 : Int} {m : yM} (hk : k ≤ f) (gx1 : rg x1) (hR : RM c m) : PC (gZ L xs) k d 105 [.ref 376, yI x1] m n (qS c (F105 f x1 m)) := by
  have hX : F105 f x1 m = F105 f x1 m := rfl
  have Hr : ∀ r m', F105 f x1 m = some (r, m') → rg r → RM c m' → ∀ n' : Nat, (qS c (F105 f x1 m)) (.inl (some (yI r))) m' n' := fun r m' e h1 h2 n' => ⟨r, rfl, h1, h2, e⟩
  refine PC.mk [some (.ref 376), some (yI x1)] kn105 rfl ?_
  refine p_iload 1 c105_0 rfl rfl ?_
  refine p_if 8 4 c105_1 rfl rfl (yz_ne gx1) (fun hb3101 k3102 hk3102 => ?_) (fun hb3101 k3103 hk3103 => ?_)
  · have hX3104 := hX.trans (if_neg hb3101)
    exact tJ105_8 (f := f) (by omega) hR (fun r' m' e' => Hr r' m' (hX3104.trans e'))
  · have hX3118 := hX.trans (if_pos (Classical.not_not.mp hb3101))
    refine p_aload 5 c105_4 rfl rfl ?_
    refine p_cV 8 [.ref 376] [] c105_5 rfl rfl rfl (fun k' hk' d' => d104 (f := f) (by omega) hR) (fun m3136 hF3132 hR3137 n3120 k3119 hk3119 => ?_)
    have hX3135 := hX3118.trans (bU_s hF3132)
    exact tJ105_8 (f := f) (by omega) hR3137 (fun r' m' e' => Hr r' m' (hX3135.trans e'))
def F106 (m : yM) : Int := (F102 (F101 102 105 101 108 100 0) m)
set_option maxRecDepth 100000 in
theorem d106 {L : Nat} {xs : Nat → Int32} {k d n : Nat} {c : yS3} {m : yM} (hR : RM c m) : PC (gZ L xs) k d 106 [.ref 376] m n (qX m (F106 m)) := by
  have hX : F106 m = F106 m := rfl
  have Hr : ∀ r, F106 m = r → rg r → ∀ n' : Nat, (qX m (F106 m)) (.inl (some (yI r))) m n' := fun r e h n' => by subst e; exact ⟨rfl, h, rfl⟩
  refine PC.mk [some (.ref 376)] kn106 rfl ?_
  refine p_aload 1 c106_0 rfl rfl ?_
  refine p_iconst 3 c106_1 rfl ?_
  refine p_iconst 5 c106_3 rfl ?_
  refine p_iconst 7 c106_5 rfl ?_
  refine p_iconst 9 c106_7 rfl ?_
  refine p_iconst 11 c106_9 rfl ?_
  refine p_iconst 12 c106_11 rfl ?_
  refine p_cX 15 [yI 102, yI 105, yI 101, yI 108, yI 100, yI 0] [.ref 376] c106_12 rfl rfl rfl (fun k' hk' d' => d101 (rgD rfl) (rgD rfl) (rgD rfl) (rgD rfl) (rgD rfl) (rgD rfl) hR) (fun hg3167 n3166 k3165 hk3165 => ?_)
  refine p_cX 18 [.ref 376, yI (F101 102 105 101 108 100 0)] [] c106_15 rfl rfl rfl (fun k' hk' d' => d102 hg3167 hR) (fun hg3170 n3169 k3168 hk3168 => ?_)
  exact p_ireturn c106_18 (Hr _ hX hg3170 _)
def F107 (m : yM) : Int := (F102 (F101 100 101 102 0 0 0) m)
set_option maxRecDepth 100000 in
theorem d107 {L : Nat} {xs : Nat → Int32} {k d n : Nat} {c : yS3} {m : yM} (hR : RM c m) : PC (gZ L xs) k d 107 [.ref 376] m n (qX m (F107 m)) := by
  have hX : F107 m = F107 m := rfl
  have Hr : ∀ r, F107 m = r → rg r → ∀ n' : Nat, (qX m (F107 m)) (.inl (some (yI r))) m n' := fun r e h n' => by subst e; exact ⟨rfl, h, rfl⟩
  refine PC.mk [some (.ref 376)] kn107 rfl ?_
  refine p_aload 1 c107_0 rfl rfl ?_
  refine p_iconst 3 c107_1 rfl ?_
  refine p_iconst 5 c107_3 rfl ?_
  refine p_iconst 7 c107_5 rfl ?_
  refine p_iconst 8 c107_7 rfl ?_
  refine p_iconst 9 c107_8 rfl ?_
  refine p_iconst 10 c107_9 rfl ?_
  refine p_cX 13 [yI 100, yI 101, yI 102, yI 0, yI 0, yI 0] [.ref 376] c107_10 rfl rfl rfl (fun k' hk' d' => d101 (rgD rfl) (rgD rfl) (rgD rfl) (rgD rfl) (rgD rfl) (rgD rfl) hR) (fun hg3181 n3180 k3179 hk3179 => ?_)
  refine p_cX 16 [.ref 376, yI (F101 100 101 102 0 0 0)] [] c107_13 rfl rfl rfl (fun k' hk' d' => d102 hg3181 hR) (fun hg3184 n3183 k3182 hk3182 => ?_)
  exact p_ireturn c107_16 (Hr _ hX hg3184 _)
def F108 (m : yM) : Int := (F102 (F101 110 101 119 0 0 0) m)
set_option maxRecDepth 100000 in
theorem d108 {L : Nat} {xs : Nat → Int32} {k d n : Nat} {c : yS3} {m : yM} (hR : RM c m) : PC (gZ L xs) k d 108 [.ref 376] m n (qX m (F108 m)) := by
  have hX : F108 m = F108 m := rfl
  have Hr : ∀ r, F108 m = r → rg r → ∀ n' : Nat, (qX m (F108 m)) (.inl (some (yI r))) m n' := fun r e h n' => by subst e; exact ⟨rfl, h, rfl⟩
  refine PC.mk [some (.ref 376)] kn108 rfl ?_
  refine p_aload 1 c108_0 rfl rfl ?_
  refine p_iconst 3 c108_1 rfl ?_
  refine p_iconst 5 c108_3 rfl ?_
  refine p_iconst 7 c108_5 rfl ?_
  refine p_iconst 8 c108_7 rfl ?_
  refine p_iconst 9 c108_8 rfl ?_
  refine p_iconst 10 c108_9 rfl ?_
  refine p_cX 13 [yI 110, yI 101, yI 119, yI 0, yI 0, yI 0] [.ref 376] c108_10 rfl rfl rfl (fun k' hk' d' => d101 (rgD rfl) (rgD rfl) (rgD rfl) (rgD rfl) (rgD rfl) (rgD rfl) hR) (fun hg3195 n3194 k3193 hk3193 => ?_)
  refine p_cX 16 [.ref 376, yI (F101 110 101 119 0 0 0)] [] c108_13 rfl rfl rfl (fun k' hk' d' => d102 hg3195 hR) (fun hg3198 n3197 k3196 hk3196 => ?_)
  exact p_ireturn c108_16 (Hr _ hX hg3198 _)
def F109 (m : yM) : Int := (F102 (F101 110 117 108 108 0 0) m)
set_option maxRecDepth 100000 in
theorem d109 {L : Nat} {xs : Nat → Int32} {k d n : Nat} {c : yS3} {m : yM} (hR : RM c m) : PC (gZ L xs) k d 109 [.ref 376] m n (qX m (F109 m)) := by
  have hX : F109 m = F109 m := rfl
  have Hr : ∀ r, F109 m = r → rg r → ∀ n' : Nat, (qX m (F109 m)) (.inl (some (yI r))) m n' := fun r e h n' => by subst e; exact ⟨rfl, h, rfl⟩
  refine PC.mk [some (.ref 376)] kn109 rfl ?_
  refine p_aload 1 c109_0 rfl rfl ?_
  refine p_iconst 3 c109_1 rfl ?_
  refine p_iconst 5 c109_3 rfl ?_
  refine p_iconst 7 c109_5 rfl ?_
  refine p_iconst 9 c109_7 rfl ?_
  refine p_iconst 10 c109_9 rfl ?_
  refine p_iconst 11 c109_10 rfl ?_
  refine p_cX 14 [yI 110, yI 117, yI 108, yI 108, yI 0, yI 0] [.ref 376] c109_11 rfl rfl rfl (fun k' hk' d' => d101 (rgD rfl) (rgD rfl) (rgD rfl) (rgD rfl) (rgD rfl) (rgD rfl) hR) (fun hg3209 n3208 k3207 hk3207 => ?_)
  refine p_cX 17 [.ref 376, yI (F101 110 117 108 108 0 0)] [] c109_14 rfl rfl rfl (fun k' hk' d' => d102 hg3209 hR) (fun hg3212 n3211 k3210 hk3210 => ?_)
  exact p_ireturn c109_17 (Hr _ hX hg3212 _)
def F110 (m : yM) : Int := (F102 (F101 105 102 0 0 0 0) m)
set_option maxRecDepth 100000 in
theorem d110 {L : Nat} {xs : Nat → Int32} {k d n : Nat} {c : yS3} {m : yM} (hR : RM c m) : PC (gZ L xs) k d 110 [.ref 376] m n (qX m (F110 m)) := by
  have hX : F110 m = F110 m := rfl
  have Hr : ∀ r, F110 m = r → rg r → ∀ n' : Nat, (qX m (F110 m)) (.inl (some (yI r))) m n' := fun r e h n' => by subst e; exact ⟨rfl, h, rfl⟩
  refine PC.mk [some (.ref 376)] kn110 rfl ?_
  refine p_aload 1 c110_0 rfl rfl ?_
  refine p_iconst 3 c110_1 rfl ?_
  refine p_iconst 5 c110_3 rfl ?_
  refine p_iconst 6 c110_5 rfl ?_
  refine p_iconst 7 c110_6 rfl ?_
  refine p_iconst 8 c110_7 rfl ?_
  refine p_iconst 9 c110_8 rfl ?_
  refine p_cX 12 [yI 105, yI 102, yI 0, yI 0, yI 0, yI 0] [.ref 376] c110_9 rfl rfl rfl (fun k' hk' d' => d101 (rgD rfl) (rgD rfl) (rgD rfl) (rgD rfl) (rgD rfl) (rgD rfl) hR) (fun hg3223 n3222 k3221 hk3221 => ?_)
  refine p_cX 15 [.ref 376, yI (F101 105 102 0 0 0 0)] [] c110_12 rfl rfl rfl (fun k' hk' d' => d102 hg3223 hR) (fun hg3226 n3225 k3224 hk3224 => ?_)
  exact p_ireturn c110_15 (Hr _ hX hg3226 _)
