/-! CONTRACTS: printed by wip/whole/gen80.py and on -/
def wRo (R a _q : Nat) : Bool := a == R
theorem wRo_s {R a q : Nat} (h : a = R) : wRo R a q = true := by simp [wRo, h]
set_option maxRecDepth 100000 in
theorem t75a {L : Nat} {xs : Nat → Int32} {d nn : Nat} {m : yM} {R ln : Nat} {lo hi v : Int} (hT : Ty gT m) (hR : yarr gSh 414 R = some (0, ln)) (hR2 : ∀ q, gT R q = (lo, hi)) (hln : ln ≤ 1000) (hv : lo ≤ v ∧ v ≤ hi) : ∀ (k : Nat) (i : Int) (mi : yM), (ln : Int) - i = k → 0 ≤ i ∧ i ≤ ln → Ty gT mi → Fr (wRo R) m mi → (∀ q, q < i.toNat → mi R q = v) → YW (gZ L xs) 75 d 5 [some (.ref R), some (yI v), some (yI i), some (yI ((ln : Int)))] [] mi nn (qU (fun m' n' => n' = nn ∧ Ty gT m' ∧ Fr (wRo R) m m' ∧ ∀ q, q < ln → m' R q = v)) := by
  intro k
  induction k using Nat.strongRecOn with
  | ind k ih =>
    intro i mi hk hi0 hTi hFi hz
    refine y_iload 6 c75_5 rfl rfl ?_
    refine y_iload 7 c75_6 rfl rfl ?_
    refine y_icmp 20 10 c75_7 rfl rfl (yc_ge (by omega) (by omega)) (fun hb2716 => ?_) (fun hb2716 => ?_)
    · exact y_retU c75_20 ⟨rfl, hTi, hFi, fun q hq => hz q (by omega)⟩
    · refine y_aload 11 c75_10 rfl rfl rfl ?_
      refine y_iload 12 c75_11 rfl rfl ?_
      refine y_iload 13 c75_12 rfl rfl ?_
      refine y_iastore 14 c75_13 rfl hR (by omega) (y_nar0 _) ?_
      have hT2717 := hTi.up R i.toNat v lo hi (hR2 _) (by omega)
      have hF2718 := hFi.up R i.toNat v (wRo_s (by omega))
      refine y_iinc 17 c75_14 rfl rfl rfl ?_
      refine y_goto 5 c75_17 rfl ?_
      exact ih ((ln : Int) - (i + 1) : Int).toNat (by omega) (i + 1)  _ (by omega) (by omega) hT2717 hF2718 (fun q hq => by
          by_cases e : q = i.toNat
          · subst e; exact yup_eq _ _ _ _
          · rw [yup_nk e]; exact hz q (by omega))
set_option maxRecDepth 100000 in
theorem t75 {L : Nat} {xs : Nat → Int32} {d nn : Nat} {m : yM} {R ln : Nat} {lo hi v : Int} (hT : Ty gT m) (hR : yarr gSh 414 R = some (0, ln)) (hR2 : ∀ q, gT R q = (lo, hi)) (hln : ln ≤ 1000) (hv : lo ≤ v ∧ v ≤ hi) : YC (gZ L xs) d 75 [.ref R, yI v] m nn (qU (fun m' n' => n' = nn ∧ Ty gT m' ∧ Fr (wRo R) m m' ∧ ∀ q, q < ln → m' R q = v)) := by
  refine YC.mkB [some (.ref R), some (yI v), none, none] kn75 rfl rfl ?_
  refine y_iconst 1 c75_0 rfl ?_
  refine y_istore 2 c75_1 rfl rfl ?_
  refine y_aload 3 c75_2 rfl rfl rfl ?_
  refine y_alen 4 c75_3 rfl hR ?_
  refine y_istore 5 c75_4 rfl rfl ?_
  exact t75a hT hR hR2 hln hv ((ln : Int) - 0).toNat 0 m (by omega) (by omega) hT Fr.rf (fun q hq => by simp at hq)
set_option maxRecDepth 100000 in
theorem t78 {L : Nat} {xs : Nat → Int32} {d nn : Nat} {m : yM} {v : Int} (hT : Ty gT m) (hv : -2147483648 ≤ v ∧ v < 2147483648) : YC (gZ L xs) d 78 [.ref 8, yI v] m nn (qP m nn (fun r => (r = 1 ∧ v ≠ -1) ∨ r = 0)) := by
  refine YC.mkB [some (.ref 8), some (yI v)] kn78 rfl rfl ?_
  refine y_iload 1 c78_0 rfl rfl ?_
  refine y_iconst 2 c78_1 rfl ?_
  refine y_icmp 17 5 c78_2 rfl rfl (yc_eq (by omega) (by omega)) (fun hb2719 => ?_) (fun hb2719 => ?_)
  · refine y_iconst 18 c78_17 rfl ?_
    exact y_retP c78_18 (y_fit1 (by omega)) (by omega)
  · refine y_iload 6 c78_5 rfl rfl ?_
    refine y_aload 7 c78_6 rfl rfl rfl ?_
    refine y_getX 10 (m 8 5) c78_7 rfl kf8_5 rfl ?_
    have tb2720 := hT.atp 8 5 0 2000 rfl
    refine y_icmp 17 13 c78_10 rfl rfl (yc_gt (by omega) (by omega)) (fun hb2721 => ?_) (fun hb2721 => ?_)
    · refine y_iconst 18 c78_17 rfl ?_
      exact y_retP c78_18 (y_fit1 (by omega)) (by omega)
    · refine y_iconst 14 c78_13 rfl ?_
      refine y_goto 18 c78_14 rfl ?_
      exact y_retP c78_18 (y_fit1 (by omega)) (by omega)
def wTe (R a q : Nat) : Bool := (a == 8 && q == 6) || a == R
theorem wTe_s {R a q : Nat} (h : a = R) : wTe R a q = true := by simp [wTe, h]
set_option maxRecDepth 100000 in
theorem t79 {L : Nat} {xs : Nat → Int32} {d nn : Nat} {m : yM} {R ln : Nat} {j : Int} (hT : Ty gT m) (hR : yarr gSh 414 R = some (0, ln)) (hR2 : ∀ q, gT R q = (-2147483648, 2147483647)) (hRn : 9 ≤ R) (hj : 0 ≤ j ∧ j < ln) : YC (gZ L xs) d 79 [.ref 8, .ref R, yI j] m nn (qU (fun m' n' => n' = nn ∧ Ty gT m' ∧ Fr (wTe R) m m' ∧ (∀ q, q ≠ j.toNat → m' R q = m R q))) := by
  refine YC.mkB [some (.ref 8), some (.ref R), some (yI j)] kn79 rfl rfl ?_
  have hF : Fr (wTe R) m m := Fr.rf
  refine y_aload 1 c79_0 rfl rfl rfl ?_
  refine y_iload 2 c79_1 rfl rfl ?_
  refine y_iaT 3 ((-2147483648)) 2147483647 c79_2 rfl hR (by omega) hT (hR2 _) (fun v2722 hv2722 gv2722 => ?_)
  refine y_iconst 4 c79_3 rfl ?_
  refine y_icmp 26 7 c79_4 rfl rfl (yc_ne (by omega) (by omega)) (fun hb2723 => ?_) (fun hb2723 => ?_)
  · exact y_retU c79_26 ⟨rfl, hT, hF, fun q hq => rfl⟩
  · refine y_aload 8 c79_7 rfl rfl rfl ?_
    refine y_iload 9 c79_8 rfl rfl ?_
    refine y_aload 10 c79_9 rfl rfl rfl ?_
    refine y_getX 13 (m 8 5) c79_10 rfl kf8_5 rfl ?_
    have tb2724 := hT.atp 8 5 0 2000 rfl
    refine y_iconst 14 c79_13 rfl ?_
    refine y_iadd 15 c79_14 rfl ?_
    refine y_iastore 16 c79_15 rfl hR (by omega) (y_nar0 _) ?_
    have hT2725 := hT.up R j.toNat ((m 8 5) + 1) ((-2147483648)) 2147483647 (hR2 _) (by omega)
    have hF2726 := hF.up R j.toNat ((m 8 5) + 1) (wTe_s (by omega))
    refine y_aload 17 c79_16 rfl rfl rfl ?_
    refine y_aload 18 c79_17 rfl rfl rfl ?_
    refine y_getX 21 (m 8 5) c79_18 rfl kf8_5 (yup_na (by omega)) ?_
    refine y_iconst 22 c79_21 rfl ?_
    refine y_iadd 23 c79_22 rfl ?_
    refine y_putI 26 c79_23 rfl kf8_6 (y_fit0 _) ?_
    have hT2727 := hT2725.up 8 6 ((m 8 5) + 1) 0 2001 rfl (by omega)
    have hF2728 := hF2726.up 8 6 ((m 8 5) + 1) rfl
    exact y_retU c79_26 ⟨rfl, hT2727, hF2728, fun q hq => ((yup_na (by omega)).trans (yup_nk hq))⟩
set_option maxRecDepth 100000 in
theorem t81a_256 {L : Nat} {xs : Nat → Int32} {d nn : Nat} {m : yM} {c u : Int} (hT : Ty gT m) (hc : -1 ≤ c ∧ c ≤ 5) (hu : -2147483648 ≤ u ∧ u < 2147483648) : ∀ (k : Nat) (t : Int) (i : Int), 6 - i = k → -1 ≤ t ∧ t ≤ 5 → 0 ≤ i ∧ i ≤ 6 → YW (gZ L xs) 81 d 5 [some (.ref 256), some (yI c), some (yI u), some (yI t), some (yI i)] [] m nn (qP m nn (fun r => r = 0 ∨ r = 1)) := by
  intro k
  induction k using Nat.strongRecOn with
  | ind k ih =>
    intro t i hk ht hi
    refine y_iload 7 c81_5 rfl rfl ?_
    refine y_iconst 9 c81_7 rfl ?_
    refine y_icmp 37 12 c81_9 rfl rfl (yc_ge (by omega) (by omega)) (fun hb2729 => ?_) (fun hb2729 => ?_)
    · refine y_iconst 38 c81_37 rfl ?_
      exact y_retP c81_38 (y_fit1 (by omega)) (by omega)
    · refine y_iload 13 c81_12 rfl rfl ?_
      refine y_iconst 14 c81_13 rfl ?_
      refine y_icmp 37 17 c81_14 rfl rfl (yc_eq (by omega) (by omega)) (fun hb2730 => ?_) (fun hb2730 => ?_)
      · refine y_iconst 38 c81_37 rfl ?_
        exact y_retP c81_38 (y_fit1 (by omega)) (by omega)
      · refine y_iload 18 c81_17 rfl rfl ?_
        refine y_iload 19 c81_18 rfl rfl ?_
        refine y_icmp 24 22 c81_19 rfl rfl (yc_ne (by omega) (by omega)) (fun hb2731 => ?_) (fun hb2731 => ?_)
        · refine y_aload 25 c81_24 rfl rfl rfl ?_
          refine y_getR 28 c81_25 rfl kf256_1 ?_
          refine y_iload 29 c81_28 rfl rfl ?_
          refine y_iaT 30 ((-1)) 5 c81_29 rfl ka258 (by omega) hT rfl (fun v2732 hv2732 gv2732 => ?_)
          refine y_istore 31 c81_30 rfl rfl ?_
          refine y_iinc 34 c81_31 rfl rfl rfl ?_
          refine y_goto 5 c81_34 rfl ?_
          exact ih (6 - (i + 1) : Int).toNat (by omega) v2732 (i + 1)   (by omega) (by omega) (by omega)
        · refine y_iconst 23 c81_22 rfl ?_
          exact y_retP c81_23 (y_fit1 (by omega)) (by omega)
set_option maxRecDepth 100000 in
theorem t81_256 {L : Nat} {xs : Nat → Int32} {d nn : Nat} {m : yM} {c u : Int} (hT : Ty gT m) (hc : -1 ≤ c ∧ c ≤ 5) (hu : -2147483648 ≤ u ∧ u < 2147483648) : YC (gZ L xs) d 81 [.ref 256, yI c, yI u] m nn (qP m nn (fun r => r = 0 ∨ r = 1)) := by
  refine YC.mkB [some (.ref 256), some (yI c), some (yI u), none, none] kn81 rfl rfl ?_
  refine y_iload 1 c81_0 rfl rfl ?_
  refine y_istore 2 c81_1 rfl rfl ?_
  refine y_iconst 3 c81_2 rfl ?_
  refine y_istore 5 c81_3 rfl rfl ?_
  exact t81a_256 hT hc hu (6 - 0 : Int).toNat c 0   (by omega) (by omega) (by omega)
set_option maxRecDepth 100000 in
theorem t81a_316 {L : Nat} {xs : Nat → Int32} {d nn : Nat} {m : yM} {c u : Int} (hT : Ty gT m) (hc : -1 ≤ c ∧ c ≤ 5) (hu : -2147483648 ≤ u ∧ u < 2147483648) : ∀ (k : Nat) (t : Int) (i : Int), 6 - i = k → -1 ≤ t ∧ t ≤ 5 → 0 ≤ i ∧ i ≤ 6 → YW (gZ L xs) 81 d 5 [some (.ref 316), some (yI c), some (yI u), some (yI t), some (yI i)] [] m nn (qP m nn (fun r => r = 0 ∨ r = 1)) := by
  intro k
  induction k using Nat.strongRecOn with
  | ind k ih =>
    intro t i hk ht hi
    refine y_iload 7 c81_5 rfl rfl ?_
    refine y_iconst 9 c81_7 rfl ?_
    refine y_icmp 37 12 c81_9 rfl rfl (yc_ge (by omega) (by omega)) (fun hb2733 => ?_) (fun hb2733 => ?_)
    · refine y_iconst 38 c81_37 rfl ?_
      exact y_retP c81_38 (y_fit1 (by omega)) (by omega)
    · refine y_iload 13 c81_12 rfl rfl ?_
      refine y_iconst 14 c81_13 rfl ?_
      refine y_icmp 37 17 c81_14 rfl rfl (yc_eq (by omega) (by omega)) (fun hb2734 => ?_) (fun hb2734 => ?_)
      · refine y_iconst 38 c81_37 rfl ?_
        exact y_retP c81_38 (y_fit1 (by omega)) (by omega)
      · refine y_iload 18 c81_17 rfl rfl ?_
        refine y_iload 19 c81_18 rfl rfl ?_
        refine y_icmp 24 22 c81_19 rfl rfl (yc_ne (by omega) (by omega)) (fun hb2735 => ?_) (fun hb2735 => ?_)
        · refine y_aload 25 c81_24 rfl rfl rfl ?_
          refine y_getR 28 c81_25 rfl kf316_1 ?_
          refine y_iload 29 c81_28 rfl rfl ?_
          refine y_iaT 30 ((-1)) 5 c81_29 rfl ka318 (by omega) hT rfl (fun v2736 hv2736 gv2736 => ?_)
          refine y_istore 31 c81_30 rfl rfl ?_
          refine y_iinc 34 c81_31 rfl rfl rfl ?_
          refine y_goto 5 c81_34 rfl ?_
          exact ih (6 - (i + 1) : Int).toNat (by omega) v2736 (i + 1)   (by omega) (by omega) (by omega)
        · refine y_iconst 23 c81_22 rfl ?_
          exact y_retP c81_23 (y_fit1 (by omega)) (by omega)
set_option maxRecDepth 100000 in
theorem t81_316 {L : Nat} {xs : Nat → Int32} {d nn : Nat} {m : yM} {c u : Int} (hT : Ty gT m) (hc : -1 ≤ c ∧ c ≤ 5) (hu : -2147483648 ≤ u ∧ u < 2147483648) : YC (gZ L xs) d 81 [.ref 316, yI c, yI u] m nn (qP m nn (fun r => r = 0 ∨ r = 1)) := by
  refine YC.mkB [some (.ref 316), some (yI c), some (yI u), none, none] kn81 rfl rfl ?_
  refine y_iload 1 c81_0 rfl rfl ?_
  refine y_istore 2 c81_1 rfl rfl ?_
  refine y_iconst 3 c81_2 rfl ?_
  refine y_istore 5 c81_3 rfl rfl ?_
  exact t81a_316 hT hc hu (6 - 0 : Int).toNat c 0   (by omega) (by omega) (by omega)
set_option maxRecDepth 100000 in
theorem t83 {L : Nat} {xs : Nat → Int32} {d nn : Nat} {m : yM} {s f : Int} (hs : 0 ≤ s ∧ s ≤ 11) (hf : 0 ≤ f ∧ f ≤ 7) : YC (gZ L xs) d 83 [.ref 8, yI s, yI f] m nn (qA (fun R m' n' => n' = nn ∧ R = 73 + (s * 8 + f).toNat ∧ m' = m)) := by
  refine YC.mkB [some (.ref 8), some (yI s), some (yI f)] kn83 rfl rfl ?_
  refine y_aload 1 c83_0 rfl rfl rfl ?_
  refine y_getR 4 c83_1 rfl kf8_3 ?_
  refine y_iload 5 c83_4 rfl rfl ?_
  refine y_iconst 7 c83_5 rfl ?_
  refine y_imul 8 c83_7 rfl ?_
  refine y_iload 9 c83_8 rfl rfl ?_
  refine y_iadd 10 c83_9 rfl ?_
  refine y_aaload 11 c83_10 rfl kr72 (by omega) ?_
  exact y_retA c83_11 ⟨rfl, rfl, rfl⟩
theorem wTe_n {R a q : Nat} (h : a ≠ R) (h2 : ¬ (a = 8 ∧ q = 6)) : wTe R a q = false := by
  cases e : wTe R a q with
  | false => rfl
  | true => simp [wTe] at e <;> omega
set_option maxRecDepth 100000 in
theorem t80a_256 {L : Nat} {xs : Nat → Int32} {d nn : Nat} {m : yM} {P R : Nat} (hT : Ty gT m) (hp : m 8 4 = 0) (hP : yarr gSh 414 P = some (0, 12)) (hP2 : ∀ q, gT P q = (-2147483648, 2147483647)) (hR : yarr gSh 414 R = some (0, 12)) (hR2 : ∀ q, gT R q = (-2147483648, 2147483647)) (hRn : 9 ≤ R ∧ R < 169) : ∀ (k : Nat) (i : Int) (mi : yM), m 256 14 - i = k → 0 ≤ i ∧ i ≤ m 256 14 → Ty gT mi → Fr (wTe R) m mi → YW (gZ L xs) 80 (d + 1) 2 [some (.ref 8), some (.ref P), some (.ref R), some (yI i)] [] mi nn (qU (fun m' n' => n' = nn ∧ Ty gT m' ∧ Fr (wTe R) m m')) := by
  intro k
  induction k using Nat.strongRecOn with
  | ind k ih =>
    intro i mi hk hi hTi hFi
    have tb := hT.atp 256 14 0 12 rfl
    refine y_iload 3 c80_2 rfl rfl ?_
    refine y_aload 4 c80_3 rfl rfl rfl ?_
    refine y_getS 7 (B := 256) c80_4 rfl kf8_4 (by rw [show mi 8 4 = 0 from by have e : mi 8 4 = m 8 4 := (hFi 8 4 (wTe_n (by omega) (by decide))); omega]; rfl) ?_
    refine y_getX 10 (m 256 14) c80_7 rfl kf256_14 (hFi 256 14 (wTe_n (by omega) (by decide))) ?_
    refine y_icmp 35 13 c80_10 rfl rfl (yc_ge (by omega) (by omega)) (fun hb2737 => ?_) (fun hb2737 => ?_)
    · exact y_retU c80_35 ⟨rfl, hTi, hFi⟩
    · refine y_aload 14 c80_13 rfl rfl rfl ?_
      refine y_aload 15 c80_14 rfl rfl rfl ?_
      refine y_iload 16 c80_15 rfl rfl ?_
      refine y_iaT 17 ((-2147483648)) 2147483647 c80_16 rfl hP (by omega) hTi (hP2 _) (fun v2738 hv2738 gv2738 => ?_)
      refine y_callP 20 [.ref 8, yI v2738] [] c80_17 rfl rfl rfl rfl rfl (ycanO km78 ko8) (t78 hTi (by omega)) (fun r2739 hr2739 => ?_)
      refine y_if 29 23 c80_20 rfl rfl (yz_eq (by omega)) (fun hb2740 => ?_) (fun hb2740 => ?_)
      · refine y_iinc 32 c80_29 rfl rfl rfl ?_
        refine y_goto 2 c80_32 rfl ?_
        exact ih (m 256 14 - (i + 1) : Int).toNat (by omega) (i + 1)  _ (by omega) (by omega) hTi hFi
      · refine y_aload 24 c80_23 rfl rfl rfl ?_
        refine y_aload 25 c80_24 rfl rfl rfl ?_
        refine y_iload 26 c80_25 rfl rfl ?_
        refine y_callUB 29 [.ref 8, .ref R, yI i] [] c80_26 rfl rfl rfl rfl rfl (ycanO km79 ko8) (t79 hTi hR hR2 hRn.1 (by omega)) (fun mq2741 nq2741 hq2741 => ?_)
        obtain ⟨rfl, hTq2741, hFq2741, hq2741⟩ := hq2741
        have hF2742 := hFi.tr hFq2741 (fun _ _ e => e)
        refine y_iinc 32 c80_29 rfl rfl rfl ?_
        refine y_goto 2 c80_32 rfl ?_
        exact ih (m 256 14 - (i + 1) : Int).toNat (by omega) (i + 1)  _ (by omega) (by omega) hTq2741 hF2742
set_option maxRecDepth 100000 in
theorem t80_256 {L : Nat} {xs : Nat → Int32} {d nn : Nat} {m : yM} {P R : Nat} (hT : Ty gT m) (hp : m 8 4 = 0) (hP : yarr gSh 414 P = some (0, 12)) (hP2 : ∀ q, gT P q = (-2147483648, 2147483647)) (hR : yarr gSh 414 R = some (0, 12)) (hR2 : ∀ q, gT R q = (-2147483648, 2147483647)) (hRn : 9 ≤ R ∧ R < 169) : YC (gZ L xs) (d + 1) 80 [.ref 8, .ref P, .ref R] m nn (qU (fun m' n' => n' = nn ∧ Ty gT m' ∧ Fr (wTe R) m m')) := by
  refine YC.mkB [some (.ref 8), some (.ref P), some (.ref R), none] kn80 rfl rfl ?_
  refine y_iconst 1 c80_0 rfl ?_
  refine y_istore 2 c80_1 rfl rfl ?_
  have tb := hT.atp 256 14 0 12 rfl
  exact t80a_256 hT hp hP hP2 hR hR2 hRn (m 256 14 - 0).toNat 0 m (by omega) (by omega) hT Fr.rf
set_option maxRecDepth 100000 in
theorem t80a_316 {L : Nat} {xs : Nat → Int32} {d nn : Nat} {m : yM} {P R : Nat} (hT : Ty gT m) (hp : m 8 4 = 1) (hP : yarr gSh 414 P = some (0, 12)) (hP2 : ∀ q, gT P q = (-2147483648, 2147483647)) (hR : yarr gSh 414 R = some (0, 12)) (hR2 : ∀ q, gT R q = (-2147483648, 2147483647)) (hRn : 9 ≤ R ∧ R < 169) : ∀ (k : Nat) (i : Int) (mi : yM), m 316 14 - i = k → 0 ≤ i ∧ i ≤ m 316 14 → Ty gT mi → Fr (wTe R) m mi → YW (gZ L xs) 80 (d + 1) 2 [some (.ref 8), some (.ref P), some (.ref R), some (yI i)] [] mi nn (qU (fun m' n' => n' = nn ∧ Ty gT m' ∧ Fr (wTe R) m m')) := by
  intro k
  induction k using Nat.strongRecOn with
  | ind k ih =>
    intro i mi hk hi hTi hFi
    have tb := hT.atp 316 14 0 12 rfl
    refine y_iload 3 c80_2 rfl rfl ?_
    refine y_aload 4 c80_3 rfl rfl rfl ?_
    refine y_getS 7 (B := 316) c80_4 rfl kf8_4 (by rw [show mi 8 4 = 1 from by have e : mi 8 4 = m 8 4 := (hFi 8 4 (wTe_n (by omega) (by decide))); omega]; rfl) ?_
    refine y_getX 10 (m 316 14) c80_7 rfl kf316_14 (hFi 316 14 (wTe_n (by omega) (by decide))) ?_
    refine y_icmp 35 13 c80_10 rfl rfl (yc_ge (by omega) (by omega)) (fun hb2743 => ?_) (fun hb2743 => ?_)
    · exact y_retU c80_35 ⟨rfl, hTi, hFi⟩
    · refine y_aload 14 c80_13 rfl rfl rfl ?_
      refine y_aload 15 c80_14 rfl rfl rfl ?_
      refine y_iload 16 c80_15 rfl rfl ?_
      refine y_iaT 17 ((-2147483648)) 2147483647 c80_16 rfl hP (by omega) hTi (hP2 _) (fun v2744 hv2744 gv2744 => ?_)
      refine y_callP 20 [.ref 8, yI v2744] [] c80_17 rfl rfl rfl rfl rfl (ycanO km78 ko8) (t78 hTi (by omega)) (fun r2745 hr2745 => ?_)
      refine y_if 29 23 c80_20 rfl rfl (yz_eq (by omega)) (fun hb2746 => ?_) (fun hb2746 => ?_)
      · refine y_iinc 32 c80_29 rfl rfl rfl ?_
        refine y_goto 2 c80_32 rfl ?_
        exact ih (m 316 14 - (i + 1) : Int).toNat (by omega) (i + 1)  _ (by omega) (by omega) hTi hFi
      · refine y_aload 24 c80_23 rfl rfl rfl ?_
        refine y_aload 25 c80_24 rfl rfl rfl ?_
        refine y_iload 26 c80_25 rfl rfl ?_
        refine y_callUB 29 [.ref 8, .ref R, yI i] [] c80_26 rfl rfl rfl rfl rfl (ycanO km79 ko8) (t79 hTi hR hR2 hRn.1 (by omega)) (fun mq2747 nq2747 hq2747 => ?_)
        obtain ⟨rfl, hTq2747, hFq2747, hq2747⟩ := hq2747
        have hF2748 := hFi.tr hFq2747 (fun _ _ e => e)
        refine y_iinc 32 c80_29 rfl rfl rfl ?_
        refine y_goto 2 c80_32 rfl ?_
        exact ih (m 316 14 - (i + 1) : Int).toNat (by omega) (i + 1)  _ (by omega) (by omega) hTq2747 hF2748
set_option maxRecDepth 100000 in
theorem t80_316 {L : Nat} {xs : Nat → Int32} {d nn : Nat} {m : yM} {P R : Nat} (hT : Ty gT m) (hp : m 8 4 = 1) (hP : yarr gSh 414 P = some (0, 12)) (hP2 : ∀ q, gT P q = (-2147483648, 2147483647)) (hR : yarr gSh 414 R = some (0, 12)) (hR2 : ∀ q, gT R q = (-2147483648, 2147483647)) (hRn : 9 ≤ R ∧ R < 169) : YC (gZ L xs) (d + 1) 80 [.ref 8, .ref P, .ref R] m nn (qU (fun m' n' => n' = nn ∧ Ty gT m' ∧ Fr (wTe R) m m')) := by
  refine YC.mkB [some (.ref 8), some (.ref P), some (.ref R), none] kn80 rfl rfl ?_
  refine y_iconst 1 c80_0 rfl ?_
  refine y_istore 2 c80_1 rfl rfl ?_
  have tb := hT.atp 316 14 0 12 rfl
  exact t80a_316 hT hp hP hP2 hR hR2 hRn (m 316 14 - 0).toNat 0 m (by omega) (by omega) hT Fr.rf
