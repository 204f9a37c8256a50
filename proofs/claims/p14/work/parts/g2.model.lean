section
/-! CONTRACTS: the model, names. Printed by wip/whole/gen96.py -/
set_option maxRecDepth 100000 in
theorem t96_0 {L : Nat} {xs : Nat → Int32} {d nn : Nat} {m : yM} (hn : m 376 18 = 1) : YC (gZ L xs) d 96 [.ref 376] m nn (qP m nn (fun r => r = 0)) := by
  refine YC.mkB [some (.ref 376)] kn96 rfl rfl ?_
  refine y_iconst 1 c96_0 rfl ?_
  refine y_aload 2 c96_1 rfl rfl rfl ?_
  refine y_getX 5 (m 376 18) c96_2 rfl kf376_18 rfl ?_
  refine y_isub 6 c96_5 rfl ?_
  exact y_retP c96_6 (y_fit0 _) (by omega)
set_option maxRecDepth 100000 in
theorem t116a_0 {L : Nat} {xs : Nat → Int32} {d nn : Nat} {m : yM} {v : Int} (hT : Ty gT m) (hv : -2147483648 ≤ v ∧ v < 2147483648) : ∀ (km : Nat) (i : Int), m 383 0 - i = km → 0 ≤ i ∧ i ≤ m 383 0 → YW (gZ L xs) 116 d 2 [some (.ref 376), some (yI 0), some (yI v), some (yI i)] [] m nn (qP m nn (fun r => -1 ≤ r ∧ r < m 383 0)) := by
  intro km
  induction km using Nat.strongRecOn with
  | ind km ih =>
    intro i hk hi
    have tb := hT.atp 383 0 0 6 rfl
    refine y_iload 3 c116_2 rfl rfl ?_
    refine y_aload 4 c116_3 rfl rfl rfl ?_
    refine y_getR 7 c116_4 rfl kf376_20 ?_
    refine y_iload 8 c116_7 rfl rfl ?_
    refine y_iaX 9 (m 383 0) c116_8 rfl ka383 (by decide) rfl ?_
    refine y_icmp 35 12 c116_9 rfl rfl (yc_ge (by omega) (by omega)) (fun hb6090 => ?_) (fun hb6090 => ?_)
    · refine y_iconst 36 c116_35 rfl ?_
      exact y_retP c116_36 (y_fit0 _) (by omega)
    · refine y_aload 13 c116_12 rfl rfl rfl ?_
      refine y_getR 16 c116_13 rfl kf376_28 ?_
      refine y_iconst 18 c116_16 rfl ?_
      refine y_iload 19 c116_18 rfl rfl ?_
      refine y_imul 20 c116_19 rfl ?_
      refine y_top 0 (by decide) ?_
      refine y_iload 21 c116_20 rfl rfl ?_
      refine y_iadd 22 c116_21 rfl ?_
      refine y_iaT 23 ((-2147483648)) 2147483647 c116_22 rfl ka391 (by omega) hT rfl (fun v6091 hv6091 gv6091 => ?_)
      refine y_iload 24 c116_23 rfl rfl ?_
      refine y_icmp 29 27 c116_24 rfl rfl (yc_ne (by omega) (by omega)) (fun hb6092 => ?_) (fun hb6092 => ?_)
      · refine y_iinc 32 c116_29 rfl rfl rfl ?_
        refine y_goto 2 c116_32 rfl ?_
        exact ih (m 383 0 - (i + 1) : Int).toNat (by omega) (i + 1)   (by omega) (by omega)
      · refine y_iload 28 c116_27 rfl rfl ?_
        exact y_retP c116_28 (y_fit0 _) (by omega)
set_option maxRecDepth 100000 in
theorem t116_0 {L : Nat} {xs : Nat → Int32} {d nn : Nat} {m : yM} {v : Int} (hT : Ty gT m) (hv : -2147483648 ≤ v ∧ v < 2147483648) : YC (gZ L xs) d 116 [.ref 376, yI 0, yI v] m nn (qP m nn (fun r => -1 ≤ r ∧ r < m 383 0)) := by
  refine YC.mkB [some (.ref 376), some (yI 0), some (yI v), none] kn116 rfl rfl ?_
  refine y_iconst 1 c116_0 rfl ?_
  refine y_istore 2 c116_1 rfl rfl ?_
  have tb := hT.atp 383 0 0 6 rfl
  exact t116a_0 hT hv (m 383 0 - 0).toNat 0 (by omega) (by omega)
set_option maxRecDepth 100000 in
theorem t120a_0 {L : Nat} {xs : Nat → Int32} {d nn : Nat} {m : yM} {v : Int} (hT : Ty gT m) (hv : -2147483648 ≤ v ∧ v < 2147483648) : ∀ (km : Nat) (i : Int), m 385 0 - i = km → 0 ≤ i ∧ i ≤ m 385 0 → YW (gZ L xs) 120 d 2 [some (.ref 376), some (yI 0), some (yI v), some (yI i)] [] m nn (qP m nn (fun r => -1 ≤ r ∧ r < m 385 0)) := by
  intro km
  induction km using Nat.strongRecOn with
  | ind km ih =>
    intro i hk hi
    have tb := hT.atp 385 0 0 8 rfl
    refine y_iload 3 c120_2 rfl rfl ?_
    refine y_aload 4 c120_3 rfl rfl rfl ?_
    refine y_getR 7 c120_4 rfl kf376_22 ?_
    refine y_iload 8 c120_7 rfl rfl ?_
    refine y_iaX 9 (m 385 0) c120_8 rfl ka385 (by decide) rfl ?_
    refine y_icmp 35 12 c120_9 rfl rfl (yc_ge (by omega) (by omega)) (fun hb6093 => ?_) (fun hb6093 => ?_)
    · refine y_iconst 36 c120_35 rfl ?_
      exact y_retP c120_36 (y_fit0 _) (by omega)
    · refine y_aload 13 c120_12 rfl rfl rfl ?_
      refine y_getR 16 c120_13 rfl kf376_31 ?_
      refine y_iconst 18 c120_16 rfl ?_
      refine y_iload 19 c120_18 rfl rfl ?_
      refine y_imul 20 c120_19 rfl ?_
      refine y_top 0 (by decide) ?_
      refine y_iload 21 c120_20 rfl rfl ?_
      refine y_iadd 22 c120_21 rfl ?_
      refine y_iaT 23 ((-2147483648)) 2147483647 c120_22 rfl ka394 (by omega) hT rfl (fun v6094 hv6094 gv6094 => ?_)
      refine y_iload 24 c120_23 rfl rfl ?_
      refine y_icmp 29 27 c120_24 rfl rfl (yc_ne (by omega) (by omega)) (fun hb6095 => ?_) (fun hb6095 => ?_)
      · refine y_iinc 32 c120_29 rfl rfl rfl ?_
        refine y_goto 2 c120_32 rfl ?_
        exact ih (m 385 0 - (i + 1) : Int).toNat (by omega) (i + 1)   (by omega) (by omega)
      · refine y_iload 28 c120_27 rfl rfl ?_
        exact y_retP c120_28 (y_fit0 _) (by omega)
set_option maxRecDepth 100000 in
theorem t120_0 {L : Nat} {xs : Nat → Int32} {d nn : Nat} {m : yM} {v : Int} (hT : Ty gT m) (hv : -2147483648 ≤ v ∧ v < 2147483648) : YC (gZ L xs) d 120 [.ref 376, yI 0, yI v] m nn (qP m nn (fun r => -1 ≤ r ∧ r < m 385 0)) := by
  refine YC.mkB [some (.ref 376), some (yI 0), some (yI v), none] kn120 rfl rfl ?_
  refine y_iconst 1 c120_0 rfl ?_
  refine y_istore 2 c120_1 rfl rfl ?_
  have tb := hT.atp 385 0 0 8 rfl
  exact t120a_0 hT hv (m 385 0 - 0).toNat 0 (by omega) (by omega)
set_option maxRecDepth 100000 in
theorem t121a_0 {L : Nat} {xs : Nat → Int32} {d nn : Nat} {m : yM} {k f : Int} (hT : Ty gT m) (hU : UX 0 m (m 383 0)) (hk : -1 ≤ k ∧ k < m 383 0) (hf : -1 ≤ f ∧ f ≤ 7) (hf0 : 0 ≤ f) : ∀ (km : Nat) (c : Int), c + 1 = km → -1 ≤ c ∧ c < m 383 0 → YW (gZ L xs) 121 d 9 [some (.ref 376), some (yI 0), some (yI k), some (yI f), some (yI c)] [] m nn (qP m nn (fun r => r = 0 ∨ r = 1)) := by
  intro km
  induction km using Nat.strongRecOn with
  | ind km ih =>
    intro c hk hc
    have tb := hT.atp 383 0 0 6 rfl
    refine y_iload 11 c121_9 rfl rfl ?_
    refine y_if 53 14 c121_11 rfl rfl (yz_lt (by omega)) (fun hb6096 => ?_) (fun hb6096 => ?_)
    · refine y_iconst 54 c121_53 rfl ?_
      exact y_retP c121_54 (y_fit1 (by omega)) (by omega)
    · refine y_aload 15 c121_14 rfl rfl rfl ?_
      refine y_getR 18 c121_15 rfl kf376_30 ?_
      refine y_iconst 20 c121_18 rfl ?_
      refine y_iload 21 c121_20 rfl rfl ?_
      refine y_imul 22 c121_21 rfl ?_
      refine y_top 0 (by decide) ?_
      refine y_iconst 24 c121_22 rfl ?_
      refine y_iload 26 c121_24 rfl rfl ?_
      refine y_imul 27 c121_26 rfl ?_
      refine y_iadd 28 c121_27 rfl ?_
      refine y_iload 29 c121_28 rfl rfl ?_
      refine y_iadd 30 c121_29 rfl ?_
      refine y_iaT 31 0 1 c121_30 rfl ka393 (by omega) hT rfl (fun v6097 hv6097 gv6097 => ?_)
      refine y_if 36 34 c121_31 rfl rfl (yz_eq (by omega)) (fun hb6098 => ?_) (fun hb6098 => ?_)
      · refine y_aload 37 c121_36 rfl rfl rfl ?_
        refine y_getR 40 c121_37 rfl kf376_29 ?_
        refine y_iconst 42 c121_40 rfl ?_
        refine y_iload 43 c121_42 rfl rfl ?_
        refine y_imul 44 c121_43 rfl ?_
        refine y_top 0 (by decide) ?_
        refine y_iload 46 c121_44 rfl rfl ?_
        refine y_iadd 47 c121_46 rfl ?_
        refine y_iaT 48 ((-1)) 5 c121_47 rfl ka392 (by omega) hT rfl (fun v6099 hv6099 gv6099 => ?_)
        have huv6099 : v6099 < c := by have h0 := hU c.toNat (by omega); rw [show 6 * 0 + c.toNat = (0 + c).toNat by omega, hv6099] at h0; omega
        refine y_istore 50 c121_48 rfl rfl ?_
        refine y_goto 9 c121_50 rfl ?_
        exact ih (v6099 + 1 : Int).toNat (by omega) v6099   (by omega) (by omega)
      · refine y_iconst 35 c121_34 rfl ?_
        exact y_retP c121_35 (y_fit1 (by omega)) (by omega)
set_option maxRecDepth 100000 in
theorem t121_0 {L : Nat} {xs : Nat → Int32} {d nn : Nat} {m : yM} {k f : Int} (hT : Ty gT m) (hU : UX 0 m (m 383 0)) (hk : -1 ≤ k ∧ k < m 383 0) (hf : -1 ≤ f ∧ f ≤ 7) : YC (gZ L xs) d 121 [.ref 376, yI 0, yI k, yI f] m nn (qP m nn (fun r => r = 0 ∨ r = 1)) := by
  refine YC.mkB [some (.ref 376), some (yI 0), some (yI k), some (yI f), none] kn121 rfl rfl ?_
  refine y_iload 1 c121_0 rfl rfl ?_
  refine y_if 6 4 c121_1 rfl rfl (yz_ge (by omega)) (fun hb6100 => ?_) (fun hb6100 => ?_)
  · refine y_iload 7 c121_6 rfl rfl ?_
    refine y_istore 9 c121_7 rfl rfl ?_
    have tb := hT.atp 383 0 0 6 rfl
    exact t121a_0 hT hU hk hf (by omega) (k + 1).toNat k (by omega) (by omega)
  · refine y_iconst 5 c121_4 rfl ?_
    exact y_retP c121_5 (y_fit1 (by omega)) (by omega)
set_option maxRecDepth 100000 in
theorem t123b_0 {L : Nat} {xs : Nat → Int32} {d nn : Nat} {m : yM} {k v u : Int} (hT : Ty gT m) (hU : UX 0 m (m 383 0)) (hk : -1 ≤ k ∧ k < m 383 0) (hv : -2147483648 ≤ v ∧ v < 2147483648) (hu : u = 0 ∨ u = 1) {c : Int} (hc : 0 ≤ c ∧ c < m 383 0) (ho : ∀ (x6 : Option Value) (c2 : Int), -1 ≤ c2 ∧ c2 < c → YW (gZ L xs) 123 d 3 [some (.ref 376), some (yI 0), some (yI k), some (yI v), some (yI u), some (yI c2), x6] [] m nn (qP m nn (fun r => -1 ≤ r ∧ r < m 384 0))) : ∀ (km : Nat) (i : Int), m 384 0 - i = km → 0 ≤ i ∧ i ≤ m 384 0 → YW (gZ L xs) 123 d 11 [some (.ref 376), some (yI 0), some (yI k), some (yI v), some (yI u), some (yI c), some (yI i)] [] m nn (qP m nn (fun r => -1 ≤ r ∧ r < m 384 0)) := by
  intro km
  induction km using Nat.strongRecOn with
  | ind km ih =>
    intro i hk hi
    have tb := hT.atp 383 0 0 6 rfl
    have tb2 := hT.atp 384 0 0 10 rfl
    refine y_iload 13 c123_11 rfl rfl ?_
    refine y_aload 14 c123_13 rfl rfl rfl ?_
    refine y_getR 17 c123_14 rfl kf376_21 ?_
    refine y_iload 18 c123_17 rfl rfl ?_
    refine y_iaX 19 (m 384 0) c123_18 rfl ka384 (by decide) rfl ?_
    refine y_icmp 64 22 c123_19 rfl rfl (yc_ge (by omega) (by omega)) (fun hb6101 => ?_) (fun hb6101 => ?_)
    · refine y_iload 66 c123_64 rfl rfl ?_
      refine y_if 73 69 c123_66 rfl rfl (yz_eq (by omega)) (fun hb6102 => ?_) (fun hb6102 => ?_)
      · refine y_aload 74 c123_73 rfl rfl rfl ?_
        refine y_getR 77 c123_74 rfl kf376_29 ?_
        refine y_iconst 79 c123_77 rfl ?_
        refine y_iload 80 c123_79 rfl rfl ?_
        refine y_imul 81 c123_80 rfl ?_
        refine y_top 0 (by decide) ?_
        refine y_iload 83 c123_81 rfl rfl ?_
        refine y_iadd 84 c123_83 rfl ?_
        refine y_iaT 85 ((-1)) 5 c123_84 rfl ka392 (by omega) hT rfl (fun v6103 hv6103 gv6103 => ?_)
        have huv6103 : v6103 < c := by have h0 := hU c.toNat (by omega); rw [show 6 * 0 + c.toNat = (0 + c).toNat by omega, hv6103] at h0; omega
        refine y_istore 87 c123_85 rfl rfl ?_
        refine y_goto 3 c123_87 rfl ?_
        exact ho _ v6103 (by omega)
      · refine y_iconst 70 c123_69 rfl ?_
        refine y_goto 85 c123_70 rfl ?_
        refine y_istore 87 c123_85 rfl rfl ?_
        refine y_goto 3 c123_87 rfl ?_
        exact ho _ ((-1)) (by omega)
    · refine y_aload 23 c123_22 rfl rfl rfl ?_
      refine y_getR 26 c123_23 rfl kf376_33 ?_
      refine y_iconst 28 c123_26 rfl ?_
      refine y_iload 29 c123_28 rfl rfl ?_
      refine y_imul 30 c123_29 rfl ?_
      refine y_top 0 (by decide) ?_
      refine y_iload 32 c123_30 rfl rfl ?_
      refine y_iadd 33 c123_32 rfl ?_
      refine y_iaT 34 0 5 c123_33 rfl ka396 (by omega) hT rfl (fun v6104 hv6104 gv6104 => ?_)
      refine y_iload 36 c123_34 rfl rfl ?_
      refine y_icmp 58 39 c123_36 rfl rfl (yc_ne (by omega) (by omega)) (fun hb6105 => ?_) (fun hb6105 => ?_)
      · refine y_iinc 61 c123_58 rfl rfl rfl ?_
        refine y_goto 11 c123_61 rfl ?_
        exact ih (m 384 0 - (i + 1) : Int).toNat (by omega) (i + 1)   (by omega) (by omega)
      · refine y_aload 40 c123_39 rfl rfl rfl ?_
        refine y_getR 43 c123_40 rfl kf376_32 ?_
        refine y_iconst 45 c123_43 rfl ?_
        refine y_iload 46 c123_45 rfl rfl ?_
        refine y_imul 47 c123_46 rfl ?_
        refine y_top 0 (by decide) ?_
        refine y_iload 49 c123_47 rfl rfl ?_
        refine y_iadd 50 c123_49 rfl ?_
        refine y_iaT 51 ((-2147483648)) 2147483647 c123_50 rfl ka395 (by omega) hT rfl (fun v6106 hv6106 gv6106 => ?_)
        refine y_iload 52 c123_51 rfl rfl ?_
        refine y_icmp 58 55 c123_52 rfl rfl (yc_ne (by omega) (by omega)) (fun hb6107 => ?_) (fun hb6107 => ?_)
        · refine y_iinc 61 c123_58 rfl rfl rfl ?_
          refine y_goto 11 c123_61 rfl ?_
          exact ih (m 384 0 - (i + 1) : Int).toNat (by omega) (i + 1)   (by omega) (by omega)
        · refine y_iload 57 c123_55 rfl rfl ?_
          exact y_retP c123_57 (y_fit0 _) (by omega)
set_option maxRecDepth 100000 in
theorem t123a_0 {L : Nat} {xs : Nat → Int32} {d nn : Nat} {m : yM} {k v u : Int} (hT : Ty gT m) (hU : UX 0 m (m 383 0)) (hk : -1 ≤ k ∧ k < m 383 0) (hv : -2147483648 ≤ v ∧ v < 2147483648) (hu : u = 0 ∨ u = 1) : ∀ (km : Nat) (c : Int) (x6 : Option Value), c + 1 = km → -1 ≤ c ∧ c < m 383 0 → YW (gZ L xs) 123 d 3 [some (.ref 376), some (yI 0), some (yI k), some (yI v), some (yI u), some (yI c), x6] [] m nn (qP m nn (fun r => -1 ≤ r ∧ r < m 384 0)) := by
  intro km
  induction km using Nat.strongRecOn with
  | ind km ih =>
    intro c x6 hk hc
    have tb := hT.atp 383 0 0 6 rfl
    have tb2 := hT.atp 384 0 0 10 rfl
    refine y_iload 5 c123_3 rfl rfl ?_
    refine y_if 90 8 c123_5 rfl rfl (yz_lt (by omega)) (fun hb6108 => ?_) (fun hb6108 => ?_)
    · refine y_iconst 91 c123_90 rfl ?_
      exact y_retP c123_91 (y_fit0 _) (by omega)
    · refine y_iconst 9 c123_8 rfl ?_
      refine y_istore 11 c123_9 rfl rfl ?_
      exact t123b_0 hT hU (by omega) hv hu (c := c) (by omega) (fun y6 c2 hc2 => ih (c2 + 1).toNat (by omega) c2 y6 (by omega) (by omega)) (m 384 0 - 0).toNat 0 (by omega) (by omega)
set_option maxRecDepth 100000 in
theorem t123_0 {L : Nat} {xs : Nat → Int32} {d nn : Nat} {m : yM} {k v u : Int} (hT : Ty gT m) (hU : UX 0 m (m 383 0)) (hk : -1 ≤ k ∧ k < m 383 0) (hv : -2147483648 ≤ v ∧ v < 2147483648) (hu : u = 0 ∨ u = 1) : YC (gZ L xs) d 123 [.ref 376, yI 0, yI k, yI v, yI u] m nn (qP m nn (fun r => -1 ≤ r ∧ r < m 384 0)) := by
  refine YC.mkB [some (.ref 376), some (yI 0), some (yI k), some (yI v), some (yI u), none, none] kn123 rfl rfl ?_
  refine y_iload 1 c123_0 rfl rfl ?_
  refine y_istore 3 c123_1 rfl rfl ?_
  have tb := hT.atp 383 0 0 6 rfl
  exact t123a_0 hT hU hk hv hu (k + 1).toNat k none (by omega) (by omega)
set_option maxRecDepth 100000 in
theorem t142_0 {L : Nat} {xs : Nat → Int32} {d nn : Nat} {m : yM} {k v s : Int} (hT : Ty gT m) (hU : UX 0 m (m 383 0)) (hk : -1 ≤ k ∧ k < m 383 0) (hv : -2147483648 ≤ v ∧ v < 2147483648) (hs : -2147483648 ≤ s ∧ s < 2147483648) : YC (gZ L xs) (d + 1) 142 [.ref 376, yI 0, yI k, yI v, yI s] m nn (qP m nn (fun r => -1 ≤ r ∧ r < m 384 0 ∧ (0 ≤ r → m 397 (0 + r.toNat) = s))) := by
  have tb2 := hT.atp 384 0 0 10 rfl
  refine YC.mkB [some (.ref 376), some (yI 0), some (yI k), some (yI v), some (yI s), none] kn142 rfl rfl ?_
  refine y_aload 1 c142_0 rfl rfl rfl ?_
  refine y_iload 2 c142_1 rfl rfl ?_
  refine y_iload 3 c142_2 rfl rfl ?_
  refine y_iload 4 c142_3 rfl rfl ?_
  refine y_iconst 5 c142_4 rfl ?_
  refine y_callP 8 [.ref 376, yI 0, yI k, yI v, yI 0] [] c142_5 rfl rfl rfl rfl rfl (ycanO km123 ko376) (t123_0 hT hU (by omega) (by omega) (by omega)) (fun r6109 hr6109 => ?_)
  refine y_istore 10 c142_8 rfl rfl ?_
  refine y_iload 12 c142_10 rfl rfl ?_
  refine y_if 37 15 c142_12 rfl rfl (yz_lt (by omega)) (fun hb6110 => ?_) (fun hb6110 => ?_)
  · refine y_iconst 38 c142_37 rfl ?_
    exact y_retP c142_38 (y_fit0 _) ⟨by omega, by omega, fun h => by omega⟩
  · refine y_aload 16 c142_15 rfl rfl rfl ?_
    refine y_getR 19 c142_16 rfl kf376_34 ?_
    refine y_iconst 21 c142_19 rfl ?_
    refine y_iload 22 c142_21 rfl rfl ?_
    refine y_imul 23 c142_22 rfl ?_
    refine y_top 0 (by decide) ?_
    refine y_iload 25 c142_23 rfl rfl ?_
    refine y_iadd 26 c142_25 rfl ?_
    refine y_iaT 27 0 2 c142_26 rfl ka397 (by omega) hT rfl (fun v6111 hv6111 gv6111 => ?_)
    refine y_iload 29 c142_27 rfl rfl ?_
    refine y_icmp 37 32 c142_29 rfl rfl (yc_ne (by omega) (by omega)) (fun hb6112 => ?_) (fun hb6112 => ?_)
    · refine y_iconst 38 c142_37 rfl ?_
      exact y_retP c142_38 (y_fit0 _) ⟨by omega, by omega, fun h => by omega⟩
    · refine y_iload 34 c142_32 rfl rfl ?_
      refine y_goto 38 c142_34 rfl ?_
      refine y_retP c142_38 (y_fit0 _) ⟨by omega, by omega, fun h => ?_⟩
      rw [show 0 + r6109.toNat = (0 + r6109).toNat by omega, hv6111]; omega
set_option maxRecDepth 100000 in
theorem t149a_0 {L : Nat} {xs : Nat → Int32} {d nn : Nat} {m : yM} {k u : Int} (hT : Ty gT m) (hU : UX 0 m (m 383 0)) (hk : -1 ≤ k ∧ k < m 383 0) (hu : -2147483648 ≤ u ∧ u < 2147483648) : ∀ (km : Nat) (c : Int), c + 1 = km → -1 ≤ c ∧ c < m 383 0 → YW (gZ L xs) 149 d 3 [some (.ref 376), some (yI 0), some (yI k), some (yI u), some (yI c)] [] m nn (qP m nn (fun r => r = 0 ∨ r = 1)) := by
  intro km
  induction km using Nat.strongRecOn with
  | ind km ih =>
    intro c hk hc
    have tb := hT.atp 383 0 0 6 rfl
    refine y_iload 5 c149_3 rfl rfl ?_
    refine y_if 31 8 c149_5 rfl rfl (yz_lt (by omega)) (fun hb6113 => ?_) (fun hb6113 => ?_)
    · refine y_iload 33 c149_31 rfl rfl ?_
      refine y_iload 34 c149_33 rfl rfl ?_
      refine y_icmp 41 37 c149_34 rfl rfl (yc_ne (by omega) (by omega)) (fun hb6114 => ?_) (fun hb6114 => ?_)
      · refine y_iconst 42 c149_41 rfl ?_
        exact y_retP c149_42 (y_fit1 (by omega)) (by omega)
      · refine y_iconst 38 c149_37 rfl ?_
        refine y_goto 42 c149_38 rfl ?_
        exact y_retP c149_42 (y_fit1 (by omega)) (by omega)
    · refine y_iload 10 c149_8 rfl rfl ?_
      refine y_iload 11 c149_10 rfl rfl ?_
      refine y_icmp 31 14 c149_11 rfl rfl (yc_eq (by omega) (by omega)) (fun hb6115 => ?_) (fun hb6115 => ?_)
      · refine y_iload 33 c149_31 rfl rfl ?_
        refine y_iload 34 c149_33 rfl rfl ?_
        refine y_icmp 41 37 c149_34 rfl rfl (yc_ne (by omega) (by omega)) (fun hb6116 => ?_) (fun hb6116 => ?_)
        · refine y_iconst 42 c149_41 rfl ?_
          exact y_retP c149_42 (y_fit1 (by omega)) (by omega)
        · refine y_iconst 38 c149_37 rfl ?_
          refine y_goto 42 c149_38 rfl ?_
          exact y_retP c149_42 (y_fit1 (by omega)) (by omega)
      · refine y_aload 15 c149_14 rfl rfl rfl ?_
        refine y_getR 18 c149_15 rfl kf376_29 ?_
        refine y_iconst 20 c149_18 rfl ?_
        refine y_iload 21 c149_20 rfl rfl ?_
        refine y_imul 22 c149_21 rfl ?_
        refine y_top 0 (by decide) ?_
        refine y_iload 24 c149_22 rfl rfl ?_
        refine y_iadd 25 c149_24 rfl ?_
        refine y_iaT 26 ((-1)) 5 c149_25 rfl ka392 (by omega) hT rfl (fun v6117 hv6117 gv6117 => ?_)
        have huv6117 : v6117 < c := by have h0 := hU c.toNat (by omega); rw [show 6 * 0 + c.toNat = (0 + c).toNat by omega, hv6117] at h0; omega
        refine y_istore 28 c149_26 rfl rfl ?_
        refine y_goto 3 c149_28 rfl ?_
        exact ih (v6117 + 1 : Int).toNat (by omega) v6117   (by omega) (by omega)
set_option maxRecDepth 100000 in
theorem t149_0 {L : Nat} {xs : Nat → Int32} {d nn : Nat} {m : yM} {k u : Int} (hT : Ty gT m) (hU : UX 0 m (m 383 0)) (hk : -1 ≤ k ∧ k < m 383 0) (hu : -2147483648 ≤ u ∧ u < 2147483648) : YC (gZ L xs) d 149 [.ref 376, yI 0, yI k, yI u] m nn (qP m nn (fun r => r = 0 ∨ r = 1)) := by
  refine YC.mkB [some (.ref 376), some (yI 0), some (yI k), some (yI u), none] kn149 rfl rfl ?_
  refine y_iload 1 c149_0 rfl rfl ?_
  refine y_istore 3 c149_1 rfl rfl ?_
  have tb := hT.atp 383 0 0 6 rfl
  exact t149a_0 hT hU hk hu (k + 1).toNat k (by omega) (by omega)
set_option maxRecDepth 100000 in
theorem t96_1 {L : Nat} {xs : Nat → Int32} {d nn : Nat} {m : yM} (hn : m 376 18 = 0) : YC (gZ L xs) d 96 [.ref 376] m nn (qP m nn (fun r => r = 1)) := by
  refine YC.mkB [some (.ref 376)] kn96 rfl rfl ?_
  refine y_iconst 1 c96_0 rfl ?_
  refine y_aload 2 c96_1 rfl rfl rfl ?_
  refine y_getX 5 (m 376 18) c96_2 rfl kf376_18 rfl ?_
  refine y_isub 6 c96_5 rfl ?_
  exact y_retP c96_6 (y_fit0 _) (by omega)
set_option maxRecDepth 100000 in
theorem t116a_1 {L : Nat} {xs : Nat → Int32} {d nn : Nat} {m : yM} {v : Int} (hT : Ty gT m) (hv : -2147483648 ≤ v ∧ v < 2147483648) : ∀ (km : Nat) (i : Int), m 383 1 - i = km → 0 ≤ i ∧ i ≤ m 383 1 → YW (gZ L xs) 116 d 2 [some (.ref 376), some (yI 1), some (yI v), some (yI i)] [] m nn (qP m nn (fun r => -1 ≤ r ∧ r < m 383 1)) := by
  intro km
  induction km using Nat.strongRecOn with
  | ind km ih =>
    intro i hk hi
    have tb := hT.atp 383 1 0 6 rfl
    refine y_iload 3 c116_2 rfl rfl ?_
    refine y_aload 4 c116_3 rfl rfl rfl ?_
    refine y_getR 7 c116_4 rfl kf376_20 ?_
    refine y_iload 8 c116_7 rfl rfl ?_
    refine y_iaX 9 (m 383 1) c116_8 rfl ka383 (by decide) rfl ?_
    refine y_icmp 35 12 c116_9 rfl rfl (yc_ge (by omega) (by omega)) (fun hb6315 => ?_) (fun hb6315 => ?_)
    · refine y_iconst 36 c116_35 rfl ?_
      exact y_retP c116_36 (y_fit0 _) (by omega)
    · refine y_aload 13 c116_12 rfl rfl rfl ?_
      refine y_getR 16 c116_13 rfl kf376_28 ?_
      refine y_iconst 18 c116_16 rfl ?_
      refine y_iload 19 c116_18 rfl rfl ?_
      refine y_imul 20 c116_19 rfl ?_
      refine y_top 6 (by decide) ?_
      refine y_iload 21 c116_20 rfl rfl ?_
      refine y_iadd 22 c116_21 rfl ?_
      refine y_iaT 23 ((-2147483648)) 2147483647 c116_22 rfl ka391 (by omega) hT rfl (fun v6316 hv6316 gv6316 => ?_)
      refine y_iload 24 c116_23 rfl rfl ?_
      refine y_icmp 29 27 c116_24 rfl rfl (yc_ne (by omega) (by omega)) (fun hb6317 => ?_) (fun hb6317 => ?_)
      · refine y_iinc 32 c116_29 rfl rfl rfl ?_
        refine y_goto 2 c116_32 rfl ?_
        exact ih (m 383 1 - (i + 1) : Int).toNat (by omega) (i + 1)   (by omega) (by omega)
      · refine y_iload 28 c116_27 rfl rfl ?_
        exact y_retP c116_28 (y_fit0 _) (by omega)
set_option maxRecDepth 100000 in
theorem t116_1 {L : Nat} {xs : Nat → Int32} {d nn : Nat} {m : yM} {v : Int} (hT : Ty gT m) (hv : -2147483648 ≤ v ∧ v < 2147483648) : YC (gZ L xs) d 116 [.ref 376, yI 1, yI v] m nn (qP m nn (fun r => -1 ≤ r ∧ r < m 383 1)) := by
  refine YC.mkB [some (.ref 376), some (yI 1), some (yI v), none] kn116 rfl rfl ?_
  refine y_iconst 1 c116_0 rfl ?_
  refine y_istore 2 c116_1 rfl rfl ?_
  have tb := hT.atp 383 1 0 6 rfl
  exact t116a_1 hT hv (m 383 1 - 0).toNat 0 (by omega) (by omega)
set_option maxRecDepth 100000 in
theorem t120a_1 {L : Nat} {xs : Nat → Int32} {d nn : Nat} {m : yM} {v : Int} (hT : Ty gT m) (hv : -2147483648 ≤ v ∧ v < 2147483648) : ∀ (km : Nat) (i : Int), m 385 1 - i = km → 0 ≤ i ∧ i ≤ m 385 1 → YW (gZ L xs) 120 d 2 [some (.ref 376), some (yI 1), some (yI v), some (yI i)] [] m nn (qP m nn (fun r => -1 ≤ r ∧ r < m 385 1)) := by
  intro km
  induction km using Nat.strongRecOn with
  | ind km ih =>
    intro i hk hi
    have tb := hT.atp 385 1 0 8 rfl
    refine y_iload 3 c120_2 rfl rfl ?_
    refine y_aload 4 c120_3 rfl rfl rfl ?_
    refine y_getR 7 c120_4 rfl kf376_22 ?_
    refine y_iload 8 c120_7 rfl rfl ?_
    refine y_iaX 9 (m 385 1) c120_8 rfl ka385 (by decide) rfl ?_
    refine y_icmp 35 12 c120_9 rfl rfl (yc_ge (by omega) (by omega)) (fun hb6318 => ?_) (fun hb6318 => ?_)
    · refine y_iconst 36 c120_35 rfl ?_
      exact y_retP c120_36 (y_fit0 _) (by omega)
    · refine y_aload 13 c120_12 rfl rfl rfl ?_
      refine y_getR 16 c120_13 rfl kf376_31 ?_
      refine y_iconst 18 c120_16 rfl ?_
      refine y_iload 19 c120_18 rfl rfl ?_
      refine y_imul 20 c120_19 rfl ?_
      refine y_top 8 (by decide) ?_
      refine y_iload 21 c120_20 rfl rfl ?_
      refine y_iadd 22 c120_21 rfl ?_
      refine y_iaT 23 ((-2147483648)) 2147483647 c120_22 rfl ka394 (by omega) hT rfl (fun v6319 hv6319 gv6319 => ?_)
      refine y_iload 24 c120_23 rfl rfl ?_
      refine y_icmp 29 27 c120_24 rfl rfl (yc_ne (by omega) (by omega)) (fun hb6320 => ?_) (fun hb6320 => ?_)
      · refine y_iinc 32 c120_29 rfl rfl rfl ?_
        refine y_goto 2 c120_32 rfl ?_
        exact ih (m 385 1 - (i + 1) : Int).toNat (by omega) (i + 1)   (by omega) (by omega)
      · refine y_iload 28 c120_27 rfl rfl ?_
        exact y_retP c120_28 (y_fit0 _) (by omega)
set_option maxRecDepth 100000 in
theorem t120_1 {L : Nat} {xs : Nat → Int32} {d nn : Nat} {m : yM} {v : Int} (hT : Ty gT m) (hv : -2147483648 ≤ v ∧ v < 2147483648) : YC (gZ L xs) d 120 [.ref 376, yI 1, yI v] m nn (qP m nn (fun r => -1 ≤ r ∧ r < m 385 1)) := by
  refine YC.mkB [some (.ref 376), some (yI 1), some (yI v), none] kn120 rfl rfl ?_
  refine y_iconst 1 c120_0 rfl ?_
  refine y_istore 2 c120_1 rfl rfl ?_
  have tb := hT.atp 385 1 0 8 rfl
  exact t120a_1 hT hv (m 385 1 - 0).toNat 0 (by omega) (by omega)
set_option maxRecDepth 100000 in
theorem t121a_1 {L : Nat} {xs : Nat → Int32} {d nn : Nat} {m : yM} {k f : Int} (hT : Ty gT m) (hU : UX 1 m (m 383 1)) (hk : -1 ≤ k ∧ k < m 383 1) (hf : -1 ≤ f ∧ f ≤ 7) (hf0 : 0 ≤ f) : ∀ (km : Nat) (c : Int), c + 1 = km → -1 ≤ c ∧ c < m 383 1 → YW (gZ L xs) 121 d 9 [some (.ref 376), some (yI 1), some (yI k), some (yI f), some (yI c)] [] m nn (qP m nn (fun r => r = 0 ∨ r = 1)) := by
  intro km
  induction km using Nat.strongRecOn with
  | ind km ih =>
    intro c hk hc
    have tb := hT.atp 383 1 0 6 rfl
    refine y_iload 11 c121_9 rfl rfl ?_
    refine y_if 53 14 c121_11 rfl rfl (yz_lt (by omega)) (fun hb6321 => ?_) (fun hb6321 => ?_)
    · refine y_iconst 54 c121_53 rfl ?_
      exact y_retP c121_54 (y_fit1 (by omega)) (by omega)
    · refine y_aload 15 c121_14 rfl rfl rfl ?_
      refine y_getR 18 c121_15 rfl kf376_30 ?_
      refine y_iconst 20 c121_18 rfl ?_
      refine y_iload 21 c121_20 rfl rfl ?_
      refine y_imul 22 c121_21 rfl ?_
      refine y_top 48 (by decide) ?_
      refine y_iconst 24 c121_22 rfl ?_
      refine y_iload 26 c121_24 rfl rfl ?_
      refine y_imul 27 c121_26 rfl ?_
      refine y_iadd 28 c121_27 rfl ?_
      refine y_iload 29 c121_28 rfl rfl ?_
      refine y_iadd 30 c121_29 rfl ?_
      refine y_iaT 31 0 1 c121_30 rfl ka393 (by omega) hT rfl (fun v6322 hv6322 gv6322 => ?_)
      refine y_if 36 34 c121_31 rfl rfl (yz_eq (by omega)) (fun hb6323 => ?_) (fun hb6323 => ?_)
      · refine y_aload 37 c121_36 rfl rfl rfl ?_
        refine y_getR 40 c121_37 rfl kf376_29 ?_
        refine y_iconst 42 c121_40 rfl ?_
        refine y_iload 43 c121_42 rfl rfl ?_
        refine y_imul 44 c121_43 rfl ?_
        refine y_top 6 (by decide) ?_
        refine y_iload 46 c121_44 rfl rfl ?_
        refine y_iadd 47 c121_46 rfl ?_
        refine y_iaT 48 ((-1)) 5 c121_47 rfl ka392 (by omega) hT rfl (fun v6324 hv6324 gv6324 => ?_)
        have huv6324 : v6324 < c := by have h0 := hU c.toNat (by omega); rw [show 6 * 1 + c.toNat = (6 + c).toNat by omega, hv6324] at h0; omega
        refine y_istore 50 c121_48 rfl rfl ?_
        refine y_goto 9 c121_50 rfl ?_
        exact ih (v6324 + 1 : Int).toNat (by omega) v6324   (by omega) (by omega)
      · refine y_iconst 35 c121_34 rfl ?_
        exact y_retP c121_35 (y_fit1 (by omega)) (by omega)
set_option maxRecDepth 100000 in
theorem t121_1 {L : Nat} {xs : Nat → Int32} {d nn : Nat} {m : yM} {k f : Int} (hT : Ty gT m) (hU : UX 1 m (m 383 1)) (hk : -1 ≤ k ∧ k < m 383 1) (hf : -1 ≤ f ∧ f ≤ 7) : YC (gZ L xs) d 121 [.ref 376, yI 1, yI k, yI f] m nn (qP m nn (fun r => r = 0 ∨ r = 1)) := by
  refine YC.mkB [some (.ref 376), some (yI 1), some (yI k), some (yI f), none] kn121 rfl rfl ?_
  refine y_iload 1 c121_0 rfl rfl ?_
  refine y_if 6 4 c121_1 rfl rfl (yz_ge (by omega)) (fun hb6325 => ?_) (fun hb6325 => ?_)
  · refine y_iload 7 c121_6 rfl rfl ?_
    refine y_istore 9 c121_7 rfl rfl ?_
    have tb := hT.atp 383 1 0 6 rfl
    exact t121a_1 hT hU hk hf (by omega) (k + 1).toNat k (by omega) (by omega)
  · refine y_iconst 5 c121_4 rfl ?_
    exact y_retP c121_5 (y_fit1 (by omega)) (by omega)
set_option maxRecDepth 100000 in
theorem t123b_1 {L : Nat} {xs : Nat → Int32} {d nn : Nat} {m : yM} {k v u : Int} (hT : Ty gT m) (hU : UX 1 m (m 383 1)) (hk : -1 ≤ k ∧ k < m 383 1) (hv : -2147483648 ≤ v ∧ v < 2147483648) (hu : u = 0 ∨ u = 1) {c : Int} (hc : 0 ≤ c ∧ c < m 383 1) (ho : ∀ (x6 : Option Value) (c2 : Int), -1 ≤ c2 ∧ c2 < c → YW (gZ L xs) 123 d 3 [some (.ref 376), some (yI 1), some (yI k), some (yI v), some (yI u), some (yI c2), x6] [] m nn (qP m nn (fun r => -1 ≤ r ∧ r < m 384 1))) : ∀ (km : Nat) (i : Int), m 384 1 - i = km → 0 ≤ i ∧ i ≤ m 384 1 → YW (gZ L xs) 123 d 11 [some (.ref 376), some (yI 1), some (yI k), some (yI v), some (yI u), some (yI c), some (yI i)] [] m nn (qP m nn (fun r => -1 ≤ r ∧ r < m 384 1)) := by
  intro km
  induction km using Nat.strongRecOn with
  | ind km ih =>
    intro i hk hi
    have tb := hT.atp 383 1 0 6 rfl
    have tb2 := hT.atp 384 1 0 10 rfl
    refine y_iload 13 c123_11 rfl rfl ?_
    refine y_aload 14 c123_13 rfl rfl rfl ?_
    refine y_getR 17 c123_14 rfl kf376_21 ?_
    refine y_iload 18 c123_17 rfl rfl ?_
    refine y_iaX 19 (m 384 1) c123_18 rfl ka384 (by decide) rfl ?_
    refine y_icmp 64 22 c123_19 rfl rfl (yc_ge (by omega) (by omega)) (fun hb6326 => ?_) (fun hb6326 => ?_)
    · refine y_iload 66 c123_64 rfl rfl ?_
      refine y_if 73 69 c123_66 rfl rfl (yz_eq (by omega)) (fun hb6327 => ?_) (fun hb6327 => ?_)
      · refine y_aload 74 c123_73 rfl rfl rfl ?_
        refine y_getR 77 c123_74 rfl kf376_29 ?_
        refine y_iconst 79 c123_77 rfl ?_
        refine y_iload 80 c123_79 rfl rfl ?_
        refine y_imul 81 c123_80 rfl ?_
        refine y_top 6 (by decide) ?_
        refine y_iload 83 c123_81 rfl rfl ?_
        refine y_iadd 84 c123_83 rfl ?_
        refine y_iaT 85 ((-1)) 5 c123_84 rfl ka392 (by omega) hT rfl (fun v6328 hv6328 gv6328 => ?_)
        have huv6328 : v6328 < c := by have h0 := hU c.toNat (by omega); rw [show 6 * 1 + c.toNat = (6 + c).toNat by omega, hv6328] at h0; omega
        refine y_istore 87 c123_85 rfl rfl ?_
        refine y_goto 3 c123_87 rfl ?_
        exact ho _ v6328 (by omega)
      · refine y_iconst 70 c123_69 rfl ?_
        refine y_goto 85 c123_70 rfl ?_
        refine y_istore 87 c123_85 rfl rfl ?_
        refine y_goto 3 c123_87 rfl ?_
        exact ho _ ((-1)) (by omega)
    · refine y_aload 23 c123_22 rfl rfl rfl ?_
      refine y_getR 26 c123_23 rfl kf376_33 ?_
      refine y_iconst 28 c123_26 rfl ?_
      refine y_iload 29 c123_28 rfl rfl ?_
      refine y_imul 30 c123_29 rfl ?_
      refine y_top 10 (by decide) ?_
      refine y_iload 32 c123_30 rfl rfl ?_
      refine y_iadd 33 c123_32 rfl ?_
      refine y_iaT 34 0 5 c123_33 rfl ka396 (by omega) hT rfl (fun v6329 hv6329 gv6329 => ?_)
      refine y_iload 36 c123_34 rfl rfl ?_
      refine y_icmp 58 39 c123_36 rfl rfl (yc_ne (by omega) (by omega)) (fun hb6330 => ?_) (fun hb6330 => ?_)
      · refine y_iinc 61 c123_58 rfl rfl rfl ?_
        refine y_goto 11 c123_61 rfl ?_
        exact ih (m 384 1 - (i + 1) : Int).toNat (by omega) (i + 1)   (by omega) (by omega)
      · refine y_aload 40 c123_39 rfl rfl rfl ?_
        refine y_getR 43 c123_40 rfl kf376_32 ?_
        refine y_iconst 45 c123_43 rfl ?_
        refine y_iload 46 c123_45 rfl rfl ?_
        refine y_imul 47 c123_46 rfl ?_
        refine y_top 10 (by decide) ?_
        refine y_iload 49 c123_47 rfl rfl ?_
        refine y_iadd 50 c123_49 rfl ?_
        refine y_iaT 51 ((-2147483648)) 2147483647 c123_50 rfl ka395 (by omega) hT rfl (fun v6331 hv6331 gv6331 => ?_)
        refine y_iload 52 c123_51 rfl rfl ?_
        refine y_icmp 58 55 c123_52 rfl rfl (yc_ne (by omega) (by omega)) (fun hb6332 => ?_) (fun hb6332 => ?_)
        · refine y_iinc 61 c123_58 rfl rfl rfl ?_
          refine y_goto 11 c123_61 rfl ?_
          exact ih (m 384 1 - (i + 1) : Int).toNat (by omega) (i + 1)   (by omega) (by omega)
        · refine y_iload 57 c123_55 rfl rfl ?_
          exact y_retP c123_57 (y_fit0 _) (by omega)
set_option maxRecDepth 100000 in
theorem t123a_1 {L : Nat} {xs : Nat → Int32} {d nn : Nat} {m : yM} {k v u : Int} (hT : Ty gT m) (hU : UX 1 m (m 383 1)) (hk : -1 ≤ k ∧ k < m 383 1) (hv : -2147483648 ≤ v ∧ v < 2147483648) (hu : u = 0 ∨ u = 1) : ∀ (km : Nat) (c : Int) (x6 : Option Value), c + 1 = km → -1 ≤ c ∧ c < m 383 1 → YW (gZ L xs) 123 d 3 [some (.ref 376), some (yI 1), some (yI k), some (yI v), some (yI u), some (yI c), x6] [] m nn (qP m nn (fun r => -1 ≤ r ∧ r < m 384 1)) := by
  intro km
  induction km using Nat.strongRecOn with
  | ind km ih =>
    intro c x6 hk hc
    have tb := hT.atp 383 1 0 6 rfl
    have tb2 := hT.atp 384 1 0 10 rfl
    refine y_iload 5 c123_3 rfl rfl ?_
    refine y_if 90 8 c123_5 rfl rfl (yz_lt (by omega)) (fun hb6333 => ?_) (fun hb6333 => ?_)
    · refine y_iconst 91 c123_90 rfl ?_
      exact y_retP c123_91 (y_fit0 _) (by omega)
    · refine y_iconst 9 c123_8 rfl ?_
      refine y_istore 11 c123_9 rfl rfl ?_
      exact t123b_1 hT hU (by omega) hv hu (c := c) (by omega) (fun y6 c2 hc2 => ih (c2 + 1).toNat (by omega) c2 y6 (by omega) (by omega)) (m 384 1 - 0).toNat 0 (by omega) (by omega)
set_option maxRecDepth 100000 in
theorem t123_1 {L : Nat} {xs : Nat → Int32} {d nn : Nat} {m : yM} {k v u : Int} (hT : Ty gT m) (hU : UX 1 m (m 383 1)) (hk : -1 ≤ k ∧ k < m 383 1) (hv : -2147483648 ≤ v ∧ v < 2147483648) (hu : u = 0 ∨ u = 1) : YC (gZ L xs) d 123 [.ref 376, yI 1, yI k, yI v, yI u] m nn (qP m nn (fun r => -1 ≤ r ∧ r < m 384 1)) := by
  refine YC.mkB [some (.ref 376), some (yI 1), some (yI k), some (yI v), some (yI u), none, none] kn123 rfl rfl ?_
  refine y_iload 1 c123_0 rfl rfl ?_
  refine y_istore 3 c123_1 rfl rfl ?_
  have tb := hT.atp 383 1 0 6 rfl
  exact t123a_1 hT hU hk hv hu (k + 1).toNat k none (by omega) (by omega)
set_option maxRecDepth 100000 in
theorem t142_1 {L : Nat} {xs : Nat → Int32} {d nn : Nat} {m : yM} {k v s : Int} (hT : Ty gT m) (hU : UX 1 m (m 383 1)) (hk : -1 ≤ k ∧ k < m 383 1) (hv : -2147483648 ≤ v ∧ v < 2147483648) (hs : -2147483648 ≤ s ∧ s < 2147483648) : YC (gZ L xs) (d + 1) 142 [.ref 376, yI 1, yI k, yI v, yI s] m nn (qP m nn (fun r => -1 ≤ r ∧ r < m 384 1 ∧ (0 ≤ r → m 397 (10 + r.toNat) = s))) := by
  have tb2 := hT.atp 384 1 0 10 rfl
  refine YC.mkB [some (.ref 376), some (yI 1), some (yI k), some (yI v), some (yI s), none] kn142 rfl rfl ?_
  refine y_aload 1 c142_0 rfl rfl rfl ?_
  refine y_iload 2 c142_1 rfl rfl ?_
  refine y_iload 3 c142_2 rfl rfl ?_
  refine y_iload 4 c142_3 rfl rfl ?_
  refine y_iconst 5 c142_4 rfl ?_
  refine y_callP 8 [.ref 376, yI 1, yI k, yI v, yI 0] [] c142_5 rfl rfl rfl rfl rfl (ycanO km123 ko376) (t123_1 hT hU (by omega) (by omega) (by omega)) (fun r6334 hr6334 => ?_)
  refine y_istore 10 c142_8 rfl rfl ?_
  refine y_iload 12 c142_10 rfl rfl ?_
  refine y_if 37 15 c142_12 rfl rfl (yz_lt (by omega)) (fun hb6335 => ?_) (fun hb6335 => ?_)
  · refine y_iconst 38 c142_37 rfl ?_
    exact y_retP c142_38 (y_fit0 _) ⟨by omega, by omega, fun h => by omega⟩
  · refine y_aload 16 c142_15 rfl rfl rfl ?_
    refine y_getR 19 c142_16 rfl kf376_34 ?_
    refine y_iconst 21 c142_19 rfl ?_
    refine y_iload 22 c142_21 rfl rfl ?_
    refine y_imul 23 c142_22 rfl ?_
    refine y_top 10 (by decide) ?_
    refine y_iload 25 c142_23 rfl rfl ?_
    refine y_iadd 26 c142_25 rfl ?_
    refine y_iaT 27 0 2 c142_26 rfl ka397 (by omega) hT rfl (fun v6336 hv6336 gv6336 => ?_)
    refine y_iload 29 c142_27 rfl rfl ?_
    refine y_icmp 37 32 c142_29 rfl rfl (yc_ne (by omega) (by omega)) (fun hb6337 => ?_) (fun hb6337 => ?_)
    · refine y_iconst 38 c142_37 rfl ?_
      exact y_retP c142_38 (y_fit0 _) ⟨by omega, by omega, fun h => by omega⟩
    · refine y_iload 34 c142_32 rfl rfl ?_
      refine y_goto 38 c142_34 rfl ?_
      refine y_retP c142_38 (y_fit0 _) ⟨by omega, by omega, fun h => ?_⟩
      rw [show 10 + r6334.toNat = (10 + r6334).toNat by omega, hv6336]; omega
set_option maxRecDepth 100000 in
theorem t149a_1 {L : Nat} {xs : Nat → Int32} {d nn : Nat} {m : yM} {k u : Int} (hT : Ty gT m) (hU : UX 1 m (m 383 1)) (hk : -1 ≤ k ∧ k < m 383 1) (hu : -2147483648 ≤ u ∧ u < 2147483648) : ∀ (km : Nat) (c : Int), c + 1 = km → -1 ≤ c ∧ c < m 383 1 → YW (gZ L xs) 149 d 3 [some (.ref 376), some (yI 1), some (yI k), some (yI u), some (yI c)] [] m nn (qP m nn (fun r => r = 0 ∨ r = 1)) := by
  intro km
  induction km using Nat.strongRecOn with
  | ind km ih =>
    intro c hk hc
    have tb := hT.atp 383 1 0 6 rfl
    refine y_iload 5 c149_3 rfl rfl ?_
    refine y_if 31 8 c149_5 rfl rfl (yz_lt (by omega)) (fun hb6338 => ?_) (fun hb6338 => ?_)
    · refine y_iload 33 c149_31 rfl rfl ?_
      refine y_iload 34 c149_33 rfl rfl ?_
      refine y_icmp 41 37 c149_34 rfl rfl (yc_ne (by omega) (by omega)) (fun hb6339 => ?_) (fun hb6339 => ?_)
      · refine y_iconst 42 c149_41 rfl ?_
        exact y_retP c149_42 (y_fit1 (by omega)) (by omega)
      · refine y_iconst 38 c149_37 rfl ?_
        refine y_goto 42 c149_38 rfl ?_
        exact y_retP c149_42 (y_fit1 (by omega)) (by omega)
    · refine y_iload 10 c149_8 rfl rfl ?_
      refine y_iload 11 c149_10 rfl rfl ?_
      refine y_icmp 31 14 c149_11 rfl rfl (yc_eq (by omega) (by omega)) (fun hb6340 => ?_) (fun hb6340 => ?_)
      · refine y_iload 33 c149_31 rfl rfl ?_
        refine y_iload 34 c149_33 rfl rfl ?_
        refine y_icmp 41 37 c149_34 rfl rfl (yc_ne (by omega) (by omega)) (fun hb6341 => ?_) (fun hb6341 => ?_)
        · refine y_iconst 42 c149_41 rfl ?_
          exact y_retP c149_42 (y_fit1 (by omega)) (by omega)
        · refine y_iconst 38 c149_37 rfl ?_
          refine y_goto 42 c149_38 rfl ?_
          exact y_retP c149_42 (y_fit1 (by omega)) (by omega)
      · refine y_aload 15 c149_14 rfl rfl rfl ?_
        refine y_getR 18 c149_15 rfl kf376_29 ?_
        refine y_iconst 20 c149_18 rfl ?_
        refine y_iload 21 c149_20 rfl rfl ?_
        refine y_imul 22 c149_21 rfl ?_
        refine y_top 6 (by decide) ?_
        refine y_iload 24 c149_22 rfl rfl ?_
        refine y_iadd 25 c149_24 rfl ?_
        refine y_iaT 26 ((-1)) 5 c149_25 rfl ka392 (by omega) hT rfl (fun v6342 hv6342 gv6342 => ?_)
        have huv6342 : v6342 < c := by have h0 := hU c.toNat (by omega); rw [show 6 * 1 + c.toNat = (6 + c).toNat by omega, hv6342] at h0; omega
        refine y_istore 28 c149_26 rfl rfl ?_
        refine y_goto 3 c149_28 rfl ?_
        exact ih (v6342 + 1 : Int).toNat (by omega) v6342   (by omega) (by omega)
set_option maxRecDepth 100000 in
theorem t149_1 {L : Nat} {xs : Nat → Int32} {d nn : Nat} {m : yM} {k u : Int} (hT : Ty gT m) (hU : UX 1 m (m 383 1)) (hk : -1 ≤ k ∧ k < m 383 1) (hu : -2147483648 ≤ u ∧ u < 2147483648) : YC (gZ L xs) d 149 [.ref 376, yI 1, yI k, yI u] m nn (qP m nn (fun r => r = 0 ∨ r = 1)) := by
  refine YC.mkB [some (.ref 376), some (yI 1), some (yI k), some (yI u), none] kn149 rfl rfl ?_
  refine y_iload 1 c149_0 rfl rfl ?_
  refine y_istore 3 c149_1 rfl rfl ?_
  have tb := hT.atp 383 1 0 6 rfl
  exact t149a_1 hT hU hk hu (k + 1).toNat k (by omega) (by omega)
end
section
/-! CONTRACTS: the model, variables. Printed by wip/whole/gen96.py -/
def wVp0 (a q : Nat) : Bool := (a == 389 && q == 0) || a == 380
theorem wVp0_X : ∀ a q, vXs 0 a q = true → wVp0 a q = false := by
  intro a q h
  cases e : wVp0 a q with
  | false => rfl
  | true => simp [wVp0] at e; simp [vXs] at h; omega
def wVr0 (a q : Nat) : Bool := (a == 376 && (decide (3 ≤ q) && decide (q ≤ 8))) || (a == 389 && q == 0) || a == 380
theorem wNx_wVr0 : ∀ a q, wNx a q = true → wVr0 a q = true := by
  intro a q h
  simp [wNx] at h
  simp [wVr0]
  omega
theorem wWr_wVr0 : ∀ a q, wWr a q = true → wVr0 a q = true := by
  intro a q h
  simp [wWr] at h
  simp [wVr0]
  omega
theorem wNw_wVr0 : ∀ a q, wNw a q = true → wVr0 a q = true := by
  intro a q h
  simp [wNw] at h
  simp [wVr0]
  omega
theorem wVp0_wVr0 : ∀ a q, wVp0 a q = true → wVr0 a q = true := by
  intro a q h
  simp [wVp0] at h
  simp [wVr0]
  omega
theorem wVr0_X : ∀ a q, vXs 0 a q = true → wVr0 a q = false := by
  intro a q h
  cases e : wVr0 a q with
  | false => rfl
  | true => simp [wVr0] at e; simp [vXs] at h; omega
def wEm0 (a q : Nat) : Bool := (a == 390 && q == 0) || (a == 403 && decide (0 ≤ q ∧ q < 1000))
def wAi0 (a q : Nat) : Bool := a == 403 && decide (0 ≤ q ∧ q < 1000)
theorem wAi0_op {q : Nat} (h : 0 ≤ q ∧ q < 1000) : wAi0 403 q = true := by
  simp [wAi0]
  omega
theorem wEm0_op {q : Nat} (h : 0 ≤ q ∧ q < 1000) : wEm0 403 q = true := by
  simp [wEm0]
  omega
theorem wNx_X {p : Nat} : ∀ a q, vXs p a q = true → wNx a q = false := by
  intro a q h
  cases e : wNx a q with
  | false => rfl
  | true => simp [wNx] at e; simp [vXs] at h; omega
theorem wNw_X {p : Nat} : ∀ a q, vXs p a q = true → wNw a q = false := by
  intro a q h
  cases e : wNw a q with
  | false => rfl
  | true => simp [wNw] at e; simp [vXs] at h; omega
theorem wWr_X {p : Nat} : ∀ a q, vXs p a q = true → wWr a q = false := by
  intro a q h
  cases e : wWr a q with
  | false => rfl
  | true => simp [wWr] at e; simp [vXs] at h; omega
set_option maxRecDepth 100000 in
theorem t124_0 {L : Nat} {xs : Nat → Int32} {d nn : Nat} {m : yM} {v : Int} (hT : Ty gT m) (hn : m 376 18 = 1) (hv : -2147483648 ≤ v ∧ v < 2147483648) (h9 : m 389 0 ≤ 47) : YC (gZ L xs) (d + 1) 124 [.ref 376, yI v] m nn (qI (fun r m' n' => n' = nn ∧ Ty gT m' ∧ Fr wVp0 m m' ∧ r = m 389 0 ∧ m' 389 0 = m 389 0 + 1)) := by
  refine YC.mkB [some (.ref 376), some (yI v), none] kn124 rfl rfl ?_
  have hF : Fr wVp0 m m := Fr.rf
  refine y_aload 1 c124_0 rfl rfl rfl ?_
  refine y_callP 4 [.ref 376] [] c124_1 rfl rfl rfl rfl rfl (ycanO km96 ko376) (t96_0 (by omega)) (fun r6118 hr6118 => ?_)
  subst hr6118
  refine y_istore 5 c124_4 rfl rfl ?_
  refine y_aload 6 c124_5 rfl rfl rfl ?_
  refine y_getR 9 c124_6 rfl kf376_13 ?_
  refine y_aload 10 c124_9 rfl rfl rfl ?_
  refine y_getR 13 c124_10 rfl kf376_26 ?_
  refine y_iload 14 c124_13 rfl rfl ?_
  refine y_iaX 15 (m 389 0) c124_14 rfl ka389 (by decide) rfl ?_
  have tb6119 := hT.atp 389 0 0 48 rfl
  refine y_iload 16 c124_15 rfl rfl ?_
  refine y_iastore 17 c124_16 rfl ka380 (by omega) (y_nar0 _) ?_
  have hT6120 := hT.up 380 ((m 389 0).toNat) v ((-2147483648)) 2147483647 rfl (by omega)
  have hF6121 := hF.up 380 ((m 389 0).toNat) v rfl
  refine y_aload 18 c124_17 rfl rfl rfl ?_
  refine y_getR 21 c124_18 rfl kf376_26 ?_
  refine y_iload 22 c124_21 rfl rfl ?_
  refine y_dup2 23 c124_22 rfl ⟨rfl, rfl⟩ ?_
  refine y_iaX 24 (m 389 0) c124_23 rfl ka389 (by decide) rfl ?_
  refine y_iconst 25 c124_24 rfl ?_
  refine y_iadd 26 c124_25 rfl ?_
  refine y_iastore 27 c124_26 rfl ka389 (by omega) (y_nar0 _) ?_
  have hT6122 := hT6120.up 389 ((0 : Int).toNat) ((m 389 0) + 1) 0 48 rfl (by omega)
  have hF6123 := hF6121.up 389 ((0 : Int).toNat) ((m 389 0) + 1) rfl
  refine y_aload 28 c124_27 rfl rfl rfl ?_
  refine y_getR 31 c124_28 rfl kf376_26 ?_
  refine y_iload 32 c124_31 rfl rfl ?_
  refine y_iaX 33 ((m 389 0) + 1) c124_32 rfl ka389 (by decide) rfl ?_
  refine y_iconst 34 c124_33 rfl ?_
  refine y_isub 35 c124_34 rfl ?_
  have es6124 : (yup (yup m 380 ((m 389 0).toNat) v) 389 ((0 : Int).toNat) ((m 389 0) + 1)) 389 0 = (m 389 0) + 1 := rfl
  exact y_retI c124_35 (y_fit0 _) ⟨rfl, hT6122, hF6123, by omega⟩
set_option maxRecDepth 100000 in
theorem t130a_0 {L : Nat} {xs : Nat → Int32} {d nn : Nat} {m : yM} (hT : Ty gT m) (hl : m 376 6 ≤ m 376 1) (hn : m 376 18 = 1) (h8 : m 376 8 < 0) : ∀ (km : Nat) (v : Int) (i : Int), 48 - i = km → -1 ≤ v ∧ v ≤ 47 → 2 ≤ i ∧ i ≤ 48 → YW (gZ L xs) 130 (d + 4) 32 [some (.ref 376), some (yI 0), some (yI v), some (yI i)] [] m nn (qI (fun r m' n' => n' = nn ∧ Ty gT m' ∧ Fr wVr0 m m' ∧ m' 376 6 ≤ m' 376 1 ∧ (-1 ≤ r ∧ r ≤ 47 ∧ (0 ≤ m' 376 8 ∨ (m' 376 8 < 0 ∧ 0 ≤ r ∧ mu m' < mu m))))) := by
  intro km
  induction km using Nat.strongRecOn with
  | ind km ih =>
    intro v i hk hv hi
    have hF : Fr wVr0 m m := Fr.rf
    have tb9 := hT.atp 389 0 0 48 rfl
    refine y_iload 33 c130_32 rfl rfl ?_
    refine y_aload 34 c130_33 rfl rfl rfl ?_
    refine y_getR 37 c130_34 rfl kf376_26 ?_
    refine y_iload 38 c130_37 rfl rfl ?_
    refine y_iaX 39 (m 389 0) c130_38 rfl ka389 (by decide) rfl ?_
    refine y_icmp 70 42 c130_39 rfl rfl (yc_ge (by omega) (by omega)) (fun hb6125 => ?_) (fun hb6125 => ?_)
    · refine y_aload 71 c130_70 rfl rfl rfl ?_
      have tb6126 := hT.atp 376 3 0 3 rfl
      refine y_callP 74 [.ref 376] [] c130_71 rfl rfl rfl rfl rfl (ycanO km115 ko376) (t115 hT) (fun r6127 hr6127 => ?_)
      refine y_if 96 77 c130_74 rfl rfl (yz_eq (by omega)) (fun hb6128 => ?_) (fun hb6128 => ?_)
      · refine y_iconst 97 c130_96 rfl ?_
        refine y_istore 98 c130_97 rfl rfl ?_
        refine y_iload 99 c130_98 rfl rfl ?_
        refine y_if 115 102 c130_99 rfl rfl (yz_eq (by omega)) (fun hb6129 => ?_) (fun hb6129 => ?_)
        · refine y_aload 116 c130_115 rfl rfl rfl ?_
          refine y_iload 117 c130_116 rfl rfl ?_
          have tb6131 := hT.atp 376 1 0 320 rfl
          have tb6132 := hT.atp 376 6 0 320 rfl
          have tb6133 := hT.atp 376 8 ((-1)) 320 rfl
          refine y_callIB 120 [.ref 376, yI 0] [] c130_117 rfl rfl rfl rfl rfl (ycanO km105 ko376) (t105 (g := 0) hT (by omega) (by omega)) (fun rq6130 mq6130 nq6130 hq6130 => ?_)
          obtain ⟨rfl, hTq6130, hFq6130, hq6130⟩ := hq6130
          have x1q6130 : mq6130 376 1 = m 376 1 := (hFq6130 376 1 rfl)
          have hF6134 := hF.tr hFq6130 wNw_wVr0
          refine y_if 127 123 c130_120 rfl rfl (yz_eq (by omega)) (fun hb6135 => ?_) (fun hb6135 => ?_)
          · refine y_iconst 128 c130_127 rfl ?_
            have es6136 : mq6130 376 1 = m 376 1 := (hFq6130 376 1 rfl)
            have tb6137 := hTq6130.atp 376 3 0 3 rfl
            have tb6138 := hTq6130.atp 376 6 0 320 rfl
            have tb6139 := hTq6130.atp 376 8 ((-1)) 320 rfl
            exact y_retI c130_128 (y_fit0 _) ⟨rfl, hTq6130, hF6134, by omega, by omega⟩
          · refine y_iload 124 c130_123 rfl rfl ?_
            refine y_goto 128 c130_124 rfl ?_
            have es6140 : mq6130 376 1 = m 376 1 := (hFq6130 376 1 rfl)
            have tb6141 := hTq6130.atp 376 3 0 3 rfl
            have tb6142 := hTq6130.atp 376 6 0 320 rfl
            have tb6143 := hTq6130.atp 376 8 ((-1)) 320 rfl
            exact y_retI c130_128 (y_fit0 _) ⟨rfl, hTq6130, hF6134, by omega, by omega⟩
        · exfalso; omega
      · refine y_iload 78 c130_77 rfl rfl ?_
        refine y_if 92 81 c130_78 rfl rfl (yz_ge (by omega)) (fun hb6144 => ?_) (fun hb6144 => ?_)
        · refine y_iconst 93 c130_92 rfl ?_
          refine y_goto 97 c130_93 rfl ?_
          refine y_istore 98 c130_97 rfl rfl ?_
          refine y_iload 99 c130_98 rfl rfl ?_
          refine y_if 115 102 c130_99 rfl rfl (yz_eq (by omega)) (fun hb6145 => ?_) (fun hb6145 => ?_)
          · exfalso; omega
          · refine y_iload 103 c130_102 rfl rfl ?_
            refine y_if 115 106 c130_103 rfl rfl (yz_ge (by omega)) (fun hb6146 => ?_) (fun hb6146 => ?_)
            · refine y_aload 116 c130_115 rfl rfl rfl ?_
              refine y_iload 117 c130_116 rfl rfl ?_
              have tb6148 := hT.atp 376 1 0 320 rfl
              have tb6149 := hT.atp 376 6 0 320 rfl
              have tb6150 := hT.atp 376 8 ((-1)) 320 rfl
              refine y_callIB 120 [.ref 376, yI 1] [] c130_117 rfl rfl rfl rfl rfl (ycanO km105 ko376) (t105 (g := 1) hT (by omega) (by omega)) (fun rq6147 mq6147 nq6147 hq6147 => ?_)
              obtain ⟨rfl, hTq6147, hFq6147, hq6147⟩ := hq6147
              have x1q6147 : mq6147 376 1 = m 376 1 := (hFq6147 376 1 rfl)
              have hF6151 := hF.tr hFq6147 wNw_wVr0
              refine y_if 127 123 c130_120 rfl rfl (yz_eq (by omega)) (fun hb6152 => ?_) (fun hb6152 => ?_)
              · refine y_iconst 128 c130_127 rfl ?_
                have es6153 : mq6147 376 1 = m 376 1 := (hFq6147 376 1 rfl)
                have tb6154 := hTq6147.atp 376 3 0 3 rfl
                have tb6155 := hTq6147.atp 376 6 0 320 rfl
                have tb6156 := hTq6147.atp 376 8 ((-1)) 320 rfl
                exact y_retI c130_128 (y_fit0 _) ⟨rfl, hTq6147, hF6151, by omega, by omega⟩
              · refine y_iload 124 c130_123 rfl rfl ?_
                refine y_goto 128 c130_124 rfl ?_
                have es6157 : mq6147 376 1 = m 376 1 := (hFq6147 376 1 rfl)
                have tb6158 := hTq6147.atp 376 3 0 3 rfl
                have tb6159 := hTq6147.atp 376 6 0 320 rfl
                have tb6160 := hTq6147.atp 376 8 ((-1)) 320 rfl
                exact y_retI c130_128 (y_fit0 _) ⟨rfl, hTq6147, hF6151, by omega, by omega⟩
            · exfalso; omega
        · refine y_aload 82 c130_81 rfl rfl rfl ?_
          refine y_getR 85 c130_82 rfl kf376_26 ?_
          refine y_iload 86 c130_85 rfl rfl ?_
          refine y_iaX 87 (m 389 0) c130_86 rfl ka389 (by decide) rfl ?_
          refine y_iconst 89 c130_87 rfl ?_
          refine y_icmp 96 92 c130_89 rfl rfl (yc_ge (by omega) (by omega)) (fun hb6161 => ?_) (fun hb6161 => ?_)
          · refine y_iconst 97 c130_96 rfl ?_
            refine y_istore 98 c130_97 rfl rfl ?_
            refine y_iload 99 c130_98 rfl rfl ?_
            refine y_if 115 102 c130_99 rfl rfl (yz_eq (by omega)) (fun hb6162 => ?_) (fun hb6162 => ?_)
            · refine y_aload 116 c130_115 rfl rfl rfl ?_
              refine y_iload 117 c130_116 rfl rfl ?_
              have tb6164 := hT.atp 376 1 0 320 rfl
              have tb6165 := hT.atp 376 6 0 320 rfl
              have tb6166 := hT.atp 376 8 ((-1)) 320 rfl
              refine y_callIB 120 [.ref 376, yI 0] [] c130_117 rfl rfl rfl rfl rfl (ycanO km105 ko376) (t105 (g := 0) hT (by omega) (by omega)) (fun rq6163 mq6163 nq6163 hq6163 => ?_)
              obtain ⟨rfl, hTq6163, hFq6163, hq6163⟩ := hq6163
              have x1q6163 : mq6163 376 1 = m 376 1 := (hFq6163 376 1 rfl)
              have hF6167 := hF.tr hFq6163 wNw_wVr0
              refine y_if 127 123 c130_120 rfl rfl (yz_eq (by omega)) (fun hb6168 => ?_) (fun hb6168 => ?_)
              · refine y_iconst 128 c130_127 rfl ?_
                have es6169 : mq6163 376 1 = m 376 1 := (hFq6163 376 1 rfl)
                have tb6170 := hTq6163.atp 376 3 0 3 rfl
                have tb6171 := hTq6163.atp 376 6 0 320 rfl
                have tb6172 := hTq6163.atp 376 8 ((-1)) 320 rfl
                exact y_retI c130_128 (y_fit0 _) ⟨rfl, hTq6163, hF6167, by omega, by omega⟩
              · refine y_iload 124 c130_123 rfl rfl ?_
                refine y_goto 128 c130_124 rfl ?_
                have es6173 : mq6163 376 1 = m 376 1 := (hFq6163 376 1 rfl)
                have tb6174 := hTq6163.atp 376 3 0 3 rfl
                have tb6175 := hTq6163.atp 376 6 0 320 rfl
                have tb6176 := hTq6163.atp 376 8 ((-1)) 320 rfl
                exact y_retI c130_128 (y_fit0 _) ⟨rfl, hTq6163, hF6167, by omega, by omega⟩
            · exfalso; omega
          · refine y_iconst 93 c130_92 rfl ?_
            refine y_goto 97 c130_93 rfl ?_
            refine y_istore 98 c130_97 rfl rfl ?_
            refine y_iload 99 c130_98 rfl rfl ?_
            refine y_if 115 102 c130_99 rfl rfl (yz_eq (by omega)) (fun hb6177 => ?_) (fun hb6177 => ?_)
            · exfalso; omega
            · refine y_iload 103 c130_102 rfl rfl ?_
              refine y_if 115 106 c130_103 rfl rfl (yz_ge (by omega)) (fun hb6178 => ?_) (fun hb6178 => ?_)
              · exfalso; omega
              · refine y_aload 107 c130_106 rfl rfl rfl ?_
                refine y_aload 108 c130_107 rfl rfl rfl ?_
                refine y_getX 111 (m 376 4) c130_108 rfl kf376_4 rfl ?_
                have tb6179 := hT.atp 376 4 ((-2147483648)) 2147483647 rfl
                have tb6181 := hT.atp 376 1 0 320 rfl
                have tb6182 := hT.atp 376 6 0 320 rfl
                have tb6183 := hT.atp 376 8 ((-1)) 320 rfl
                have tb6184 := hT.atp 376 18 0 1 rfl
                refine y_callIB 114 [.ref 376, yI (m 376 4)] [] c130_111 rfl rfl rfl rfl rfl (ycanO km124 ko376) (t124_0 hT (by omega) (by omega) (by omega)) (fun rq6180 mq6180 nq6180 hq6180 => ?_)
                obtain ⟨rfl, hTq6180, hFq6180, hq6180⟩ := hq6180
                have x1q6180 : mq6180 376 1 = m 376 1 := (hFq6180 376 1 rfl)
                have hF6185 := hF.tr hFq6180 wVp0_wVr0
                refine y_istore 115 c130_114 rfl rfl ?_
                refine y_aload 116 c130_115 rfl rfl rfl ?_
                refine y_iload 117 c130_116 rfl rfl ?_
                have es6187 : mq6180 376 1 = m 376 1 := (hFq6180 376 1 rfl)
                have es6188 : mq6180 376 3 = m 376 3 := (hFq6180 376 3 rfl)
                have es6189 : mq6180 376 6 = m 376 6 := (hFq6180 376 6 rfl)
                have es6190 : mq6180 376 8 = m 376 8 := (hFq6180 376 8 rfl)
                have em6191 : mu mq6180 = mu m := mu_fr (hFq6180 376 1 rfl) (hFq6180 376 3 rfl) (hFq6180 376 6 rfl)
                refine y_callIB 120 [.ref 376, yI 1] [] c130_117 rfl rfl rfl rfl rfl (ycanO km105 ko376) (t105 (g := 1) hTq6180 (by omega) (by omega)) (fun rq6186 mq6186 nq6186 hq6186 => ?_)
                obtain ⟨rfl, hTq6186, hFq6186, hq6186⟩ := hq6186
                have x1q6186 : mq6186 376 1 = m 376 1 := ((hFq6186 376 1 rfl).trans (hFq6180 376 1 rfl))
                have hF6192 := hF6185.tr hFq6186 wNw_wVr0
                refine y_if 127 123 c130_120 rfl rfl (yz_eq (by omega)) (fun hb6193 => ?_) (fun hb6193 => ?_)
                · refine y_iconst 128 c130_127 rfl ?_
                  have es6194 : mq6186 376 1 = m 376 1 := ((hFq6186 376 1 rfl).trans (hFq6180 376 1 rfl))
                  have tb6195 := hTq6186.atp 376 3 0 3 rfl
                  have tb6196 := hTq6186.atp 376 6 0 320 rfl
                  have tb6197 := hTq6186.atp 376 8 ((-1)) 320 rfl
                  exact y_retI c130_128 (y_fit0 _) ⟨rfl, hTq6186, hF6192, by omega, by omega⟩
                · refine y_iload 124 c130_123 rfl rfl ?_
                  refine y_goto 128 c130_124 rfl ?_
                  have es6198 : mq6186 376 1 = m 376 1 := ((hFq6186 376 1 rfl).trans (hFq6180 376 1 rfl))
                  have tb6199 := hTq6186.atp 376 3 0 3 rfl
                  have tb6200 := hTq6186.atp 376 6 0 320 rfl
                  have tb6201 := hTq6186.atp 376 8 ((-1)) 320 rfl
                  exact y_retI c130_128 (y_fit0 _) ⟨rfl, hTq6186, hF6192, by omega, by omega⟩
    · refine y_aload 43 c130_42 rfl rfl rfl ?_
      have tb6202 := hT.atp 376 3 0 3 rfl
      refine y_callP 46 [.ref 376] [] c130_43 rfl rfl rfl rfl rfl (ycanO km115 ko376) (t115 hT) (fun r6203 hr6203 => ?_)
      refine y_if 70 49 c130_46 rfl rfl (yz_eq (by omega)) (fun hb6204 => ?_) (fun hb6204 => ?_)
      · refine y_aload 71 c130_70 rfl rfl rfl ?_
        refine y_callP 74 [.ref 376] [] c130_71 rfl rfl rfl rfl rfl (ycanO km115 ko376) (t115 hT) (fun r6205 hr6205 => ?_)
        refine y_if 96 77 c130_74 rfl rfl (yz_eq (by omega)) (fun hb6206 => ?_) (fun hb6206 => ?_)
        · refine y_iconst 97 c130_96 rfl ?_
          refine y_istore 98 c130_97 rfl rfl ?_
          refine y_iload 99 c130_98 rfl rfl ?_
          refine y_if 115 102 c130_99 rfl rfl (yz_eq (by omega)) (fun hb6207 => ?_) (fun hb6207 => ?_)
          · refine y_aload 116 c130_115 rfl rfl rfl ?_
            refine y_iload 117 c130_116 rfl rfl ?_
            have tb6209 := hT.atp 376 1 0 320 rfl
            have tb6210 := hT.atp 376 6 0 320 rfl
            have tb6211 := hT.atp 376 8 ((-1)) 320 rfl
            refine y_callIB 120 [.ref 376, yI 0] [] c130_117 rfl rfl rfl rfl rfl (ycanO km105 ko376) (t105 (g := 0) hT (by omega) (by omega)) (fun rq6208 mq6208 nq6208 hq6208 => ?_)
            obtain ⟨rfl, hTq6208, hFq6208, hq6208⟩ := hq6208
            have x1q6208 : mq6208 376 1 = m 376 1 := (hFq6208 376 1 rfl)
            have hF6212 := hF.tr hFq6208 wNw_wVr0
            refine y_if 127 123 c130_120 rfl rfl (yz_eq (by omega)) (fun hb6213 => ?_) (fun hb6213 => ?_)
            · refine y_iconst 128 c130_127 rfl ?_
              have es6214 : mq6208 376 1 = m 376 1 := (hFq6208 376 1 rfl)
              have tb6215 := hTq6208.atp 376 3 0 3 rfl
              have tb6216 := hTq6208.atp 376 6 0 320 rfl
              have tb6217 := hTq6208.atp 376 8 ((-1)) 320 rfl
              exact y_retI c130_128 (y_fit0 _) ⟨rfl, hTq6208, hF6212, by omega, by omega⟩
            · refine y_iload 124 c130_123 rfl rfl ?_
              refine y_goto 128 c130_124 rfl ?_
              have es6218 : mq6208 376 1 = m 376 1 := (hFq6208 376 1 rfl)
              have tb6219 := hTq6208.atp 376 3 0 3 rfl
              have tb6220 := hTq6208.atp 376 6 0 320 rfl
              have tb6221 := hTq6208.atp 376 8 ((-1)) 320 rfl
              exact y_retI c130_128 (y_fit0 _) ⟨rfl, hTq6208, hF6212, by omega, by omega⟩
          · exfalso; omega
        · refine y_iload 78 c130_77 rfl rfl ?_
          refine y_if 92 81 c130_78 rfl rfl (yz_ge (by omega)) (fun hb6222 => ?_) (fun hb6222 => ?_)
          · refine y_iconst 93 c130_92 rfl ?_
            refine y_goto 97 c130_93 rfl ?_
            refine y_istore 98 c130_97 rfl rfl ?_
            refine y_iload 99 c130_98 rfl rfl ?_
            refine y_if 115 102 c130_99 rfl rfl (yz_eq (by omega)) (fun hb6223 => ?_) (fun hb6223 => ?_)
            · exfalso; omega
            · refine y_iload 103 c130_102 rfl rfl ?_
              refine y_if 115 106 c130_103 rfl rfl (yz_ge (by omega)) (fun hb6224 => ?_) (fun hb6224 => ?_)
              · refine y_aload 116 c130_115 rfl rfl rfl ?_
                refine y_iload 117 c130_116 rfl rfl ?_
                have tb6226 := hT.atp 376 1 0 320 rfl
                have tb6227 := hT.atp 376 6 0 320 rfl
                have tb6228 := hT.atp 376 8 ((-1)) 320 rfl
                refine y_callIB 120 [.ref 376, yI 1] [] c130_117 rfl rfl rfl rfl rfl (ycanO km105 ko376) (t105 (g := 1) hT (by omega) (by omega)) (fun rq6225 mq6225 nq6225 hq6225 => ?_)
                obtain ⟨rfl, hTq6225, hFq6225, hq6225⟩ := hq6225
                have x1q6225 : mq6225 376 1 = m 376 1 := (hFq6225 376 1 rfl)
                have hF6229 := hF.tr hFq6225 wNw_wVr0
                refine y_if 127 123 c130_120 rfl rfl (yz_eq (by omega)) (fun hb6230 => ?_) (fun hb6230 => ?_)
                · refine y_iconst 128 c130_127 rfl ?_
                  have es6231 : mq6225 376 1 = m 376 1 := (hFq6225 376 1 rfl)
                  have tb6232 := hTq6225.atp 376 3 0 3 rfl
                  have tb6233 := hTq6225.atp 376 6 0 320 rfl
                  have tb6234 := hTq6225.atp 376 8 ((-1)) 320 rfl
                  exact y_retI c130_128 (y_fit0 _) ⟨rfl, hTq6225, hF6229, by omega, by omega⟩
                · refine y_iload 124 c130_123 rfl rfl ?_
                  refine y_goto 128 c130_124 rfl ?_
                  have es6235 : mq6225 376 1 = m 376 1 := (hFq6225 376 1 rfl)
                  have tb6236 := hTq6225.atp 376 3 0 3 rfl
                  have tb6237 := hTq6225.atp 376 6 0 320 rfl
                  have tb6238 := hTq6225.atp 376 8 ((-1)) 320 rfl
                  exact y_retI c130_128 (y_fit0 _) ⟨rfl, hTq6225, hF6229, by omega, by omega⟩
              · exfalso; omega
          · refine y_aload 82 c130_81 rfl rfl rfl ?_
            refine y_getR 85 c130_82 rfl kf376_26 ?_
            refine y_iload 86 c130_85 rfl rfl ?_
            refine y_iaX 87 (m 389 0) c130_86 rfl ka389 (by decide) rfl ?_
            refine y_iconst 89 c130_87 rfl ?_
            refine y_icmp 96 92 c130_89 rfl rfl (yc_ge (by omega) (by omega)) (fun hb6239 => ?_) (fun hb6239 => ?_)
            · refine y_iconst 97 c130_96 rfl ?_
              refine y_istore 98 c130_97 rfl rfl ?_
              refine y_iload 99 c130_98 rfl rfl ?_
              refine y_if 115 102 c130_99 rfl rfl (yz_eq (by omega)) (fun hb6240 => ?_) (fun hb6240 => ?_)
              · refine y_aload 116 c130_115 rfl rfl rfl ?_
                refine y_iload 117 c130_116 rfl rfl ?_
                have tb6242 := hT.atp 376 1 0 320 rfl
                have tb6243 := hT.atp 376 6 0 320 rfl
                have tb6244 := hT.atp 376 8 ((-1)) 320 rfl
                refine y_callIB 120 [.ref 376, yI 0] [] c130_117 rfl rfl rfl rfl rfl (ycanO km105 ko376) (t105 (g := 0) hT (by omega) (by omega)) (fun rq6241 mq6241 nq6241 hq6241 => ?_)
                obtain ⟨rfl, hTq6241, hFq6241, hq6241⟩ := hq6241
                have x1q6241 : mq6241 376 1 = m 376 1 := (hFq6241 376 1 rfl)
                have hF6245 := hF.tr hFq6241 wNw_wVr0
                refine y_if 127 123 c130_120 rfl rfl (yz_eq (by omega)) (fun hb6246 => ?_) (fun hb6246 => ?_)
                · refine y_iconst 128 c130_127 rfl ?_
                  have es6247 : mq6241 376 1 = m 376 1 := (hFq6241 376 1 rfl)
                  have tb6248 := hTq6241.atp 376 3 0 3 rfl
                  have tb6249 := hTq6241.atp 376 6 0 320 rfl
                  have tb6250 := hTq6241.atp 376 8 ((-1)) 320 rfl
                  exact y_retI c130_128 (y_fit0 _) ⟨rfl, hTq6241, hF6245, by omega, by omega⟩
                · refine y_iload 124 c130_123 rfl rfl ?_
                  refine y_goto 128 c130_124 rfl ?_
                  have es6251 : mq6241 376 1 = m 376 1 := (hFq6241 376 1 rfl)
                  have tb6252 := hTq6241.atp 376 3 0 3 rfl
                  have tb6253 := hTq6241.atp 376 6 0 320 rfl
                  have tb6254 := hTq6241.atp 376 8 ((-1)) 320 rfl
                  exact y_retI c130_128 (y_fit0 _) ⟨rfl, hTq6241, hF6245, by omega, by omega⟩
              · exfalso; omega
            · refine y_iconst 93 c130_92 rfl ?_
              refine y_goto 97 c130_93 rfl ?_
              refine y_istore 98 c130_97 rfl rfl ?_
              refine y_iload 99 c130_98 rfl rfl ?_
              refine y_if 115 102 c130_99 rfl rfl (yz_eq (by omega)) (fun hb6255 => ?_) (fun hb6255 => ?_)
              · exfalso; omega
              · refine y_iload 103 c130_102 rfl rfl ?_
                refine y_if 115 106 c130_103 rfl rfl (yz_ge (by omega)) (fun hb6256 => ?_) (fun hb6256 => ?_)
                · exfalso; omega
                · refine y_aload 107 c130_106 rfl rfl rfl ?_
                  refine y_aload 108 c130_107 rfl rfl rfl ?_
                  refine y_getX 111 (m 376 4) c130_108 rfl kf376_4 rfl ?_
                  have tb6257 := hT.atp 376 4 ((-2147483648)) 2147483647 rfl
                  have tb6259 := hT.atp 376 1 0 320 rfl
                  have tb6260 := hT.atp 376 6 0 320 rfl
                  have tb6261 := hT.atp 376 8 ((-1)) 320 rfl
                  have tb6262 := hT.atp 376 18 0 1 rfl
                  refine y_callIB 114 [.ref 376, yI (m 376 4)] [] c130_111 rfl rfl rfl rfl rfl (ycanO km124 ko376) (t124_0 hT (by omega) (by omega) (by omega)) (fun rq6258 mq6258 nq6258 hq6258 => ?_)
                  obtain ⟨rfl, hTq6258, hFq6258, hq6258⟩ := hq6258
                  have x1q6258 : mq6258 376 1 = m 376 1 := (hFq6258 376 1 rfl)
                  have hF6263 := hF.tr hFq6258 wVp0_wVr0
                  refine y_istore 115 c130_114 rfl rfl ?_
                  refine y_aload 116 c130_115 rfl rfl rfl ?_
                  refine y_iload 117 c130_116 rfl rfl ?_
                  have es6265 : mq6258 376 1 = m 376 1 := (hFq6258 376 1 rfl)
                  have es6266 : mq6258 376 3 = m 376 3 := (hFq6258 376 3 rfl)
                  have es6267 : mq6258 376 6 = m 376 6 := (hFq6258 376 6 rfl)
                  have es6268 : mq6258 376 8 = m 376 8 := (hFq6258 376 8 rfl)
                  have em6269 : mu mq6258 = mu m := mu_fr (hFq6258 376 1 rfl) (hFq6258 376 3 rfl) (hFq6258 376 6 rfl)
                  refine y_callIB 120 [.ref 376, yI 1] [] c130_117 rfl rfl rfl rfl rfl (ycanO km105 ko376) (t105 (g := 1) hTq6258 (by omega) (by omega)) (fun rq6264 mq6264 nq6264 hq6264 => ?_)
                  obtain ⟨rfl, hTq6264, hFq6264, hq6264⟩ := hq6264
                  have x1q6264 : mq6264 376 1 = m 376 1 := ((hFq6264 376 1 rfl).trans (hFq6258 376 1 rfl))
                  have hF6270 := hF6263.tr hFq6264 wNw_wVr0
                  refine y_if 127 123 c130_120 rfl rfl (yz_eq (by omega)) (fun hb6271 => ?_) (fun hb6271 => ?_)
                  · refine y_iconst 128 c130_127 rfl ?_
                    have es6272 : mq6264 376 1 = m 376 1 := ((hFq6264 376 1 rfl).trans (hFq6258 376 1 rfl))
                    have tb6273 := hTq6264.atp 376 3 0 3 rfl
                    have tb6274 := hTq6264.atp 376 6 0 320 rfl
                    have tb6275 := hTq6264.atp 376 8 ((-1)) 320 rfl
                    exact y_retI c130_128 (y_fit0 _) ⟨rfl, hTq6264, hF6270, by omega, by omega⟩
                  · refine y_iload 124 c130_123 rfl rfl ?_
                    refine y_goto 128 c130_124 rfl ?_
                    have es6276 : mq6264 376 1 = m 376 1 := ((hFq6264 376 1 rfl).trans (hFq6258 376 1 rfl))
                    have tb6277 := hTq6264.atp 376 3 0 3 rfl
                    have tb6278 := hTq6264.atp 376 6 0 320 rfl
                    have tb6279 := hTq6264.atp 376 8 ((-1)) 320 rfl
                    exact y_retI c130_128 (y_fit0 _) ⟨rfl, hTq6264, hF6270, by omega, by omega⟩
      · refine y_aload 50 c130_49 rfl rfl rfl ?_
        refine y_getR 53 c130_50 rfl kf376_13 ?_
        refine y_iload 54 c130_53 rfl rfl ?_
        refine y_iaT 55 ((-2147483648)) 2147483647 c130_54 rfl ka380 (by omega) hT rfl (fun v6280 hv6280 gv6280 => ?_)
        refine y_aload 56 c130_55 rfl rfl rfl ?_
        refine y_getX 59 (m 376 4) c130_56 rfl kf376_4 rfl ?_
        have tb6281 := hT.atp 376 4 ((-2147483648)) 2147483647 rfl
        refine y_icmp 64 62 c130_59 rfl rfl (yc_ne (by omega) (by omega)) (fun hb6282 => ?_) (fun hb6282 => ?_)
        · refine y_iinc 67 c130_64 rfl rfl rfl ?_
          refine y_goto 32 c130_67 rfl ?_
          exact ih (48 - (i + 1) : Int).toNat (by omega) v (i + 1)   (by omega) (by omega) (by omega)
        · refine y_iload 63 c130_62 rfl rfl ?_
          refine y_istore 64 c130_63 rfl rfl ?_
          refine y_iinc 67 c130_64 rfl rfl rfl ?_
          refine y_goto 32 c130_67 rfl ?_
          exact ih (48 - (i + 1) : Int).toNat (by omega) i (i + 1)   (by omega) (by omega) (by omega)
set_option maxRecDepth 100000 in
theorem t130_0 {L : Nat} {xs : Nat → Int32} {d nn : Nat} {m : yM} (hT : Ty gT m) (hl : m 376 6 ≤ m 376 1) (hn : m 376 18 = 1) (h8 : m 376 8 < 0) : YC (gZ L xs) (d + 4) 130 [.ref 376] m nn (qI (fun r m' n' => n' = nn ∧ Ty gT m' ∧ Fr wVr0 m m' ∧ m' 376 6 ≤ m' 376 1 ∧ (-1 ≤ r ∧ r ≤ 47 ∧ (0 ≤ m' 376 8 ∨ (m' 376 8 < 0 ∧ 0 ≤ r ∧ mu m' < mu m))))) := by
  have tb14 := hT.atp 376 14 0 46 rfl
  refine YC.mkB [some (.ref 376), none, none, none] kn130 rfl rfl ?_
  have hF : Fr wVr0 m m := Fr.rf
  refine y_aload 1 c130_0 rfl rfl rfl ?_
  have tb6284 := hT.atp 376 18 0 1 rfl
  refine y_callP 4 [.ref 376] [] c130_1 rfl rfl rfl rfl rfl (ycanO km96 ko376) (t96_0 (by omega)) (fun r6283 hr6283 => ?_)
  subst hr6283
  refine y_istore 5 c130_4 rfl rfl ?_
  refine y_aload 6 c130_5 rfl rfl rfl ?_
  have tb6285 := hT.atp 376 3 0 3 rfl
  refine y_callP 9 [.ref 376] [] c130_6 rfl rfl rfl rfl rfl (ycanO km114 ko376) (t114 hT) (fun r6286 hr6286 => ?_)
  refine y_if 23 12 c130_9 rfl rfl (yz_eq (by omega)) (fun hb6287 => ?_) (fun hb6287 => ?_)
  · refine y_iconst 24 c130_23 rfl ?_
    refine y_istore 25 c130_24 rfl rfl ?_
    refine y_aload 26 c130_25 rfl rfl rfl ?_
    refine y_getX 29 (m 376 14) c130_26 rfl kf376_14 rfl ?_
    refine y_iconst 30 c130_29 rfl ?_
    refine y_iadd 31 c130_30 rfl ?_
    refine y_istore 32 c130_31 rfl rfl ?_
    exact t130a_0 hT hl hn h8 (48 - ((m 376 14) + 2)).toNat (-1) ((m 376 14) + 2) (by omega) (by omega) (by omega)
  · refine y_aload 13 c130_12 rfl rfl rfl ?_
    have tb6289 := hT.atp 376 1 0 320 rfl
    have tb6290 := hT.atp 376 6 0 320 rfl
    have tb6291 := hT.atp 376 8 ((-1)) 320 rfl
    refine y_callUB 16 [.ref 376] [] c130_13 rfl rfl rfl rfl rfl (ycanO km99 ko376) (t99u hT (by omega)) (fun mq6288 nq6288 hq6288 => ?_)
    obtain ⟨rfl, hTq6288, hFq6288, hq6288⟩ := hq6288
    have x1q6288 : mq6288 376 1 = m 376 1 := (hFq6288 376 1 rfl)
    have hF6292 := hF.tr hFq6288 wNx_wVr0
    refine y_aload 17 c130_16 rfl rfl rfl ?_
    refine y_getX 20 (m 376 14) c130_17 rfl kf376_14 (hFq6288 376 14 rfl) ?_
    refine y_iconst 21 c130_20 rfl ?_
    refine y_iadd 22 c130_21 rfl ?_
    have es6293 : mq6288 376 1 = m 376 1 := (hFq6288 376 1 rfl)
    have tb6294 := hTq6288.atp 376 3 0 3 rfl
    have tb6295 := hTq6288.atp 376 6 0 320 rfl
    have es6296 : mq6288 376 8 = m 376 8 := (hFq6288 376 8 rfl)
    exact y_retI c130_22 (y_fit0 _) ⟨rfl, hTq6288, hF6292, by omega, by omega⟩
def wVp1 (a q : Nat) : Bool := (a == 389 && q == 1) || a == 380
theorem wVp1_X : ∀ a q, vXs 1 a q = true → wVp1 a q = false := by
  intro a q h
  cases e : wVp1 a q with
  | false => rfl
  | true => simp [wVp1] at e; simp [vXs] at h; omega
def wVr1 (a q : Nat) : Bool := (a == 376 && (decide (3 ≤ q) && decide (q ≤ 8))) || (a == 389 && q == 1) || a == 380
theorem wNx_wVr1 : ∀ a q, wNx a q = true → wVr1 a q = true := by
  intro a q h
  simp [wNx] at h
  simp [wVr1]
  omega
theorem wWr_wVr1 : ∀ a q, wWr a q = true → wVr1 a q = true := by
  intro a q h
  simp [wWr] at h
  simp [wVr1]
  omega
theorem wNw_wVr1 : ∀ a q, wNw a q = true → wVr1 a q = true := by
  intro a q h
  simp [wNw] at h
  simp [wVr1]
  omega
theorem wVp1_wVr1 : ∀ a q, wVp1 a q = true → wVr1 a q = true := by
  intro a q h
  simp [wVp1] at h
  simp [wVr1]
  omega
theorem wVr1_X : ∀ a q, vXs 1 a q = true → wVr1 a q = false := by
  intro a q h
  cases e : wVr1 a q with
  | false => rfl
  | true => simp [wVr1] at e; simp [vXs] at h; omega
def wEm1 (a q : Nat) : Bool := (a == 390 && q == 1) || (a == 403 && decide (1000 ≤ q ∧ q < 2000))
def wAi1 (a q : Nat) : Bool := a == 403 && decide (1000 ≤ q ∧ q < 2000)
theorem wAi1_op {q : Nat} (h : 1000 ≤ q ∧ q < 2000) : wAi1 403 q = true := by
  simp [wAi1]
  omega
theorem wEm1_op {q : Nat} (h : 1000 ≤ q ∧ q < 2000) : wEm1 403 q = true := by
  simp [wEm1]
  omega
set_option maxRecDepth 100000 in
theorem t124_1 {L : Nat} {xs : Nat → Int32} {d nn : Nat} {m : yM} {v : Int} (hT : Ty gT m) (hn : m 376 18 = 0) (hv : -2147483648 ≤ v ∧ v < 2147483648) (h9 : m 389 1 ≤ 47) : YC (gZ L xs) (d + 1) 124 [.ref 376, yI v] m nn (qI (fun r m' n' => n' = nn ∧ Ty gT m' ∧ Fr wVp1 m m' ∧ r = m 389 1 ∧ m' 389 1 = m 389 1 + 1)) := by
  refine YC.mkB [some (.ref 376), some (yI v), none] kn124 rfl rfl ?_
  have hF : Fr wVp1 m m := Fr.rf
  refine y_aload 1 c124_0 rfl rfl rfl ?_
  refine y_callP 4 [.ref 376] [] c124_1 rfl rfl rfl rfl rfl (ycanO km96 ko376) (t96_1 (by omega)) (fun r6343 hr6343 => ?_)
  subst hr6343
  refine y_istore 5 c124_4 rfl rfl ?_
  refine y_aload 6 c124_5 rfl rfl rfl ?_
  refine y_getR 9 c124_6 rfl kf376_13 ?_
  refine y_aload 10 c124_9 rfl rfl rfl ?_
  refine y_getR 13 c124_10 rfl kf376_26 ?_
  refine y_iload 14 c124_13 rfl rfl ?_
  refine y_iaX 15 (m 389 1) c124_14 rfl ka389 (by decide) rfl ?_
  have tb6344 := hT.atp 389 1 0 48 rfl
  refine y_iload 16 c124_15 rfl rfl ?_
  refine y_iastore 17 c124_16 rfl ka380 (by omega) (y_nar0 _) ?_
  have hT6345 := hT.up 380 ((m 389 1).toNat) v ((-2147483648)) 2147483647 rfl (by omega)
  have hF6346 := hF.up 380 ((m 389 1).toNat) v rfl
  refine y_aload 18 c124_17 rfl rfl rfl ?_
  refine y_getR 21 c124_18 rfl kf376_26 ?_
  refine y_iload 22 c124_21 rfl rfl ?_
  refine y_dup2 23 c124_22 rfl ⟨rfl, rfl⟩ ?_
  refine y_iaX 24 (m 389 1) c124_23 rfl ka389 (by decide) rfl ?_
  refine y_iconst 25 c124_24 rfl ?_
  refine y_iadd 26 c124_25 rfl ?_
  refine y_iastore 27 c124_26 rfl ka389 (by omega) (y_nar0 _) ?_
  have hT6347 := hT6345.up 389 ((1 : Int).toNat) ((m 389 1) + 1) 0 48 rfl (by omega)
  have hF6348 := hF6346.up 389 ((1 : Int).toNat) ((m 389 1) + 1) rfl
  refine y_aload 28 c124_27 rfl rfl rfl ?_
  refine y_getR 31 c124_28 rfl kf376_26 ?_
  refine y_iload 32 c124_31 rfl rfl ?_
  refine y_iaX 33 ((m 389 1) + 1) c124_32 rfl ka389 (by decide) rfl ?_
  refine y_iconst 34 c124_33 rfl ?_
  refine y_isub 35 c124_34 rfl ?_
  have es6349 : (yup (yup m 380 ((m 389 1).toNat) v) 389 ((1 : Int).toNat) ((m 389 1) + 1)) 389 1 = (m 389 1) + 1 := rfl
  exact y_retI c124_35 (y_fit0 _) ⟨rfl, hT6347, hF6348, by omega⟩
set_option maxRecDepth 100000 in
theorem t130a_1 {L : Nat} {xs : Nat → Int32} {d nn : Nat} {m : yM} (hT : Ty gT m) (hl : m 376 6 ≤ m 376 1) (hn : m 376 18 = 0) (h8 : m 376 8 < 0) : ∀ (km : Nat) (v : Int) (i : Int), 48 - i = km → -1 ≤ v ∧ v ≤ 47 → 2 ≤ i ∧ i ≤ 48 → YW (gZ L xs) 130 (d + 4) 32 [some (.ref 376), some (yI 1), some (yI v), some (yI i)] [] m nn (qI (fun r m' n' => n' = nn ∧ Ty gT m' ∧ Fr wVr1 m m' ∧ m' 376 6 ≤ m' 376 1 ∧ (-1 ≤ r ∧ r ≤ 47 ∧ (0 ≤ m' 376 8 ∨ (m' 376 8 < 0 ∧ 0 ≤ r ∧ mu m' < mu m))))) := by
  intro km
  induction km using Nat.strongRecOn with
  | ind km ih =>
    intro v i hk hv hi
    have hF : Fr wVr1 m m := Fr.rf
    have tb9 := hT.atp 389 1 0 48 rfl
    refine y_iload 33 c130_32 rfl rfl ?_
    refine y_aload 34 c130_33 rfl rfl rfl ?_
    refine y_getR 37 c130_34 rfl kf376_26 ?_
    refine y_iload 38 c130_37 rfl rfl ?_
    refine y_iaX 39 (m 389 1) c130_38 rfl ka389 (by decide) rfl ?_
    refine y_icmp 70 42 c130_39 rfl rfl (yc_ge (by omega) (by omega)) (fun hb6350 => ?_) (fun hb6350 => ?_)
    · refine y_aload 71 c130_70 rfl rfl rfl ?_
      have tb6351 := hT.atp 376 3 0 3 rfl
      refine y_callP 74 [.ref 376] [] c130_71 rfl rfl rfl rfl rfl (ycanO km115 ko376) (t115 hT) (fun r6352 hr6352 => ?_)
      refine y_if 96 77 c130_74 rfl rfl (yz_eq (by omega)) (fun hb6353 => ?_) (fun hb6353 => ?_)
      · refine y_iconst 97 c130_96 rfl ?_
        refine y_istore 98 c130_97 rfl rfl ?_
        refine y_iload 99 c130_98 rfl rfl ?_
        refine y_if 115 102 c130_99 rfl rfl (yz_eq (by omega)) (fun hb6354 => ?_) (fun hb6354 => ?_)
        · refine y_aload 116 c130_115 rfl rfl rfl ?_
          refine y_iload 117 c130_116 rfl rfl ?_
          have tb6356 := hT.atp 376 1 0 320 rfl
          have tb6357 := hT.atp 376 6 0 320 rfl
          have tb6358 := hT.atp 376 8 ((-1)) 320 rfl
          refine y_callIB 120 [.ref 376, yI 0] [] c130_117 rfl rfl rfl rfl rfl (ycanO km105 ko376) (t105 (g := 0) hT (by omega) (by omega)) (fun rq6355 mq6355 nq6355 hq6355 => ?_)
          obtain ⟨rfl, hTq6355, hFq6355, hq6355⟩ := hq6355
          have x1q6355 : mq6355 376 1 = m 376 1 := (hFq6355 376 1 rfl)
          have hF6359 := hF.tr hFq6355 wNw_wVr1
          refine y_if 127 123 c130_120 rfl rfl (yz_eq (by omega)) (fun hb6360 => ?_) (fun hb6360 => ?_)
          · refine y_iconst 128 c130_127 rfl ?_
            have es6361 : mq6355 376 1 = m 376 1 := (hFq6355 376 1 rfl)
            have tb6362 := hTq6355.atp 376 3 0 3 rfl
            have tb6363 := hTq6355.atp 376 6 0 320 rfl
            have tb6364 := hTq6355.atp 376 8 ((-1)) 320 rfl
            exact y_retI c130_128 (y_fit0 _) ⟨rfl, hTq6355, hF6359, by omega, by omega⟩
          · refine y_iload 124 c130_123 rfl rfl ?_
            refine y_goto 128 c130_124 rfl ?_
            have es6365 : mq6355 376 1 = m 376 1 := (hFq6355 376 1 rfl)
            have tb6366 := hTq6355.atp 376 3 0 3 rfl
            have tb6367 := hTq6355.atp 376 6 0 320 rfl
            have tb6368 := hTq6355.atp 376 8 ((-1)) 320 rfl
            exact y_retI c130_128 (y_fit0 _) ⟨rfl, hTq6355, hF6359, by omega, by omega⟩
        · exfalso; omega
      · refine y_iload 78 c130_77 rfl rfl ?_
        refine y_if 92 81 c130_78 rfl rfl (yz_ge (by omega)) (fun hb6369 => ?_) (fun hb6369 => ?_)
        · refine y_iconst 93 c130_92 rfl ?_
          refine y_goto 97 c130_93 rfl ?_
          refine y_istore 98 c130_97 rfl rfl ?_
          refine y_iload 99 c130_98 rfl rfl ?_
          refine y_if 115 102 c130_99 rfl rfl (yz_eq (by omega)) (fun hb6370 => ?_) (fun hb6370 => ?_)
          · exfalso; omega
          · refine y_iload 103 c130_102 rfl rfl ?_
            refine y_if 115 106 c130_103 rfl rfl (yz_ge (by omega)) (fun hb6371 => ?_) (fun hb6371 => ?_)
            · refine y_aload 116 c130_115 rfl rfl rfl ?_
              refine y_iload 117 c130_116 rfl rfl ?_
              have tb6373 := hT.atp 376 1 0 320 rfl
              have tb6374 := hT.atp 376 6 0 320 rfl
              have tb6375 := hT.atp 376 8 ((-1)) 320 rfl
              refine y_callIB 120 [.ref 376, yI 1] [] c130_117 rfl rfl rfl rfl rfl (ycanO km105 ko376) (t105 (g := 1) hT (by omega) (by omega)) (fun rq6372 mq6372 nq6372 hq6372 => ?_)
              obtain ⟨rfl, hTq6372, hFq6372, hq6372⟩ := hq6372
              have x1q6372 : mq6372 376 1 = m 376 1 := (hFq6372 376 1 rfl)
              have hF6376 := hF.tr hFq6372 wNw_wVr1
              refine y_if 127 123 c130_120 rfl rfl (yz_eq (by omega)) (fun hb6377 => ?_) (fun hb6377 => ?_)
              · refine y_iconst 128 c130_127 rfl ?_
                have es6378 : mq6372 376 1 = m 376 1 := (hFq6372 376 1 rfl)
                have tb6379 := hTq6372.atp 376 3 0 3 rfl
                have tb6380 := hTq6372.atp 376 6 0 320 rfl
                have tb6381 := hTq6372.atp 376 8 ((-1)) 320 rfl
                exact y_retI c130_128 (y_fit0 _) ⟨rfl, hTq6372, hF6376, by omega, by omega⟩
              · refine y_iload 124 c130_123 rfl rfl ?_
                refine y_goto 128 c130_124 rfl ?_
                have es6382 : mq6372 376 1 = m 376 1 := (hFq6372 376 1 rfl)
                have tb6383 := hTq6372.atp 376 3 0 3 rfl
                have tb6384 := hTq6372.atp 376 6 0 320 rfl
                have tb6385 := hTq6372.atp 376 8 ((-1)) 320 rfl
                exact y_retI c130_128 (y_fit0 _) ⟨rfl, hTq6372, hF6376, by omega, by omega⟩
            · exfalso; omega
        · refine y_aload 82 c130_81 rfl rfl rfl ?_
          refine y_getR 85 c130_82 rfl kf376_26 ?_
          refine y_iload 86 c130_85 rfl rfl ?_
          refine y_iaX 87 (m 389 1) c130_86 rfl ka389 (by decide) rfl ?_
          refine y_iconst 89 c130_87 rfl ?_
          refine y_icmp 96 92 c130_89 rfl rfl (yc_ge (by omega) (by omega)) (fun hb6386 => ?_) (fun hb6386 => ?_)
          · refine y_iconst 97 c130_96 rfl ?_
            refine y_istore 98 c130_97 rfl rfl ?_
            refine y_iload 99 c130_98 rfl rfl ?_
            refine y_if 115 102 c130_99 rfl rfl (yz_eq (by omega)) (fun hb6387 => ?_) (fun hb6387 => ?_)
            · refine y_aload 116 c130_115 rfl rfl rfl ?_
              refine y_iload 117 c130_116 rfl rfl ?_
              have tb6389 := hT.atp 376 1 0 320 rfl
              have tb6390 := hT.atp 376 6 0 320 rfl
              have tb6391 := hT.atp 376 8 ((-1)) 320 rfl
              refine y_callIB 120 [.ref 376, yI 0] [] c130_117 rfl rfl rfl rfl rfl (ycanO km105 ko376) (t105 (g := 0) hT (by omega) (by omega)) (fun rq6388 mq6388 nq6388 hq6388 => ?_)
              obtain ⟨rfl, hTq6388, hFq6388, hq6388⟩ := hq6388
              have x1q6388 : mq6388 376 1 = m 376 1 := (hFq6388 376 1 rfl)
              have hF6392 := hF.tr hFq6388 wNw_wVr1
              refine y_if 127 123 c130_120 rfl rfl (yz_eq (by omega)) (fun hb6393 => ?_) (fun hb6393 => ?_)
              · refine y_iconst 128 c130_127 rfl ?_
                have es6394 : mq6388 376 1 = m 376 1 := (hFq6388 376 1 rfl)
                have tb6395 := hTq6388.atp 376 3 0 3 rfl
                have tb6396 := hTq6388.atp 376 6 0 320 rfl
                have tb6397 := hTq6388.atp 376 8 ((-1)) 320 rfl
                exact y_retI c130_128 (y_fit0 _) ⟨rfl, hTq6388, hF6392, by omega, by omega⟩
              · refine y_iload 124 c130_123 rfl rfl ?_
                refine y_goto 128 c130_124 rfl ?_
                have es6398 : mq6388 376 1 = m 376 1 := (hFq6388 376 1 rfl)
                have tb6399 := hTq6388.atp 376 3 0 3 rfl
                have tb6400 := hTq6388.atp 376 6 0 320 rfl
                have tb6401 := hTq6388.atp 376 8 ((-1)) 320 rfl
                exact y_retI c130_128 (y_fit0 _) ⟨rfl, hTq6388, hF6392, by omega, by omega⟩
            · exfalso; omega
          · refine y_iconst 93 c130_92 rfl ?_
            refine y_goto 97 c130_93 rfl ?_
            refine y_istore 98 c130_97 rfl rfl ?_
            refine y_iload 99 c130_98 rfl rfl ?_
            refine y_if 115 102 c130_99 rfl rfl (yz_eq (by omega)) (fun hb6402 => ?_) (fun hb6402 => ?_)
            · exfalso; omega
            · refine y_iload 103 c130_102 rfl rfl ?_
              refine y_if 115 106 c130_103 rfl rfl (yz_ge (by omega)) (fun hb6403 => ?_) (fun hb6403 => ?_)
              · exfalso; omega
              · refine y_aload 107 c130_106 rfl rfl rfl ?_
                refine y_aload 108 c130_107 rfl rfl rfl ?_
                refine y_getX 111 (m 376 4) c130_108 rfl kf376_4 rfl ?_
                have tb6404 := hT.atp 376 4 ((-2147483648)) 2147483647 rfl
                have tb6406 := hT.atp 376 1 0 320 rfl
                have tb6407 := hT.atp 376 6 0 320 rfl
                have tb6408 := hT.atp 376 8 ((-1)) 320 rfl
                have tb6409 := hT.atp 376 18 0 1 rfl
                refine y_callIB 114 [.ref 376, yI (m 376 4)] [] c130_111 rfl rfl rfl rfl rfl (ycanO km124 ko376) (t124_1 hT (by omega) (by omega) (by omega)) (fun rq6405 mq6405 nq6405 hq6405 => ?_)
                obtain ⟨rfl, hTq6405, hFq6405, hq6405⟩ := hq6405
                have x1q6405 : mq6405 376 1 = m 376 1 := (hFq6405 376 1 rfl)
                have hF6410 := hF.tr hFq6405 wVp1_wVr1
                refine y_istore 115 c130_114 rfl rfl ?_
                refine y_aload 116 c130_115 rfl rfl rfl ?_
                refine y_iload 117 c130_116 rfl rfl ?_
                have es6412 : mq6405 376 1 = m 376 1 := (hFq6405 376 1 rfl)
                have es6413 : mq6405 376 3 = m 376 3 := (hFq6405 376 3 rfl)
                have es6414 : mq6405 376 6 = m 376 6 := (hFq6405 376 6 rfl)
                have es6415 : mq6405 376 8 = m 376 8 := (hFq6405 376 8 rfl)
                have em6416 : mu mq6405 = mu m := mu_fr (hFq6405 376 1 rfl) (hFq6405 376 3 rfl) (hFq6405 376 6 rfl)
                refine y_callIB 120 [.ref 376, yI 1] [] c130_117 rfl rfl rfl rfl rfl (ycanO km105 ko376) (t105 (g := 1) hTq6405 (by omega) (by omega)) (fun rq6411 mq6411 nq6411 hq6411 => ?_)
                obtain ⟨rfl, hTq6411, hFq6411, hq6411⟩ := hq6411
                have x1q6411 : mq6411 376 1 = m 376 1 := ((hFq6411 376 1 rfl).trans (hFq6405 376 1 rfl))
                have hF6417 := hF6410.tr hFq6411 wNw_wVr1
                refine y_if 127 123 c130_120 rfl rfl (yz_eq (by omega)) (fun hb6418 => ?_) (fun hb6418 => ?_)
                · refine y_iconst 128 c130_127 rfl ?_
                  have es6419 : mq6411 376 1 = m 376 1 := ((hFq6411 376 1 rfl).trans (hFq6405 376 1 rfl))
                  have tb6420 := hTq6411.atp 376 3 0 3 rfl
                  have tb6421 := hTq6411.atp 376 6 0 320 rfl
                  have tb6422 := hTq6411.atp 376 8 ((-1)) 320 rfl
                  exact y_retI c130_128 (y_fit0 _) ⟨rfl, hTq6411, hF6417, by omega, by omega⟩
                · refine y_iload 124 c130_123 rfl rfl ?_
                  refine y_goto 128 c130_124 rfl ?_
                  have es6423 : mq6411 376 1 = m 376 1 := ((hFq6411 376 1 rfl).trans (hFq6405 376 1 rfl))
                  have tb6424 := hTq6411.atp 376 3 0 3 rfl
                  have tb6425 := hTq6411.atp 376 6 0 320 rfl
                  have tb6426 := hTq6411.atp 376 8 ((-1)) 320 rfl
                  exact y_retI c130_128 (y_fit0 _) ⟨rfl, hTq6411, hF6417, by omega, by omega⟩
    · refine y_aload 43 c130_42 rfl rfl rfl ?_
      have tb6427 := hT.atp 376 3 0 3 rfl
      refine y_callP 46 [.ref 376] [] c130_43 rfl rfl rfl rfl rfl (ycanO km115 ko376) (t115 hT) (fun r6428 hr6428 => ?_)
      refine y_if 70 49 c130_46 rfl rfl (yz_eq (by omega)) (fun hb6429 => ?_) (fun hb6429 => ?_)
      · refine y_aload 71 c130_70 rfl rfl rfl ?_
        refine y_callP 74 [.ref 376] [] c130_71 rfl rfl rfl rfl rfl (ycanO km115 ko376) (t115 hT) (fun r6430 hr6430 => ?_)
        refine y_if 96 77 c130_74 rfl rfl (yz_eq (by omega)) (fun hb6431 => ?_) (fun hb6431 => ?_)
        · refine y_iconst 97 c130_96 rfl ?_
          refine y_istore 98 c130_97 rfl rfl ?_
          refine y_iload 99 c130_98 rfl rfl ?_
          refine y_if 115 102 c130_99 rfl rfl (yz_eq (by omega)) (fun hb6432 => ?_) (fun hb6432 => ?_)
          · refine y_aload 116 c130_115 rfl rfl rfl ?_
            refine y_iload 117 c130_116 rfl rfl ?_
            have tb6434 := hT.atp 376 1 0 320 rfl
            have tb6435 := hT.atp 376 6 0 320 rfl
            have tb6436 := hT.atp 376 8 ((-1)) 320 rfl
            refine y_callIB 120 [.ref 376, yI 0] [] c130_117 rfl rfl rfl rfl rfl (ycanO km105 ko376) (t105 (g := 0) hT (by omega) (by omega)) (fun rq6433 mq6433 nq6433 hq6433 => ?_)
            obtain ⟨rfl, hTq6433, hFq6433, hq6433⟩ := hq6433
            have x1q6433 : mq6433 376 1 = m 376 1 := (hFq6433 376 1 rfl)
            have hF6437 := hF.tr hFq6433 wNw_wVr1
            refine y_if 127 123 c130_120 rfl rfl (yz_eq (by omega)) (fun hb6438 => ?_) (fun hb6438 => ?_)
            · refine y_iconst 128 c130_127 rfl ?_
              have es6439 : mq6433 376 1 = m 376 1 := (hFq6433 376 1 rfl)
              have tb6440 := hTq6433.atp 376 3 0 3 rfl
              have tb6441 := hTq6433.atp 376 6 0 320 rfl
              have tb6442 := hTq6433.atp 376 8 ((-1)) 320 rfl
              exact y_retI c130_128 (y_fit0 _) ⟨rfl, hTq6433, hF6437, by omega, by omega⟩
            · refine y_iload 124 c130_123 rfl rfl ?_
              refine y_goto 128 c130_124 rfl ?_
              have es6443 : mq6433 376 1 = m 376 1 := (hFq6433 376 1 rfl)
              have tb6444 := hTq6433.atp 376 3 0 3 rfl
              have tb6445 := hTq6433.atp 376 6 0 320 rfl
              have tb6446 := hTq6433.atp 376 8 ((-1)) 320 rfl
              exact y_retI c130_128 (y_fit0 _) ⟨rfl, hTq6433, hF6437, by omega, by omega⟩
          · exfalso; omega
        · refine y_iload 78 c130_77 rfl rfl ?_
          refine y_if 92 81 c130_78 rfl rfl (yz_ge (by omega)) (fun hb6447 => ?_) (fun hb6447 => ?_)
          · refine y_iconst 93 c130_92 rfl ?_
            refine y_goto 97 c130_93 rfl ?_
            refine y_istore 98 c130_97 rfl rfl ?_
            refine y_iload 99 c130_98 rfl rfl ?_
            refine y_if 115 102 c130_99 rfl rfl (yz_eq (by omega)) (fun hb6448 => ?_) (fun hb6448 => ?_)
            · exfalso; omega
            · refine y_iload 103 c130_102 rfl rfl ?_
              refine y_if 115 106 c130_103 rfl rfl (yz_ge (by omega)) (fun hb6449 => ?_) (fun hb6449 => ?_)
              · refine y_aload 116 c130_115 rfl rfl rfl ?_
                refine y_iload 117 c130_116 rfl rfl ?_
                have tb6451 := hT.atp 376 1 0 320 rfl
                have tb6452 := hT.atp 376 6 0 320 rfl
                have tb6453 := hT.atp 376 8 ((-1)) 320 rfl
                refine y_callIB 120 [.ref 376, yI 1] [] c130_117 rfl rfl rfl rfl rfl (ycanO km105 ko376) (t105 (g := 1) hT (by omega) (by omega)) (fun rq6450 mq6450 nq6450 hq6450 => ?_)
                obtain ⟨rfl, hTq6450, hFq6450, hq6450⟩ := hq6450
                have x1q6450 : mq6450 376 1 = m 376 1 := (hFq6450 376 1 rfl)
                have hF6454 := hF.tr hFq6450 wNw_wVr1
                refine y_if 127 123 c130_120 rfl rfl (yz_eq (by omega)) (fun hb6455 => ?_) (fun hb6455 => ?_)
                · refine y_iconst 128 c130_127 rfl ?_
                  have es6456 : mq6450 376 1 = m 376 1 := (hFq6450 376 1 rfl)
                  have tb6457 := hTq6450.atp 376 3 0 3 rfl
                  have tb6458 := hTq6450.atp 376 6 0 320 rfl
                  have tb6459 := hTq6450.atp 376 8 ((-1)) 320 rfl
                  exact y_retI c130_128 (y_fit0 _) ⟨rfl, hTq6450, hF6454, by omega, by omega⟩
                · refine y_iload 124 c130_123 rfl rfl ?_
                  refine y_goto 128 c130_124 rfl ?_
                  have es6460 : mq6450 376 1 = m 376 1 := (hFq6450 376 1 rfl)
                  have tb6461 := hTq6450.atp 376 3 0 3 rfl
                  have tb6462 := hTq6450.atp 376 6 0 320 rfl
                  have tb6463 := hTq6450.atp 376 8 ((-1)) 320 rfl
                  exact y_retI c130_128 (y_fit0 _) ⟨rfl, hTq6450, hF6454, by omega, by omega⟩
              · exfalso; omega
          · refine y_aload 82 c130_81 rfl rfl rfl ?_
            refine y_getR 85 c130_82 rfl kf376_26 ?_
            refine y_iload 86 c130_85 rfl rfl ?_
            refine y_iaX 87 (m 389 1) c130_86 rfl ka389 (by decide) rfl ?_
            refine y_iconst 89 c130_87 rfl ?_
            refine y_icmp 96 92 c130_89 rfl rfl (yc_ge (by omega) (by omega)) (fun hb6464 => ?_) (fun hb6464 => ?_)
            · refine y_iconst 97 c130_96 rfl ?_
              refine y_istore 98 c130_97 rfl rfl ?_
              refine y_iload 99 c130_98 rfl rfl ?_
              refine y_if 115 102 c130_99 rfl rfl (yz_eq (by omega)) (fun hb6465 => ?_) (fun hb6465 => ?_)
              · refine y_aload 116 c130_115 rfl rfl rfl ?_
                refine y_iload 117 c130_116 rfl rfl ?_
                have tb6467 := hT.atp 376 1 0 320 rfl
                have tb6468 := hT.atp 376 6 0 320 rfl
                have tb6469 := hT.atp 376 8 ((-1)) 320 rfl
                refine y_callIB 120 [.ref 376, yI 0] [] c130_117 rfl rfl rfl rfl rfl (ycanO km105 ko376) (t105 (g := 0) hT (by omega) (by omega)) (fun rq6466 mq6466 nq6466 hq6466 => ?_)
                obtain ⟨rfl, hTq6466, hFq6466, hq6466⟩ := hq6466
                have x1q6466 : mq6466 376 1 = m 376 1 := (hFq6466 376 1 rfl)
                have hF6470 := hF.tr hFq6466 wNw_wVr1
                refine y_if 127 123 c130_120 rfl rfl (yz_eq (by omega)) (fun hb6471 => ?_) (fun hb6471 => ?_)
                · refine y_iconst 128 c130_127 rfl ?_
                  have es6472 : mq6466 376 1 = m 376 1 := (hFq6466 376 1 rfl)
                  have tb6473 := hTq6466.atp 376 3 0 3 rfl
                  have tb6474 := hTq6466.atp 376 6 0 320 rfl
                  have tb6475 := hTq6466.atp 376 8 ((-1)) 320 rfl
                  exact y_retI c130_128 (y_fit0 _) ⟨rfl, hTq6466, hF6470, by omega, by omega⟩
                · refine y_iload 124 c130_123 rfl rfl ?_
                  refine y_goto 128 c130_124 rfl ?_
                  have es6476 : mq6466 376 1 = m 376 1 := (hFq6466 376 1 rfl)
                  have tb6477 := hTq6466.atp 376 3 0 3 rfl
                  have tb6478 := hTq6466.atp 376 6 0 320 rfl
                  have tb6479 := hTq6466.atp 376 8 ((-1)) 320 rfl
                  exact y_retI c130_128 (y_fit0 _) ⟨rfl, hTq6466, hF6470, by omega, by omega⟩
              · exfalso; omega
            · refine y_iconst 93 c130_92 rfl ?_
              refine y_goto 97 c130_93 rfl ?_
              refine y_istore 98 c130_97 rfl rfl ?_
              refine y_iload 99 c130_98 rfl rfl ?_
              refine y_if 115 102 c130_99 rfl rfl (yz_eq (by omega)) (fun hb6480 => ?_) (fun hb6480 => ?_)
              · exfalso; omega
              · refine y_iload 103 c130_102 rfl rfl ?_
                refine y_if 115 106 c130_103 rfl rfl (yz_ge (by omega)) (fun hb6481 => ?_) (fun hb6481 => ?_)
                · exfalso; omega
                · refine y_aload 107 c130_106 rfl rfl rfl ?_
                  refine y_aload 108 c130_107 rfl rfl rfl ?_
                  refine y_getX 111 (m 376 4) c130_108 rfl kf376_4 rfl ?_
                  have tb6482 := hT.atp 376 4 ((-2147483648)) 2147483647 rfl
                  have tb6484 := hT.atp 376 1 0 320 rfl
                  have tb6485 := hT.atp 376 6 0 320 rfl
                  have tb6486 := hT.atp 376 8 ((-1)) 320 rfl
                  have tb6487 := hT.atp 376 18 0 1 rfl
                  refine y_callIB 114 [.ref 376, yI (m 376 4)] [] c130_111 rfl rfl rfl rfl rfl (ycanO km124 ko376) (t124_1 hT (by omega) (by omega) (by omega)) (fun rq6483 mq6483 nq6483 hq6483 => ?_)
                  obtain ⟨rfl, hTq6483, hFq6483, hq6483⟩ := hq6483
                  have x1q6483 : mq6483 376 1 = m 376 1 := (hFq6483 376 1 rfl)
                  have hF6488 := hF.tr hFq6483 wVp1_wVr1
                  refine y_istore 115 c130_114 rfl rfl ?_
                  refine y_aload 116 c130_115 rfl rfl rfl ?_
                  refine y_iload 117 c130_116 rfl rfl ?_
                  have es6490 : mq6483 376 1 = m 376 1 := (hFq6483 376 1 rfl)
                  have es6491 : mq6483 376 3 = m 376 3 := (hFq6483 376 3 rfl)
                  have es6492 : mq6483 376 6 = m 376 6 := (hFq6483 376 6 rfl)
                  have es6493 : mq6483 376 8 = m 376 8 := (hFq6483 376 8 rfl)
                  have em6494 : mu mq6483 = mu m := mu_fr (hFq6483 376 1 rfl) (hFq6483 376 3 rfl) (hFq6483 376 6 rfl)
                  refine y_callIB 120 [.ref 376, yI 1] [] c130_117 rfl rfl rfl rfl rfl (ycanO km105 ko376) (t105 (g := 1) hTq6483 (by omega) (by omega)) (fun rq6489 mq6489 nq6489 hq6489 => ?_)
                  obtain ⟨rfl, hTq6489, hFq6489, hq6489⟩ := hq6489
                  have x1q6489 : mq6489 376 1 = m 376 1 := ((hFq6489 376 1 rfl).trans (hFq6483 376 1 rfl))
                  have hF6495 := hF6488.tr hFq6489 wNw_wVr1
                  refine y_if 127 123 c130_120 rfl rfl (yz_eq (by omega)) (fun hb6496 => ?_) (fun hb6496 => ?_)
                  · refine y_iconst 128 c130_127 rfl ?_
                    have es6497 : mq6489 376 1 = m 376 1 := ((hFq6489 376 1 rfl).trans (hFq6483 376 1 rfl))
                    have tb6498 := hTq6489.atp 376 3 0 3 rfl
                    have tb6499 := hTq6489.atp 376 6 0 320 rfl
                    have tb6500 := hTq6489.atp 376 8 ((-1)) 320 rfl
                    exact y_retI c130_128 (y_fit0 _) ⟨rfl, hTq6489, hF6495, by omega, by omega⟩
                  · refine y_iload 124 c130_123 rfl rfl ?_
                    refine y_goto 128 c130_124 rfl ?_
                    have es6501 : mq6489 376 1 = m 376 1 := ((hFq6489 376 1 rfl).trans (hFq6483 376 1 rfl))
                    have tb6502 := hTq6489.atp 376 3 0 3 rfl
                    have tb6503 := hTq6489.atp 376 6 0 320 rfl
                    have tb6504 := hTq6489.atp 376 8 ((-1)) 320 rfl
                    exact y_retI c130_128 (y_fit0 _) ⟨rfl, hTq6489, hF6495, by omega, by omega⟩
      · refine y_aload 50 c130_49 rfl rfl rfl ?_
        refine y_getR 53 c130_50 rfl kf376_13 ?_
        refine y_iload 54 c130_53 rfl rfl ?_
        refine y_iaT 55 ((-2147483648)) 2147483647 c130_54 rfl ka380 (by omega) hT rfl (fun v6505 hv6505 gv6505 => ?_)
        refine y_aload 56 c130_55 rfl rfl rfl ?_
        refine y_getX 59 (m 376 4) c130_56 rfl kf376_4 rfl ?_
        have tb6506 := hT.atp 376 4 ((-2147483648)) 2147483647 rfl
        refine y_icmp 64 62 c130_59 rfl rfl (yc_ne (by omega) (by omega)) (fun hb6507 => ?_) (fun hb6507 => ?_)
        · refine y_iinc 67 c130_64 rfl rfl rfl ?_
          refine y_goto 32 c130_67 rfl ?_
          exact ih (48 - (i + 1) : Int).toNat (by omega) v (i + 1)   (by omega) (by omega) (by omega)
        · refine y_iload 63 c130_62 rfl rfl ?_
          refine y_istore 64 c130_63 rfl rfl ?_
          refine y_iinc 67 c130_64 rfl rfl rfl ?_
          refine y_goto 32 c130_67 rfl ?_
          exact ih (48 - (i + 1) : Int).toNat (by omega) i (i + 1)   (by omega) (by omega) (by omega)
set_option maxRecDepth 100000 in
theorem t130_1 {L : Nat} {xs : Nat → Int32} {d nn : Nat} {m : yM} (hT : Ty gT m) (hl : m 376 6 ≤ m 376 1) (hn : m 376 18 = 0) (h8 : m 376 8 < 0) : YC (gZ L xs) (d + 4) 130 [.ref 376] m nn (qI (fun r m' n' => n' = nn ∧ Ty gT m' ∧ Fr wVr1 m m' ∧ m' 376 6 ≤ m' 376 1 ∧ (-1 ≤ r ∧ r ≤ 47 ∧ (0 ≤ m' 376 8 ∨ (m' 376 8 < 0 ∧ 0 ≤ r ∧ mu m' < mu m))))) := by
  have tb14 := hT.atp 376 14 0 46 rfl
  refine YC.mkB [some (.ref 376), none, none, none] kn130 rfl rfl ?_
  have hF : Fr wVr1 m m := Fr.rf
  refine y_aload 1 c130_0 rfl rfl rfl ?_
  have tb6509 := hT.atp 376 18 0 1 rfl
  refine y_callP 4 [.ref 376] [] c130_1 rfl rfl rfl rfl rfl (ycanO km96 ko376) (t96_1 (by omega)) (fun r6508 hr6508 => ?_)
  subst hr6508
  refine y_istore 5 c130_4 rfl rfl ?_
  refine y_aload 6 c130_5 rfl rfl rfl ?_
  have tb6510 := hT.atp 376 3 0 3 rfl
  refine y_callP 9 [.ref 376] [] c130_6 rfl rfl rfl rfl rfl (ycanO km114 ko376) (t114 hT) (fun r6511 hr6511 => ?_)
  refine y_if 23 12 c130_9 rfl rfl (yz_eq (by omega)) (fun hb6512 => ?_) (fun hb6512 => ?_)
  · refine y_iconst 24 c130_23 rfl ?_
    refine y_istore 25 c130_24 rfl rfl ?_
    refine y_aload 26 c130_25 rfl rfl rfl ?_
    refine y_getX 29 (m 376 14) c130_26 rfl kf376_14 rfl ?_
    refine y_iconst 30 c130_29 rfl ?_
    refine y_iadd 31 c130_30 rfl ?_
    refine y_istore 32 c130_31 rfl rfl ?_
    exact t130a_1 hT hl hn h8 (48 - ((m 376 14) + 2)).toNat (-1) ((m 376 14) + 2) (by omega) (by omega) (by omega)
  · refine y_aload 13 c130_12 rfl rfl rfl ?_
    have tb6514 := hT.atp 376 1 0 320 rfl
    have tb6515 := hT.atp 376 6 0 320 rfl
    have tb6516 := hT.atp 376 8 ((-1)) 320 rfl
    refine y_callUB 16 [.ref 376] [] c130_13 rfl rfl rfl rfl rfl (ycanO km99 ko376) (t99u hT (by omega)) (fun mq6513 nq6513 hq6513 => ?_)
    obtain ⟨rfl, hTq6513, hFq6513, hq6513⟩ := hq6513
    have x1q6513 : mq6513 376 1 = m 376 1 := (hFq6513 376 1 rfl)
    have hF6517 := hF.tr hFq6513 wNx_wVr1
    refine y_aload 17 c130_16 rfl rfl rfl ?_
    refine y_getX 20 (m 376 14) c130_17 rfl kf376_14 (hFq6513 376 14 rfl) ?_
    refine y_iconst 21 c130_20 rfl ?_
    refine y_iadd 22 c130_21 rfl ?_
    have es6518 : mq6513 376 1 = m 376 1 := (hFq6513 376 1 rfl)
    have tb6519 := hTq6513.atp 376 3 0 3 rfl
    have tb6520 := hTq6513.atp 376 6 0 320 rfl
    have es6521 : mq6513 376 8 = m 376 8 := (hFq6513 376 8 rfl)
    exact y_retI c130_22 (y_fit0 _) ⟨rfl, hTq6513, hF6517, by omega, by omega⟩
end
section
/-! CONTRACTS: the model, operations. Printed by wip/whole/gen96.py -/
set_option maxRecDepth 100000 in
theorem t127_0 {L : Nat} {xs : Nat → Int32} {d nn : Nat} {m : yM} {v a b c : Int} (hT : Ty gT m) (hn : m 376 18 = 1) (hv : -2147483648 ≤ v ∧ v < 2147483648) (ha : -2147483648 ≤ a ∧ a < 2147483648) (hb : -2147483648 ≤ b ∧ b < 2147483648) (hc : -2147483648 ≤ c ∧ c < 2147483648) (h90 : m 390 0 ≤ 123) : YC (gZ L xs) (d + 1) 127 [.ref 376, yI v, yI a, yI b, yI c] m nn (qI (fun r m' n' => n' = nn ∧ Ty gT m' ∧ Fr wEm0 m m' ∧ r = m 390 0 ∧ EM 0 m m' v a b c)) := by
  have tb0 := hT.atp 390 0 0 125 rfl
  have tb4 := hT.atp 384 0 0 10 rfl
  refine YC.mkB [some (.ref 376), some (yI v), some (yI a), some (yI b), some (yI c), none, none] kn127 rfl rfl ?_
  have hF : Fr wEm0 m m := Fr.rf
  refine y_aload 1 c127_0 rfl rfl rfl ?_
  refine y_callP 4 [.ref 376] [] c127_1 rfl rfl rfl rfl rfl (ycanO km96 ko376) (t96_0 (by omega)) (fun r6297 hr6297 => ?_)
  subst hr6297
  refine y_istore 6 c127_4 rfl rfl ?_
  refine y_iconst 9 c127_6 rfl ?_
  refine y_iload 11 c127_9 rfl rfl ?_
  refine y_imul 12 c127_11 rfl ?_
  refine y_top 0 (by decide) ?_
  refine y_iconst 14 c127_12 rfl ?_
  refine y_aload 15 c127_14 rfl rfl rfl ?_
  refine y_getR 18 c127_15 rfl kf376_27 ?_
  refine y_iload 20 c127_18 rfl rfl ?_
  refine y_iaX 21 (m 390 0) c127_20 rfl ka390 (by decide) rfl ?_
  refine y_imul 22 c127_21 rfl ?_
  refine y_iadd 23 c127_22 rfl ?_
  refine y_istore 25 c127_23 rfl rfl ?_
  refine y_aload 26 c127_25 rfl rfl rfl ?_
  refine y_getR 29 c127_26 rfl kf376_40 ?_
  refine y_iload 31 c127_29 rfl rfl ?_
  refine y_iload 32 c127_31 rfl rfl ?_
  refine y_iastore 33 c127_32 rfl ka403 (by omega) (y_nar0 _) ?_
  have hT6298 := hT.up 403 ((0 + (8 * (m 390 0))).toNat) v ((-2147483648)) 2147483647 rfl (by omega)
  have hF6299 := hF.up 403 ((0 + (8 * (m 390 0))).toNat) v (wEm0_op (by omega))
  refine y_aload 34 c127_33 rfl rfl rfl ?_
  refine y_getR 37 c127_34 rfl kf376_40 ?_
  refine y_iload 39 c127_37 rfl rfl ?_
  refine y_iconst 40 c127_39 rfl ?_
  refine y_iadd 41 c127_40 rfl ?_
  refine y_aload 42 c127_41 rfl rfl rfl ?_
  refine y_getR 45 c127_42 rfl kf376_21 ?_
  refine y_iload 47 c127_45 rfl rfl ?_
  refine y_iaX 48 (m 384 0) c127_47 rfl ka384 (by decide) rfl ?_
  refine y_iconst 49 c127_48 rfl ?_
  refine y_isub 50 c127_49 rfl ?_
  refine y_iastore 51 c127_50 rfl ka403 (by omega) (y_nar0 _) ?_
  have hT6300 := hT6298.up 403 (((0 + (8 * (m 390 0))) + 1).toNat) ((m 384 0) - 1) ((-2147483648)) 2147483647 rfl (by omega)
  have hF6301 := hF6299.up 403 (((0 + (8 * (m 390 0))) + 1).toNat) ((m 384 0) - 1) (wEm0_op (by omega))
  refine y_aload 52 c127_51 rfl rfl rfl ?_
  refine y_getR 55 c127_52 rfl kf376_40 ?_
  refine y_iload 57 c127_55 rfl rfl ?_
  refine y_iconst 58 c127_57 rfl ?_
  refine y_iadd 59 c127_58 rfl ?_
  refine y_iload 60 c127_59 rfl rfl ?_
  refine y_iastore 61 c127_60 rfl ka403 (by omega) (y_nar0 _) ?_
  have hT6302 := hT6300.up 403 (((0 + (8 * (m 390 0))) + 2).toNat) a ((-2147483648)) 2147483647 rfl (by omega)
  have hF6303 := hF6301.up 403 (((0 + (8 * (m 390 0))) + 2).toNat) a (wEm0_op (by omega))
  refine y_aload 62 c127_61 rfl rfl rfl ?_
  refine y_getR 65 c127_62 rfl kf376_40 ?_
  refine y_iload 67 c127_65 rfl rfl ?_
  refine y_iconst 68 c127_67 rfl ?_
  refine y_iadd 69 c127_68 rfl ?_
  refine y_iload 70 c127_69 rfl rfl ?_
  refine y_iastore 71 c127_70 rfl ka403 (by omega) (y_nar0 _) ?_
  have hT6304 := hT6302.up 403 (((0 + (8 * (m 390 0))) + 3).toNat) b ((-2147483648)) 2147483647 rfl (by omega)
  have hF6305 := hF6303.up 403 (((0 + (8 * (m 390 0))) + 3).toNat) b (wEm0_op (by omega))
  refine y_aload 72 c127_71 rfl rfl rfl ?_
  refine y_getR 75 c127_72 rfl kf376_40 ?_
  refine y_iload 77 c127_75 rfl rfl ?_
  refine y_iconst 78 c127_77 rfl ?_
  refine y_iadd 79 c127_78 rfl ?_
  refine y_iload 81 c127_79 rfl rfl ?_
  refine y_iastore 82 c127_81 rfl ka403 (by omega) (y_nar0 _) ?_
  have hT6306 := hT6304.up 403 (((0 + (8 * (m 390 0))) + 4).toNat) c ((-2147483648)) 2147483647 rfl (by omega)
  have hF6307 := hF6305.up 403 (((0 + (8 * (m 390 0))) + 4).toNat) c (wEm0_op (by omega))
  refine y_aload 83 c127_82 rfl rfl rfl ?_
  refine y_getR 86 c127_83 rfl kf376_27 ?_
  refine y_iload 88 c127_86 rfl rfl ?_
  refine y_dup2 89 c127_88 rfl ⟨rfl, rfl⟩ ?_
  refine y_iaX 90 (m 390 0) c127_89 rfl ka390 (by decide) rfl ?_
  refine y_iconst 91 c127_90 rfl ?_
  refine y_iadd 92 c127_91 rfl ?_
  refine y_iastore 93 c127_92 rfl ka390 (by omega) (y_nar0 _) ?_
  have hT6308 := hT6306.up 390 ((0 : Int).toNat) ((m 390 0) + 1) 0 125 rfl (by omega)
  have hF6309 := hF6307.up 390 ((0 : Int).toNat) ((m 390 0) + 1) rfl
  refine y_aload 94 c127_93 rfl rfl rfl ?_
  refine y_getR 97 c127_94 rfl kf376_27 ?_
  refine y_iload 99 c127_97 rfl rfl ?_
  refine y_iaX 100 ((m 390 0) + 1) c127_99 rfl ka390 (by decide) rfl ?_
  refine y_iconst 101 c127_100 rfl ?_
  refine y_isub 102 c127_101 rfl ?_
  have es6310 : (yup (yup (yup (yup (yup (yup m 403 ((0 + (8 * (m 390 0))).toNat) v) 403 (((0 + (8 * (m 390 0))) + 1).toNat) ((m 384 0) - 1)) 403 (((0 + (8 * (m 390 0))) + 2).toNat) a) 403 (((0 + (8 * (m 390 0))) + 3).toNat) b) 403 (((0 + (8 * (m 390 0))) + 4).toNat) c) 390 ((0 : Int).toNat) ((m 390 0) + 1)) 390 0 = (m 390 0) + 1 := rfl
  refine y_retI c127_102 (y_fit0 _) ⟨rfl, hT6308, hF6309, by omega, by omega, ?_, ?_, ?_, ?_, ?_, ?_⟩
  · rw [show 1000 * 0 + 8 * (m 390 0).toNat = (0 + 8 * m 390 0).toNat by omega]; repeat (first | rw [yup_eq] | rw [yup_na (by omega)] | rw [yup_nk (by omega)])
  · rw [show 1000 * 0 + 8 * (m 390 0).toNat + 1 = (0 + 8 * m 390 0 + 1).toNat by omega]; repeat (first | rw [yup_eq] | rw [yup_na (by omega)] | rw [yup_nk (by omega)])
  · rw [show 1000 * 0 + 8 * (m 390 0).toNat + 2 = (0 + 8 * m 390 0 + 2).toNat by omega]; repeat (first | rw [yup_eq] | rw [yup_na (by omega)] | rw [yup_nk (by omega)])
  · rw [show 1000 * 0 + 8 * (m 390 0).toNat + 3 = (0 + 8 * m 390 0 + 3).toNat by omega]; repeat (first | rw [yup_eq] | rw [yup_na (by omega)] | rw [yup_nk (by omega)])
  · rw [show 1000 * 0 + 8 * (m 390 0).toNat + 4 = (0 + 8 * m 390 0 + 4).toNat by omega]; repeat (first | rw [yup_eq] | rw [yup_na (by omega)] | rw [yup_nk (by omega)])
  · intro q hq; repeat (first | rw [yup_eq] | rw [yup_na (by omega)] | rw [yup_nk (by omega)])
set_option maxRecDepth 100000 in
theorem t128_0 {L : Nat} {xs : Nat → Int32} {d nn : Nat} {m : yM} {k : Int} (hT : Ty gT m) (hn : m 376 18 = 1) (hk : 0 ≤ k ∧ k < m 390 0) (h90 : m 390 0 ≤ 124) : YC (gZ L xs) (d + 1) 128 [.ref 376, yI k] m nn (qU (fun m' n' => n' = nn ∧ Ty gT m' ∧ Fr wAi0 m m' ∧ m' 403 (1000 * 0 + 8 * k.toNat + 3) = m 390 0 ∧ ∀ q, q ≠ 1000 * 0 + 8 * k.toNat + 3 → m' 403 q = m 403 q)) := by
  have tb0 := hT.atp 390 0 0 125 rfl
  refine YC.mkB [some (.ref 376), some (yI k)] kn128 rfl rfl ?_
  have hF : Fr wAi0 m m := Fr.rf
  refine y_aload 1 c128_0 rfl rfl rfl ?_
  refine y_getR 4 c128_1 rfl kf376_40 ?_
  refine y_iconst 7 c128_4 rfl ?_
  refine y_aload 8 c128_7 rfl rfl rfl ?_
  refine y_callP 11 [.ref 376] [yI 1000, .ref 403] c128_8 rfl rfl rfl rfl rfl (ycanO km96 ko376) (t96_0 (by omega)) (fun r6311 hr6311 => ?_)
  subst hr6311
  refine y_imul 12 c128_11 rfl ?_
  refine y_top 0 (by decide) ?_
  refine y_iconst 14 c128_12 rfl ?_
  refine y_iload 15 c128_14 rfl rfl ?_
  refine y_imul 16 c128_15 rfl ?_
  refine y_iadd 17 c128_16 rfl ?_
  refine y_iconst 18 c128_17 rfl ?_
  refine y_iadd 19 c128_18 rfl ?_
  refine y_aload 20 c128_19 rfl rfl rfl ?_
  refine y_getR 23 c128_20 rfl kf376_27 ?_
  refine y_aload 24 c128_23 rfl rfl rfl ?_
  refine y_callP 27 [.ref 376] [.ref 390, yI ((0 + (8 * k)) + 3), .ref 403] c128_24 rfl rfl rfl rfl rfl (ycanO km96 ko376) (t96_0 (by omega)) (fun r6312 hr6312 => ?_)
  subst hr6312
  refine y_iaX 28 (m 390 0) c128_27 rfl ka390 (by decide) rfl ?_
  refine y_iastore 29 c128_28 rfl ka403 (by omega) (y_nar0 _) ?_
  have hT6313 := hT.up 403 (((0 + (8 * k)) + 3).toNat) (m 390 0) ((-2147483648)) 2147483647 rfl (by omega)
  have hF6314 := hF.up 403 (((0 + (8 * k)) + 3).toNat) (m 390 0) (wAi0_op (by omega))
  refine y_retU c128_29 ⟨rfl, hT6313, hF6314, ?_, ?_⟩
  · rw [show 1000 * 0 + 8 * k.toNat + 3 = (0 + 8 * k + 3).toNat by omega]; repeat (first | rw [yup_eq] | rw [yup_na (by omega)] | rw [yup_nk (by omega)])
  · intro q hq; repeat (first | rw [yup_eq] | rw [yup_na (by omega)] | rw [yup_nk (by omega)])
set_option maxRecDepth 100000 in
theorem t127_1 {L : Nat} {xs : Nat → Int32} {d nn : Nat} {m : yM} {v a b c : Int} (hT : Ty gT m) (hn : m 376 18 = 0) (hv : -2147483648 ≤ v ∧ v < 2147483648) (ha : -2147483648 ≤ a ∧ a < 2147483648) (hb : -2147483648 ≤ b ∧ b < 2147483648) (hc : -2147483648 ≤ c ∧ c < 2147483648) (h90 : m 390 1 ≤ 123) : YC (gZ L xs) (d + 1) 127 [.ref 376, yI v, yI a, yI b, yI c] m nn (qI (fun r m' n' => n' = nn ∧ Ty gT m' ∧ Fr wEm1 m m' ∧ r = m 390 1 ∧ EM 1 m m' v a b c)) := by
  have tb0 := hT.atp 390 1 0 125 rfl
  have tb4 := hT.atp 384 1 0 10 rfl
  refine YC.mkB [some (.ref 376), some (yI v), some (yI a), some (yI b), some (yI c), none, none] kn127 rfl rfl ?_
  have hF : Fr wEm1 m m := Fr.rf
  refine y_aload 1 c127_0 rfl rfl rfl ?_
  refine y_callP 4 [.ref 376] [] c127_1 rfl rfl rfl rfl rfl (ycanO km96 ko376) (t96_1 (by omega)) (fun r6522 hr6522 => ?_)
  subst hr6522
  refine y_istore 6 c127_4 rfl rfl ?_
  refine y_iconst 9 c127_6 rfl ?_
  refine y_iload 11 c127_9 rfl rfl ?_
  refine y_imul 12 c127_11 rfl ?_
  refine y_top 1000 (by decide) ?_
  refine y_iconst 14 c127_12 rfl ?_
  refine y_aload 15 c127_14 rfl rfl rfl ?_
  refine y_getR 18 c127_15 rfl kf376_27 ?_
  refine y_iload 20 c127_18 rfl rfl ?_
  refine y_iaX 21 (m 390 1) c127_20 rfl ka390 (by decide) rfl ?_
  refine y_imul 22 c127_21 rfl ?_
  refine y_iadd 23 c127_22 rfl ?_
  refine y_istore 25 c127_23 rfl rfl ?_
  refine y_aload 26 c127_25 rfl rfl rfl ?_
  refine y_getR 29 c127_26 rfl kf376_40 ?_
  refine y_iload 31 c127_29 rfl rfl ?_
  refine y_iload 32 c127_31 rfl rfl ?_
  refine y_iastore 33 c127_32 rfl ka403 (by omega) (y_nar0 _) ?_
  have hT6523 := hT.up 403 ((1000 + (8 * (m 390 1))).toNat) v ((-2147483648)) 2147483647 rfl (by omega)
  have hF6524 := hF.up 403 ((1000 + (8 * (m 390 1))).toNat) v (wEm1_op (by omega))
  refine y_aload 34 c127_33 rfl rfl rfl ?_
  refine y_getR 37 c127_34 rfl kf376_40 ?_
  refine y_iload 39 c127_37 rfl rfl ?_
  refine y_iconst 40 c127_39 rfl ?_
  refine y_iadd 41 c127_40 rfl ?_
  refine y_aload 42 c127_41 rfl rfl rfl ?_
  refine y_getR 45 c127_42 rfl kf376_21 ?_
  refine y_iload 47 c127_45 rfl rfl ?_
  refine y_iaX 48 (m 384 1) c127_47 rfl ka384 (by decide) rfl ?_
  refine y_iconst 49 c127_48 rfl ?_
  refine y_isub 50 c127_49 rfl ?_
  refine y_iastore 51 c127_50 rfl ka403 (by omega) (y_nar0 _) ?_
  have hT6525 := hT6523.up 403 (((1000 + (8 * (m 390 1))) + 1).toNat) ((m 384 1) - 1) ((-2147483648)) 2147483647 rfl (by omega)
  have hF6526 := hF6524.up 403 (((1000 + (8 * (m 390 1))) + 1).toNat) ((m 384 1) - 1) (wEm1_op (by omega))
  refine y_aload 52 c127_51 rfl rfl rfl ?_
  refine y_getR 55 c127_52 rfl kf376_40 ?_
  refine y_iload 57 c127_55 rfl rfl ?_
  refine y_iconst 58 c127_57 rfl ?_
  refine y_iadd 59 c127_58 rfl ?_
  refine y_iload 60 c127_59 rfl rfl ?_
  refine y_iastore 61 c127_60 rfl ka403 (by omega) (y_nar0 _) ?_
  have hT6527 := hT6525.up 403 (((1000 + (8 * (m 390 1))) + 2).toNat) a ((-2147483648)) 2147483647 rfl (by omega)
  have hF6528 := hF6526.up 403 (((1000 + (8 * (m 390 1))) + 2).toNat) a (wEm1_op (by omega))
  refine y_aload 62 c127_61 rfl rfl rfl ?_
  refine y_getR 65 c127_62 rfl kf376_40 ?_
  refine y_iload 67 c127_65 rfl rfl ?_
  refine y_iconst 68 c127_67 rfl ?_
  refine y_iadd 69 c127_68 rfl ?_
  refine y_iload 70 c127_69 rfl rfl ?_
  refine y_iastore 71 c127_70 rfl ka403 (by omega) (y_nar0 _) ?_
  have hT6529 := hT6527.up 403 (((1000 + (8 * (m 390 1))) + 3).toNat) b ((-2147483648)) 2147483647 rfl (by omega)
  have hF6530 := hF6528.up 403 (((1000 + (8 * (m 390 1))) + 3).toNat) b (wEm1_op (by omega))
  refine y_aload 72 c127_71 rfl rfl rfl ?_
  refine y_getR 75 c127_72 rfl kf376_40 ?_
  refine y_iload 77 c127_75 rfl rfl ?_
  refine y_iconst 78 c127_77 rfl ?_
  refine y_iadd 79 c127_78 rfl ?_
  refine y_iload 81 c127_79 rfl rfl ?_
  refine y_iastore 82 c127_81 rfl ka403 (by omega) (y_nar0 _) ?_
  have hT6531 := hT6529.up 403 (((1000 + (8 * (m 390 1))) + 4).toNat) c ((-2147483648)) 2147483647 rfl (by omega)
  have hF6532 := hF6530.up 403 (((1000 + (8 * (m 390 1))) + 4).toNat) c (wEm1_op (by omega))
  refine y_aload 83 c127_82 rfl rfl rfl ?_
  refine y_getR 86 c127_83 rfl kf376_27 ?_
  refine y_iload 88 c127_86 rfl rfl ?_
  refine y_dup2 89 c127_88 rfl ⟨rfl, rfl⟩ ?_
  refine y_iaX 90 (m 390 1) c127_89 rfl ka390 (by decide) rfl ?_
  refine y_iconst 91 c127_90 rfl ?_
  refine y_iadd 92 c127_91 rfl ?_
  refine y_iastore 93 c127_92 rfl ka390 (by omega) (y_nar0 _) ?_
  have hT6533 := hT6531.up 390 ((1 : Int).toNat) ((m 390 1) + 1) 0 125 rfl (by omega)
  have hF6534 := hF6532.up 390 ((1 : Int).toNat) ((m 390 1) + 1) rfl
  refine y_aload 94 c127_93 rfl rfl rfl ?_
  refine y_getR 97 c127_94 rfl kf376_27 ?_
  refine y_iload 99 c127_97 rfl rfl ?_
  refine y_iaX 100 ((m 390 1) + 1) c127_99 rfl ka390 (by decide) rfl ?_
  refine y_iconst 101 c127_100 rfl ?_
  refine y_isub 102 c127_101 rfl ?_
  have es6535 : (yup (yup (yup (yup (yup (yup m 403 ((1000 + (8 * (m 390 1))).toNat) v) 403 (((1000 + (8 * (m 390 1))) + 1).toNat) ((m 384 1) - 1)) 403 (((1000 + (8 * (m 390 1))) + 2).toNat) a) 403 (((1000 + (8 * (m 390 1))) + 3).toNat) b) 403 (((1000 + (8 * (m 390 1))) + 4).toNat) c) 390 ((1 : Int).toNat) ((m 390 1) + 1)) 390 1 = (m 390 1) + 1 := rfl
  refine y_retI c127_102 (y_fit0 _) ⟨rfl, hT6533, hF6534, by omega, by omega, ?_, ?_, ?_, ?_, ?_, ?_⟩
  · rw [show 1000 * 1 + 8 * (m 390 1).toNat = (1000 + 8 * m 390 1).toNat by omega]; repeat (first | rw [yup_eq] | rw [yup_na (by omega)] | rw [yup_nk (by omega)])
  · rw [show 1000 * 1 + 8 * (m 390 1).toNat + 1 = (1000 + 8 * m 390 1 + 1).toNat by omega]; repeat (first | rw [yup_eq] | rw [yup_na (by omega)] | rw [yup_nk (by omega)])
  · rw [show 1000 * 1 + 8 * (m 390 1).toNat + 2 = (1000 + 8 * m 390 1 + 2).toNat by omega]; repeat (first | rw [yup_eq] | rw [yup_na (by omega)] | rw [yup_nk (by omega)])
  · rw [show 1000 * 1 + 8 * (m 390 1).toNat + 3 = (1000 + 8 * m 390 1 + 3).toNat by omega]; repeat (first | rw [yup_eq] | rw [yup_na (by omega)] | rw [yup_nk (by omega)])
  · rw [show 1000 * 1 + 8 * (m 390 1).toNat + 4 = (1000 + 8 * m 390 1 + 4).toNat by omega]; repeat (first | rw [yup_eq] | rw [yup_na (by omega)] | rw [yup_nk (by omega)])
  · intro q hq; repeat (first | rw [yup_eq] | rw [yup_na (by omega)] | rw [yup_nk (by omega)])
set_option maxRecDepth 100000 in
theorem t128_1 {L : Nat} {xs : Nat → Int32} {d nn : Nat} {m : yM} {k : Int} (hT : Ty gT m) (hn : m 376 18 = 0) (hk : 0 ≤ k ∧ k < m 390 1) (h90 : m 390 1 ≤ 124) : YC (gZ L xs) (d + 1) 128 [.ref 376, yI k] m nn (qU (fun m' n' => n' = nn ∧ Ty gT m' ∧ Fr wAi1 m m' ∧ m' 403 (1000 * 1 + 8 * k.toNat + 3) = m 390 1 ∧ ∀ q, q ≠ 1000 * 1 + 8 * k.toNat + 3 → m' 403 q = m 403 q)) := by
  have tb0 := hT.atp 390 1 0 125 rfl
  refine YC.mkB [some (.ref 376), some (yI k)] kn128 rfl rfl ?_
  have hF : Fr wAi1 m m := Fr.rf
  refine y_aload 1 c128_0 rfl rfl rfl ?_
  refine y_getR 4 c128_1 rfl kf376_40 ?_
  refine y_iconst 7 c128_4 rfl ?_
  refine y_aload 8 c128_7 rfl rfl rfl ?_
  refine y_callP 11 [.ref 376] [yI 1000, .ref 403] c128_8 rfl rfl rfl rfl rfl (ycanO km96 ko376) (t96_1 (by omega)) (fun r6536 hr6536 => ?_)
  subst hr6536
  refine y_imul 12 c128_11 rfl ?_
  refine y_top 1000 (by decide) ?_
  refine y_iconst 14 c128_12 rfl ?_
  refine y_iload 15 c128_14 rfl rfl ?_
  refine y_imul 16 c128_15 rfl ?_
  refine y_iadd 17 c128_16 rfl ?_
  refine y_iconst 18 c128_17 rfl ?_
  refine y_iadd 19 c128_18 rfl ?_
  refine y_aload 20 c128_19 rfl rfl rfl ?_
  refine y_getR 23 c128_20 rfl kf376_27 ?_
  refine y_aload 24 c128_23 rfl rfl rfl ?_
  refine y_callP 27 [.ref 376] [.ref 390, yI ((1000 + (8 * k)) + 3), .ref 403] c128_24 rfl rfl rfl rfl rfl (ycanO km96 ko376) (t96_1 (by omega)) (fun r6537 hr6537 => ?_)
  subst hr6537
  refine y_iaX 28 (m 390 1) c128_27 rfl ka390 (by decide) rfl ?_
  refine y_iastore 29 c128_28 rfl ka403 (by omega) (y_nar0 _) ?_
  have hT6538 := hT.up 403 (((1000 + (8 * k)) + 3).toNat) (m 390 1) ((-2147483648)) 2147483647 rfl (by omega)
  have hF6539 := hF.up 403 (((1000 + (8 * k)) + 3).toNat) (m 390 1) (wAi1_op (by omega))
  refine y_retU c128_29 ⟨rfl, hT6538, hF6539, ?_, ?_⟩
  · rw [show 1000 * 1 + 8 * k.toNat + 3 = (1000 + 8 * k + 3).toNat by omega]; repeat (first | rw [yup_eq] | rw [yup_na (by omega)] | rw [yup_nk (by omega)])
  · intro q hq; repeat (first | rw [yup_eq] | rw [yup_na (by omega)] | rw [yup_nk (by omega)])
end
section
/-! THE MODEL: one operation more -/
section OPL
variable {p : Nat} {m m' : yM} {n c c2 : Int}
theorem OW.eq {b : Nat} (h : OW m b) (e : ∀ q, b ≤ q → q < b + 8 → m' 403 q = m 403 q) : OW m' b := by
  unfold OW at h ⊢
  rw [e b (by omega) (by omega), e (b + 1) (by omega) (by omega), e (b + 2) (by omega) (by omega), e (b + 3) (by omega) (by omega), e (b + 4) (by omega) (by omega), e (b + 5) (by omega) (by omega), e (b + 6) (by omega) (by omega), e (b + 7) (by omega) (by omega)]
  exact h
theorem OX.add (h : OX p m n c) (hn : 0 ≤ n) (e : ∀ q, q < 1000 * p + 8 * n.toNat ∨ 1000 * p + 8 * n.toNat + 8 ≤ q → m' 403 q = m 403 q) (hw : OW m' (1000 * p + 8 * n.toNat)) (ht : 9 ≤ m' 403 (1000 * p + 8 * n.toNat) ∧ m' 403 (1000 * p + 8 * n.toNat) ≤ 11 → m' 403 (1000 * p + 8 * n.toNat + 3) ≤ n + 1) (hc : m' 403 (1000 * p + 8 * n.toNat) = 7 → m' 403 (1000 * p + 8 * n.toNat + 5) / 16 = c ∧ c < c2) (hcc : c ≤ c2) : OX p m' (n + 1) c2 := by
  obtain ⟨h1, h2, h3, h4⟩ := h
  refine ⟨fun o ho => ?_, fun o ho => ?_, fun o ho => ?_, fun i j hij hj => ?_⟩
  · by_cases q : (o : Int) < n
    · exact (h1 o q).eq (fun z _ _ => e z (by omega))
    · have : o = n.toNat := by omega
      subst this
      exact hw
  · by_cases q : (o : Int) < n
    · rw [e _ (by omega), e _ (by omega)]
      intro k
      have := h2 o q k
      omega
    · have : o = n.toNat := by omega
      subst this
      exact ht
  · by_cases q : (o : Int) < n
    · rw [e _ (by omega), e _ (by omega)]
      intro k
      have := h3 o q k
      omega
    · have : o = n.toNat := by omega
      subst this
      intro k
      have := hc k
      omega
  · have hi : (i : Int) < n := by omega
    rw [e (1000 * p + 8 * i) (by omega), e (1000 * p + 8 * i + 5) (by omega)]
    by_cases q : (j : Int) < n
    · rw [e _ (by omega), e _ (by omega)]
      exact h4 i j hij q
    · have : j = n.toNat := by omega
      subst this
      intro k1 k2
      have := h3 i hi k1
      have := hc k2
      omega
theorem JX.add (h : JX p m n) (hO : OX p m n c) (hn : 0 ≤ n) (e : ∀ q, q < 1000 * p + 8 * n.toNat ∨ 1000 * p + 8 * n.toNat + 8 ≤ q → m' 403 q = m 403 q) (e10 : m' 376 10 = m 376 10) (e8 : ∀ q, m' 378 q = m 378 q) (e9 : ∀ q, m' 379 q = m 379 q) : JX p m' n := by
  intro o ho
  rw [e _ (by omega)]
  intro k
  have hb := hO.2.1 o ho (by omega)
  have hw := hO.1 o ho
  have e3 : m' 403 (1000 * p + 8 * o + 3) = m 403 (1000 * p + 8 * o + 3) := e _ (by omega)
  rcases h o ho k with q | ⟨f, f1, f2, f3, f4⟩
  · left
    unfold JK at q ⊢
    rw [e3]
    rcases q with q | q
    · exact Or.inl q
    · by_cases z : m 403 (1000 * p + 8 * o + 3) < n
      · right
        have h0 : 0 ≤ m 403 (1000 * p + 8 * o + 3) := hw.2.2.2.1.1
        rw [e _ (by omega)]
        exact q
      · left
        omega
  · right
    exact ⟨f, f1, by rw [e10]; exact f2, by rw [e8]; exact f3, by rw [e9]; exact f4⟩
theorem BX.add (h : BX p m n) (e : ∀ q, q < 1000 * p + 8 * n.toNat ∨ 1000 * p + 8 * n.toNat + 8 ≤ q → m' 403 q = m 403 q) (e10 : m' 376 10 = m 376 10) (e8 : ∀ q, m' 378 q = m 378 q) (e9 : ∀ q, m' 379 q = m 379 q) : BX p m' (n + 1) := by
  intro f hf
  rw [e10, e8, e9]
  intro k
  obtain ⟨k1, k2, k3, k4, k5, k6⟩ := h f hf k
  rw [e _ (by omega)]
  exact ⟨k1, by omega, k3, k4, k5, k6⟩
theorem MX.fr {k n2 : Int} (h : MX p m k n) (e7 : ∀ q, m' 397 q = m 397 q) (e8 : ∀ q, m' 398 q = m 398 q) (e9 : ∀ q, m' 399 q = m 399 q) (hn : n ≤ n2) : MX p m' k n2 := by
  intro i hi
  rw [e7, e8, e9]
  have := h i hi
  omega
theorem UX.fr (h : UX p m n) (e : ∀ q, m' 392 q = m 392 q) : UX p m' n := by
  intro k hk
  rw [e]
  exact h k hk
theorem CV.fr (h : CV p m n) (e : ∀ q, m' 401 q = m 401 q) : CV p m' n := by
  intro c hc
  rw [e]
  exact h c hc
theorem NS.add {s s2 : Int} (h : NS p m n s) (hn : 0 ≤ n) (e : ∀ q, q < 1000 * p + 8 * n.toNat ∨ 1000 * p + 8 * n.toNat + 8 ≤ q → m' 403 q = m 403 q) (hs : s ≤ s2) (h1 : m' 403 (1000 * p + 8 * n.toNat) = 1 → m' 403 (1000 * p + 8 * n.toNat + 3) < s2) : NS p m' (n + 1) s2 := by
  intro o ho
  by_cases q : (o : Int) < n
  · rw [e _ (by omega), e _ (by omega)]
    intro k
    have := h o q k
    omega
  · have : o = n.toNat := by omega
    subst this
    exact h1
theorem NS.aim {s : Int} {o : Nat} (h : NS p m n s) (hw : m 403 (1000 * p + 8 * o) ≠ 1) (e : ∀ q, q ≠ 1000 * p + 8 * o + 3 → m' 403 q = m 403 q) : NS p m' n s := by
  intro i hi
  rw [e _ (by omega)]
  intro k
  rw [e _ (by intro z; have : i = o := (by omega); subst this; exact hw k)]
  exact h i hi k
theorem NS.fr {s : Int} (h : NS p m n s) (e : ∀ q, m' 403 q = m 403 q) : NS p m' n s := by
  intro i hi
  rw [e, e]
  exact h i hi
/-- what an operation more leaves as it was -/
def vYs (p a q : Nat) : Bool := (a == 376 && q == 10) || a == 378 || a == 379 || ((a == 383 || a == 384) && q == p) || a == 392 || a == 397 || a == 398 || a == 399
theorem XS.add (h : XS p m) (h0 : 0 ≤ m 390 p) (F : ∀ a q, vYs p a q = true → m' a q = m a q) (e : ∀ q, q < 1000 * p + 8 * (m 390 p).toNat ∨ 1000 * p + 8 * (m 390 p).toNat + 8 ≤ q → m' 403 q = m 403 q) (hw : OW m' (1000 * p + 8 * (m 390 p).toNat)) (ht : 9 ≤ m' 403 (1000 * p + 8 * (m 390 p).toNat) ∧ m' 403 (1000 * p + 8 * (m 390 p).toNat) ≤ 11 → m' 403 (1000 * p + 8 * (m 390 p).toNat + 3) ≤ m 390 p + 1) (hj : m' 403 (1000 * p + 8 * (m 390 p).toNat) = 11 → JK p m' (m 390 p).toNat) (hc : m' 403 (1000 * p + 8 * (m 390 p).toNat) = 7 → m' 403 (1000 * p + 8 * (m 390 p).toNat + 5) / 16 = m 386 p ∧ m 386 p < m' 386 p) (hcc : m 386 p ≤ m' 386 p) (hn : m' 390 p = m 390 p + 1) (hs : m' 376 17 = m' 388 p - 1 + m' 387 p) (hs1 : 1 ≤ m' 388 p) (hcv : CV p m' (m' 387 p)) (hs2 : m 388 p ≤ m' 388 p) (hns : m' 403 (1000 * p + 8 * (m 390 p).toNat) = 1 → m' 403 (1000 * p + 8 * (m 390 p).toNat + 3) < m' 388 p) : XS p m' := by
  obtain ⟨x1, x2, x3, x4, x5, -, -, -, x9⟩ := h
  have e10 := F 376 10 (by simp [vYs])
  have e8 : ∀ q, m' 378 q = m 378 q := fun q => F _ _ (by simp [vYs])
  have e9 : ∀ q, m' 379 q = m 379 q := fun q => F _ _ (by simp [vYs])
  have ja := x2.add x1 h0 e e10 e8 e9
  unfold XS
  rw [hn, F 383 p (by simp [vYs]), F 384 p (by simp [vYs])]
  refine ⟨x1.add h0 e hw ht hc hcc, fun o ho k => ?_, x3.add e e10 e8 e9, x4.fr (fun q => F _ _ (by simp [vYs])) (fun q => F _ _ (by simp [vYs])) (fun q => F _ _ (by simp [vYs])) (by omega), x5.fr (fun q => F _ _ (by simp [vYs])), hs, hs1, hcv, x9.add h0 e hs2 hns⟩
  by_cases q : (o : Int) < m 390 p
  · exact ja o q k
  · have : o = (m 390 p).toNat := by omega
    subst this
    exact Or.inl (hj k)
end OPL
end
