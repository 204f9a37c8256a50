/-! CONTRACTS: the model, names. Printed by wip/whole/gen96.py -/
set_option maxRecDepth 100000 in
theorem t96_0 {L : Nat} {xs : Nat → Int32} {d nn : Nat} {m : yM} (hn : m 376 18 = 1) : YC (gZ L xs) d 96 [.ref 376] m nn (qP m nn (fun r => r = 0)) := by
  refine YC.mkB [some (.ref 376)] kn96 rfl rfl ?_
  refine y_iconst 1 c96_0 rfl ?_
  refine y_aload 2 c96_1 rfl rfl rfl ?_
  refine y_getX 5 (m 376 18) c96_2 rfl kf376_18 rfl ?_
  refine y_isub 6 c96_5 rfl ?_
  exact y_retP c96_6 (y_fit0 _) (by omega)
set_option maxRecDepth 100000 in
theorem t116a_0 {L : Nat} {xs : Nat → Int32} {d nn : Nat} {m : yM} {v : Int} (hT : Ty gT m) (hv : -2147483648 ≤ v ∧ v < 2147483648) : ∀ (km : Nat) (i : Int), m 383 0 - i = km → 0 ≤ i ∧ i ≤ m 383 0 → YW (gZ L xs) 116 d 2 [some (.ref 376), some (yI 0), some (yI v), some (yI i)] [] m nn (qP m nn (fun r => -1 ≤ r ∧ r < m 383 0)) := by
  intro km
  induction km using Nat.strongRecOn with
  | ind km ih =>
    intro i hk hi
    have tb := hT.atp 383 0 0 6 rfl
    refine y_iload 3 c116_2 rfl rfl ?_
    refine y_aload 4 c116_3 rfl rfl rfl ?_
    refine y_getR 7 c116_4 rfl kf376_20 ?_
    refine y_iload 8 c116_7 rfl rfl ?_
    refine y_iaX 9 (m 383 0) c116_8 rfl ka383 (by decide) rfl ?_
    refine y_icmp 35 12 c116_9 rfl rfl (yc_ge (by omega) (by omega)) (fun hb6090 => ?_) (fun hb6090 => ?_)
    · refine y_iconst 36 c116_35 rfl ?_
      exact y_retP c116_36 (y_fit0 _) (by omega)
    · refine y_aload 13 c116_12 rfl rfl rfl ?_
      refine y_getR 16 c116_13 rfl kf376_28 ?_
      refine y_iconst 18 c116_16 rfl ?_
      refine y_iload 19 c116_18 rfl rfl ?_
      refine y_imul 20 c116_19 rfl ?_
      refine y_top 0 (by decide) ?_
      refine y_iload 21 c116_20 rfl rfl ?_
      refine y_iadd 22 c116_21 rfl ?_
      refine y_iaT 23 ((-2147483648)) 2147483647 c116_22 rfl ka391 (by omega) hT rfl (fun v6091 hv6091 gv6091 => ?_)
      refine y_iload 24 c116_23 rfl rfl ?_
      refine y_icmp 29 27 c116_24 rfl rfl (yc_ne (by omega) (by omega)) (fun hb6092 => ?_) (fun hb6092 => ?_)
      · refine y_iinc 32 c116_29 rfl rfl rfl ?_
        refine y_goto 2 c116_32 rfl ?_
        exact ih (m 383 0 - (i + 1) : Int).toNat (by omega) (i + 1)   (by omega) (by omega)
      · refine y_iload 28 c116_27 rfl rfl ?_
        exact y_retP c116_28 (y_fit0 _) (by omega)
set_option maxRecDepth 100000 in
theorem t116_0 {L : Nat} {xs : Nat → Int32} {d nn : Nat} {m : yM} {v : Int} (hT : Ty gT m) (hv : -2147483648 ≤ v ∧ v < 2147483648) : YC (gZ L xs) d 116 [.ref 376, yI 0, yI v] m nn (qP m nn (fun r => -1 ≤ r ∧ r < m 383 0)) := by
  refine YC.mkB [some (.ref 376), some (yI 0), some (yI v), none] kn116 rfl rfl ?_
  refine y_iconst 1 c116_0 rfl ?_
  refine y_istore 2 c116_1 rfl rfl ?_
  have tb := hT.atp 383 0 0 6 rfl
  exact t116a_0 hT hv (m 383 0 - 0).toNat 0 (by omega) (by omega)
set_option maxRecDepth 100000 in
theorem t120a_0 {L : Nat} {xs : Nat → Int32} {d nn : Nat} {m : yM} {v : Int} (hT : Ty gT m) (hv : -2147483648 ≤ v ∧ v < 2147483648) : ∀ (km : Nat) (i : Int), m 385 0 - i = km → 0 ≤ i ∧ i ≤ m 385 0 → YW (gZ L xs) 120 d 2 [some (.ref 376), some (yI 0), some (yI v), some (yI i)] [] m nn (qP m nn (fun r => -1 ≤ r ∧ r < m 385 0)) := by
  intro km
  induction km using Nat.strongRecOn with
  | ind km ih =>
    intro i hk hi
    have tb := hT.atp 385 0 0 8 rfl
    refine y_iload 3 c120_2 rfl rfl ?_
    refine y_aload 4 c120_3 rfl rfl rfl ?_
    refine y_getR 7 c120_4 rfl kf376_22 ?_
    refine y_iload 8 c120_7 rfl rfl ?_
    refine y_iaX 9 (m 385 0) c120_8 rfl ka385 (by decide) rfl ?_
    refine y_icmp 35 12 c120_9 rfl rfl (yc_ge (by omega) (by omega)) (fun hb6093 => ?_) (fun hb6093 => ?_)
    · refine y_iconst 36 c120_35 rfl ?_
      exact y_retP c120_36 (y_fit0 _) (by omega)
    · refine y_aload 13 c120_12 rfl rfl rfl ?_
      refine y_getR 16 c120_13 rfl kf376_31 ?_
      refine y_iconst 18 c120_16 rfl ?_
      refine y_iload 19 c120_18 rfl rfl ?_
      refine y_imul 20 c120_19 rfl ?_
      refine y_top 0 (by decide) ?_
      refine y_iload 21 c120_20 rfl rfl ?_
      refine y_iadd 22 c120_21 rfl ?_
      refine y_iaT 23 ((-2147483648)) 2147483647 c120_22 rfl ka394 (by omega) hT rfl (fun v6094 hv6094 gv6094 => ?_)
      refine y_iload 24 c120_23 rfl rfl ?_
      refine y_icmp 29 27 c120_24 rfl rfl (yc_ne (by omega) (by omega)) (fun hb6095 => ?_) (fun hb6095 => ?_)
      · refine y_iinc 32 c120_29 rfl rfl rfl ?_
        refine y_goto 2 c120_32 rfl ?_
        exact ih (m 385 0 - (i + 1) : Int).toNat (by omega) (i + 1)   (by omega) (by omega)
      · refine y_iload 28 c120_27 rfl rfl ?_
        exact y_retP c120_28 (y_fit0 _) (by omega)
set_option maxRecDepth 100000 in
theorem t120_0 {L : Nat} {xs : Nat → Int32} {d nn : Nat} {m : yM} {v : Int} (hT : Ty gT m) (hv : -2147483648 ≤ v ∧ v < 2147483648) : YC (gZ L xs) d 120 [.ref 376, yI 0, yI v] m nn (qP m nn (fun r => -1 ≤ r ∧ r < m 385 0)) := by
  refine YC.mkB [some (.ref 376), some (yI 0), some (yI v), none] kn120 rfl rfl ?_
  refine y_iconst 1 c120_0 rfl ?_
  refine y_istore 2 c120_1 rfl rfl ?_
  have tb := hT.atp 385 0 0 8 rfl
  exact t120a_0 hT hv (m 385 0 - 0).toNat 0 (by omega) (by omega)
set_option maxRecDepth 100000 in
theorem t121a_0 {L : Nat} {xs : Nat → Int32} {d nn : Nat} {m : yM} {k f : Int} (hT : Ty gT m) (hU : UX 0 m (m 383 0)) (hk : -1 ≤ k ∧ k < m 383 0) (hf : -1 ≤ f ∧ f ≤ 7) (hf0 : 0 ≤ f) : ∀ (km : Nat) (c : Int), c + 1 = km → -1 ≤ c ∧ c < m 383 0 → YW (gZ L xs) 121 d 9 [some (.ref 376), some (yI 0), some (yI k), some (yI f), some (yI c)] [] m nn (qP m nn (fun r => r = 0 ∨ r = 1)) := by
  intro km
  induction km using Nat.strongRecOn with
  | ind km ih =>
    intro c hk hc
    have tb := hT.atp 383 0 0 6 rfl
    refine y_iload 11 c121_9 rfl rfl ?_
    refine y_if 53 14 c121_11 rfl rfl (yz_lt (by omega)) (fun hb6096 => ?_) (fun hb6096 => ?_)
    · refine y_iconst 54 c121_53 rfl ?_
      exact y_retP c121_54 (y_fit1 (by omega)) (by omega)
    · refine y_aload 15 c121_14 rfl rfl rfl ?_
      refine y_getR 18 c121_15 rfl kf376_30 ?_
      refine y_iconst 20 c121_18 rfl ?_
      refine y_iload 21 c121_20 rfl rfl ?_
      refine y_imul 22 c121_21 rfl ?_
      refine y_top 0 (by decide) ?_
      refine y_iconst 24 c121_22 rfl ?_
      refine y_iload 26 c121_24 rfl rfl ?_
      refine y_imul 27 c121_26 rfl ?_
      refine y_iadd 28 c121_27 rfl ?_
      refine y_iload 29 c121_28 rfl rfl ?_
      refine y_iadd 30 c121_29 rfl ?_
      refine y_iaT 31 0 1 c121_30 rfl ka393 (by omega) hT rfl (fun v6097 hv6097 gv6097 => ?_)
      refine y_if 36 34 c121_31 rfl rfl (yz_eq (by omega)) (fun hb6098 => ?_) (fun hb6098 => ?_)
      · refine y_aload 37 c121_36 rfl rfl rfl ?_
        refine y_getR 40 c121_37 rfl kf376_29 ?_
        refine y_iconst 42 c121_40 rfl ?_
        refine y_iload 43 c121_42 rfl rfl ?_
        refine y_imul 44 c121_43 rfl ?_
        refine y_top 0 (by decide) ?_
        refine y_iload 46 c121_44 rfl rfl ?_
        refine y_iadd 47 c121_46 rfl ?_
        refine y_iaT 48 ((-1)) 5 c121_47 rfl ka392 (by omega) hT rfl (fun v6099 hv6099 gv6099 => ?_)
        have huv6099 : v6099 < c := by have h0 := hU c.toNat (by omega); rw [show 6 * 0 + c.toNat = (0 + c).toNat by omega, hv6099] at h0; omega
        refine y_istore 50 c121_48 rfl rfl ?_
        refine y_goto 9 c121_50 rfl ?_
        exact ih (v6099 + 1 : Int).toNat (by omega) v6099   (by omega) (by omega)
      · refine y_iconst 35 c121_34 rfl ?_
        exact y_retP c121_35 (y_fit1 (by omega)) (by omega)
set_option maxRecDepth 100000 in
theorem t121_0 {L : Nat} {xs : Nat → Int32} {d nn : Nat} {m : yM} {k f : Int} (hT : Ty gT m) (hU : UX 0 m (m 383 0)) (hk : -1 ≤ k ∧ k < m 383 0) (hf : -1 ≤ f ∧ f ≤ 7) : YC (gZ L xs) d 121 [.ref 376, yI 0, yI k, yI f] m nn (qP m nn (fun r => r = 0 ∨ r = 1)) := by
  refine YC.mkB [some (.ref 376), some (yI 0), some (yI k), some (yI f), none] kn121 rfl rfl ?_
  refine y_iload 1 c121_0 rfl rfl ?_
  refine y_if 6 4 c121_1 rfl rfl (yz_ge (by omega)) (fun hb6100 => ?_) (fun hb6100 => ?_)
  · refine y_iload 7 c121_6 rfl rfl ?_
    refine y_istore 9 c121_7 rfl rfl ?_
    have tb := hT.atp 383 0 0 6 rfl
    exact t121a_0 hT hU hk hf (by omega) (k + 1).toNat k (by omega) (by omega)
  · refine y_iconst 5 c121_4 rfl ?_
    exact y_retP c121_5 (y_fit1 (by omega)) (by omega)
set_option maxRecDepth 100000 in
theorem t123b_0 {L : Nat} {xs : Nat → Int32} {d nn : Nat} {m : yM} {k v u : Int} (hT : Ty gT m) (hU : UX 0 m (m 383 0)) (hk : -1 ≤ k ∧ k < m 383 0) (hv : -2147483648 ≤ v ∧ v < 2147483648) (hu : u = 0 ∨ u = 1) {c : Int} (hc : 0 ≤ c ∧ c < m 383 0) (ho : ∀ (x6 : Option Value) (c2 : Int), -1 ≤ c2 ∧ c2 < c → YW (gZ L xs) 123 d 3 [some (.ref 376), some (yI 0), some (yI k), some (yI v), some (yI u), some (yI c2), x6] [] m nn (qP m nn (fun r => -1 ≤ r ∧ r < m 384 0))) : ∀ (km : Nat) (i : Int), m 384 0 - i = km → 0 ≤ i ∧ i ≤ m 384 0 → YW (gZ L xs) 123 d 11 [some (.ref 376), some (yI 0), some (yI k), some (yI v), some (yI u), some (yI c), some (yI i)] [] m nn (qP m nn (fun r => -1 ≤ r ∧ r < m 384 0)) := by
  intro km
  induction km using Nat.strongRecOn with
  | ind km ih =>
    intro i hk hi
    have tb := hT.atp 383 0 0 6 rfl
    have tb2 := hT.atp 384 0 0 10 rfl
    refine y_iload 13 c123_11 rfl rfl ?_
    refine y_aload 14 c123_13 rfl rfl rfl ?_
    refine y_getR 17 c123_14 rfl kf376_21 ?_
    refine y_iload 18 c123_17 rfl rfl ?_
    refine y_iaX 19 (m 384 0) c123_18 rfl ka384 (by decide) rfl ?_
    refine y_icmp 64 22 c123_19 rfl rfl (yc_ge (by omega) (by omega)) (fun hb6101 => ?_) (fun hb6101 => ?_)
    · refine y_iload 66 c123_64 rfl rfl ?_
      refine y_if 73 69 c123_66 rfl rfl (yz_eq (by omega)) (fun hb6102 => ?_) (fun hb6102 => ?_)
      · refine y_aload 74 c123_73 rfl rfl rfl ?_
        refine y_getR 77 c123_74 rfl kf376_29 ?_
        refine y_iconst 79 c123_77 rfl ?_
        refine y_iload 80 c123_79 rfl rfl ?_
        refine y_imul 81 c123_80 rfl ?_
        refine y_top 0 (by decide) ?_
        refine y_iload 83 c123_81 rfl rfl ?_
        refine y_iadd 84 c123_83 rfl ?_
        refine y_iaT 85 ((-1)) 5 c123_84 rfl ka392 (by omega) hT rfl (fun v6103 hv6103 gv6103 => ?_)
        have huv6103 : v6103 < c := by have h0 := hU c.toNat (by omega); rw [show 6 * 0 + c.toNat = (0 + c).toNat by omega, hv6103] at h0; omega
        refine y_istore 87 c123_85 rfl rfl ?_
        refine y_goto 3 c123_87 rfl ?_
        exact ho _ v6103 (by omega)
      · refine y_iconst 70 c123_69 rfl ?_
        refine y_goto 85 c123_70 rfl ?_
        refine y_istore 87 c123_85 rfl rfl ?_
        refine y_goto 3 c123_87 rfl ?_
        exact ho _ ((-1)) (by omega)
    · refine y_aload 23 c123_22 rfl rfl rfl ?_
      refine y_getR 26 c123_23 rfl kf376_33 ?_
      refine y_iconst 28 c123_26 rfl ?_
      refine y_iload 29 c123_28 rfl rfl ?_
      refine y_imul 30 c123_29 rfl ?_
      refine y_top 0 (by decide) ?_
      refine y_iload 32 c123_30 rfl rfl ?_
      refine y_iadd 33 c123_32 rfl ?_
      refine y_iaT 34 0 5 c123_33 rfl ka396 (by omega) hT rfl (fun v6104 hv6104 gv6104 => ?_)
      refine y_iload 36 c123_34 rfl rfl ?_
      refine y_icmp 58 39 c123_36 rfl rfl (yc_ne (by omega) (by omega)) (fun hb6105 => ?_) (fun hb6105 => ?_)
      · refine y_iinc 61 c123_58 rfl rfl rfl ?_
        refine y_goto 11 c123_61 rfl ?_
        exact ih (m 384 0 - (i + 1) : Int).toNat (by omega) (i + 1)   (by omega) (by omega)
      · refine y_aload 40 c123_39 rfl rfl rfl ?_
        refine y_getR 43 c123_40 rfl kf376_32 ?_
        refine y_iconst 45 c123_43 rfl ?_
        refine y_iload 46 c123_45 rfl rfl ?_
        refine y_imul 47 c123_46 rfl ?_
        refine y_top 0 (by decide) ?_
        refine y_iload 49 c123_47 rfl rfl ?_
        refine y_iadd 50 c123_49 rfl ?_
        refine y_iaT 51 ((-2147483648)) 2147483647 c123_50 rfl ka395 (by omega) hT rfl (fun v6106 hv6106 gv6106 => ?_)
        refine y_iload 52 c123_51 rfl rfl ?_
        refine y_icmp 58 55 c123_52 rfl rfl (yc_ne (by omega) (by omega)) (fun hb6107 => ?_) (fun hb6107 => ?_)
        · refine y_iinc 61 c123_58 rfl rfl rfl ?_
          refine y_goto 11 c123_61 rfl ?_
          exact ih (m 384 0 - (i + 1) : Int).toNat (by omega) (i + 1)   (by omega) (by omega)
        · refine y_iload 57 c123_55 rfl rfl ?_
          exact y_retP c123_57 (y_fit0 _) (by omega)
set_option maxRecDepth 100000 in
theorem t123a_0 {L : Nat} {xs : Nat → Int32} {d nn : Nat} {m : yM} {k v u : Int} (hT : Ty gT m) (hU : UX 0 m (m 383 0)) (hk : -1 ≤ k ∧ k < m 383 0) (hv : -2147483648 ≤ v ∧ v < 2147483648) (hu : u = 0 ∨ u = 1) : ∀ (km : Nat) (c : Int) (x6 : Option Value), c + 1 = km → -1 ≤ c ∧ c < m 383 0 → YW (gZ L xs) 123 d 3 [some (.ref 376), some (yI 0), some (yI k), some (yI v), some (yI u), some (yI c), x6] [] m nn (qP m nn (fun r => -1 ≤ r ∧ r < m 384 0)) := by
  intro km
  induction km using Nat.strongRecOn with
  | ind km ih =>
    intro c x6 hk hc
    have tb := hT.atp 383 0 0 6 rfl
    have tb2 := hT.atp 384 0 0 10 rfl
    refine y_iload 5 c123_3 rfl rfl ?_
    refine y_if 90 8 c123_5 rfl rfl (yz_lt (by omega)) (fun hb6108 => ?_) (fun hb6108 => ?_)
    · refine y_iconst 91 c123_90 rfl ?_
      exact y_retP c123_91 (y_fit0 _) (by omega)
    · refine y_iconst 9 c123_8 rfl ?_
      refine y_istore 11 c123_9 rfl rfl ?_
      exact t123b_0 hT hU (by omega) hv hu (c := c) (by omega) (fun y6 c2 hc2 => ih (c2 + 1).toNat (by omega) c2 y6 (by omega) (by omega)) (m 384 0 - 0).toNat 0 (by omega) (by omega)
set_option maxRecDepth 100000 in
theorem t123_0 {L : Nat} {xs : Nat → Int32} {d nn : Nat} {m : yM} {k v u : Int} (hT : Ty gT m) (hU : UX 0 m (m 383 0)) (hk : -1 ≤ k ∧ k < m 383 0) (hv : -2147483648 ≤ v ∧ v < 2147483648) (hu : u = 0 ∨ u = 1) : YC (gZ L xs) d 123 [.ref 376, yI 0, yI k, yI v, yI u] m nn (qP m nn (fun r => -1 ≤ r ∧ r < m 384 0)) := by
  refine YC.mkB [some (.ref 376), some (yI 0), some (yI k), some (yI v), some (yI u), none, none] kn123 rfl rfl ?_
  refine y_iload 1 c123_0 rfl rfl ?_
  refine y_istore 3 c123_1 rfl rfl ?_
  have tb := hT.atp 383 0 0 6 rfl
  exact t123a_0 hT hU hk hv hu (k + 1).toNat k none (by omega) (by omega)
set_option maxRecDepth 100000 in
theorem t142_0 {L : Nat} {xs : Nat → Int32} {d nn : Nat} {m : yM} {k v s : Int} (hT : Ty gT m) (hU : UX 0 m (m 383 0)) (hk : -1 ≤ k ∧ k < m 383 0) (hv : -2147483648 ≤ v ∧ v < 2147483648) (hs : -2147483648 ≤ s ∧ s < 2147483648) : YC (gZ L xs) (d + 1) 142 [.ref 376, yI 0, yI k, yI v, yI s] m nn (qP m nn (fun r => -1 ≤ r ∧ r < m 384 0 ∧ (0 ≤ r → m 397 (0 + r.toNat) = s))) := by
  have tb2 := hT.atp 384 0 0 10 rfl
  refine YC.mkB [some (.ref 376), some (yI 0), some (yI k), some (yI v), some (yI s), none] kn142 rfl rfl ?_
  refine y_aload 1 c142_0 rfl rfl rfl ?_
  refine y_iload 2 c142_1 rfl rfl ?_
  refine y_iload 3 c142_2 rfl rfl ?_
  refine y_iload 4 c142_3 rfl rfl ?_
  refine y_iconst 5 c142_4 rfl ?_
  refine y_callP 8 [.ref 376, yI 0, yI k, yI v, yI 0] [] c142_5 rfl rfl rfl rfl rfl (ycanO km123 ko376) (t123_0 hT hU (by omega) (by omega) (by omega)) (fun r6109 hr6109 => ?_)
  refine y_istore 10 c142_8 rfl rfl ?_
  refine y_iload 12 c142_10 rfl rfl ?_
  refine y_if 37 15 c142_12 rfl rfl (yz_lt (by omega)) (fun hb6110 => ?_) (fun hb6110 => ?_)
  · refine y_iconst 38 c142_37 rfl ?_
    exact y_retP c142_38 (y_fit0 _) ⟨by omega, by omega, fun h => by omega⟩
  · refine y_aload 16 c142_15 rfl rfl rfl ?_
    refine y_getR 19 c142_16 rfl kf376_34 ?_
    refine y_iconst 21 c142_19 rfl ?_
    refine y_iload 22 c142_21 rfl rfl ?_
    refine y_imul 23 c142_22 rfl ?_
    refine y_top 0 (by decide) ?_
    refine y_iload 25 c142_23 rfl rfl ?_
    refine y_iadd 26 c142_25 rfl ?_
    refine y_iaT 27 0 2 c142_26 rfl ka397 (by omega) hT rfl (fun v6111 hv6111 gv6111 => ?_)
    refine y_iload 29 c142_27 rfl rfl ?_
    refine y_icmp 37 32 c142_29 rfl rfl (yc_ne (by omega) (by omega)) (fun hb6112 => ?_) (fun hb6112 => ?_)
    · refine y_iconst 38 c142_37 rfl ?_
      exact y_retP c142_38 (y_fit0 _) ⟨by omega, by omega, fun h => by omega⟩
    · refine y_iload 34 c142_32 rfl rfl ?_
      refine y_goto 38 c142_34 rfl ?_
      refine y_retP c142_38 (y_fit0 _) ⟨by omega, by omega, fun h => ?_⟩
      rw [show 0 + r6109.toNat = (0 + r6109).toNat by omega, hv6111]; omega
set_option maxRecDepth 100000 in
theorem t149a_0 {L : Nat} {xs : Nat → Int32} {d nn : Nat} {m : yM} {k u : Int} (hT : Ty gT m) (hU : UX 0 m (m 383 0)) (hk : -1 ≤ k ∧ k < m 383 0) (hu : -2147483648 ≤ u ∧ u < 2147483648) : ∀ (km : Nat) (c : Int), c + 1 = km → -1 ≤ c ∧ c < m 383 0 → YW (gZ L xs) 149 d 3 [some (.ref 376), some (yI 0), some (yI k), some (yI u), some (yI c)] [] m nn (qP m nn (fun r => r = 0 ∨ r = 1)) := by
  intro km
  induction km using Nat.strongRecOn with
  | ind km ih =>
    intro c hk hc
    have tb := hT.atp 383 0 0 6 rfl
    refine y_iload 5 c149_3 rfl rfl ?_
    refine y_if 31 8 c149_5 rfl rfl (yz_lt (by omega)) (fun hb6113 => ?_) (fun hb6113 => ?_)
    · refine y_iload 33 c149_31 rfl rfl ?_
      refine y_iload 34 c149_33 rfl rfl ?_
      refine y_icmp 41 37 c149_34 rfl rfl (yc_ne (by omega) (by omega)) (fun hb6114 => ?_) (fun hb6114 => ?_)
      · refine y_iconst 42 c149_41 rfl ?_
        exact y_retP c149_42 (y_fit1 (by omega)) (by omega)
      · refine y_iconst 38 c149_37 rfl ?_
        refine y_goto 42 c149_38 rfl ?_
        exact y_retP c149_42 (y_fit1 (by omega)) (by omega)
    · refine y_iload 10 c149_8 rfl rfl ?_
      refine y_iload 11 c149_10 rfl rfl ?_
      refine y_icmp 31 14 c149_11 rfl rfl (yc_eq (by omega) (by omega)) (fun hb6115 => ?_) (fun hb6115 => ?_)
      · refine y_iload 33 c149_31 rfl rfl ?_
        refine y_iload 34 c149_33 rfl rfl ?_
        refine y_icmp 41 37 c149_34 rfl rfl (yc_ne (by omega) (by omega)) (fun hb6116 => ?_) (fun hb6116 => ?_)
        · refine y_iconst 42 c149_41 rfl ?_
          exact y_retP c149_42 (y_fit1 (by omega)) (by omega)
        · refine y_iconst 38 c149_37 rfl ?_
          refine y_goto 42 c149_38 rfl ?_
          exact y_retP c149_42 (y_fit1 (by omega)) (by omega)
      · refine y_aload 15 c149_14 rfl rfl rfl ?_
        refine y_getR 18 c149_15 rfl kf376_29 ?_
        refine y_iconst 20 c149_18 rfl ?_
        refine y_iload 21 c149_20 rfl rfl ?_
        refine y_imul 22 c149_21 rfl ?_
        refine y_top 0 (by decide) ?_
        refine y_iload 24 c149_22 rfl rfl ?_
        refine y_iadd 25 c149_24 rfl ?_
        refine y_iaT 26 ((-1)) 5 c149_25 rfl ka392 (by omega) hT rfl (fun v6117 hv6117 gv6117 => ?_)
        have huv6117 : v6117 < c := by have h0 := hU c.toNat (by omega); rw [show 6 * 0 + c.toNat = (0 + c).toNat by omega, hv6117] at h0; omega
        refine y_istore 28 c149_26 rfl rfl ?_
        refine y_goto 3 c149_28 rfl ?_
        exact ih (v6117 + 1 : Int).toNat (by omega) v6117   (by omega) (by omega)
set_option maxRecDepth 100000 in
theorem t149_0 {L : Nat} {xs : Nat → Int32} {d nn : Nat} {m : yM} {k u : Int} (hT : Ty gT m) (hU : UX 0 m (m 383 0)) (hk : -1 ≤ k ∧ k < m 383 0) (hu : -2147483648 ≤ u ∧ u < 2147483648) : YC (gZ L xs) d 149 [.ref 376, yI 0, yI k, yI u] m nn (qP m nn (fun r => r = 0 ∨ r = 1)) := by
  refine YC.mkB [some (.ref 376), some (yI 0), some (yI k), some (yI u), none] kn149 rfl rfl ?_
  refine y_iload 1 c149_0 rfl rfl ?_
  refine y_istore 3 c149_1 rfl rfl ?_
  have tb := hT.atp 383 0 0 6 rfl
  exact t149a_0 hT hU hk hu (k + 1).toNat k (by omega) (by omega)
set_option maxRecDepth 100000 in
theorem t96_1 {L : Nat} {xs : Nat → Int32} {d nn : Nat} {m : yM} (hn : m 376 18 = 0) : YC (gZ L xs) d 96 [.ref 376] m nn (qP m nn (fun r => r = 1)) := by
  refine YC.mkB [some (.ref 376)] kn96 rfl rfl ?_
  refine y_iconst 1 c96_0 rfl ?_
  refine y_aload 2 c96_1 rfl rfl rfl ?_
  refine y_getX 5 (m 376 18) c96_2 rfl kf376_18 rfl ?_
  refine y_isub 6 c96_5 rfl ?_
  exact y_retP c96_6 (y_fit0 _) (by omega)
set_option maxRecDepth 100000 in
theorem t116a_1 {L : Nat} {xs : Nat → Int32} {d nn : Nat} {m : yM} {v : Int} (hT : Ty gT m) (hv : -2147483648 ≤ v ∧ v < 2147483648) : ∀ (km : Nat) (i : Int), m 383 1 - i = km → 0 ≤ i ∧ i ≤ m 383 1 → YW (gZ L xs) 116 d 2 [some (.ref 376), some (yI 1), some (yI v), some (yI i)] [] m nn (qP m nn (fun r => -1 ≤ r ∧ r < m 383 1)) := by
  intro km
  induction km using Nat.strongRecOn with
  | ind km ih =>
    intro i hk hi
    have tb := hT.atp 383 1 0 6 rfl
    refine y_iload 3 c116_2 rfl rfl ?_
    refine y_aload 4 c116_3 rfl rfl rfl ?_
    refine y_getR 7 c116_4 rfl kf376_20 ?_
    refine y_iload 8 c116_7 rfl rfl ?_
    refine y_iaX 9 (m 383 1) c116_8 rfl ka383 (by decide) rfl ?_
    refine y_icmp 35 12 c116_9 rfl rfl (yc_ge (by omega) (by omega)) (fun hb6315 => ?_) (fun hb6315 => ?_)
    · refine y_iconst 36 c116_35 rfl ?_
      exact y_retP c116_36 (y_fit0 _) (by omega)
    · refine y_aload 13 c116_12 rfl rfl rfl ?_
      refine y_getR 16 c116_13 rfl kf376_28 ?_
      refine y_iconst 18 c116_16 rfl ?_
      refine y_iload 19 c116_18 rfl rfl ?_
      refine y_imul 20 c116_19 rfl ?_
      refine y_top 6 (by decide) ?_
      refine y_iload 21 c116_20 rfl rfl ?_
      refine y_iadd 22 c116_21 rfl ?_
      refine y_iaT 23 ((-2147483648)) 2147483647 c116_22 rfl ka391 (by omega) hT rfl (fun v6316 hv6316 gv6316 => ?_)
      refine y_iload 24 c116_23 rfl rfl ?_
      refine y_icmp 29 27 c116_24 rfl rfl (yc_ne (by omega) (by omega)) (fun hb6317 => ?_) (fun hb6317 => ?_)
      · refine y_iinc 32 c116_29 rfl rfl rfl ?_
        refine y_goto 2 c116_32 rfl ?_
        exact ih (m 383 1 - (i + 1) : Int).toNat (by omega) (i + 1)   (by omega) (by omega)
      · refine y_iload 28 c116_27 rfl rfl ?_
        exact y_retP c116_28 (y_fit0 _) (by omega)
set_option maxRecDepth 100000 in
theorem t116_1 {L : Nat} {xs : Nat → Int32} {d nn : Nat} {m : yM} {v : Int} (hT : Ty gT m) (hv : -2147483648 ≤ v ∧ v < 2147483648) : YC (gZ L xs) d 116 [.ref 376, yI 1, yI v] m nn (qP m nn (fun r => -1 ≤ r ∧ r < m 383 1)) := by
  refine YC.mkB [some (.ref 376), some (yI 1), some (yI v), none] kn116 rfl rfl ?_
  refine y_iconst 1 c116_0 rfl ?_
  refine y_istore 2 c116_1 rfl rfl ?_
  have tb := hT.atp 383 1 0 6 rfl
  exact t116a_1 hT hv (m 383 1 - 0).toNat 0 (by omega) (by omega)
set_option maxRecDepth 100000 in
theorem t120a_1 {L : Nat} {xs : Nat → Int32} {d nn : Nat} {m : yM} {v : Int} (hT : Ty gT m) (hv : -2147483648 ≤ v ∧ v < 2147483648) : ∀ (km : Nat) (i : Int), m 385 1 - i = km → 0 ≤ i ∧ i ≤ m 385 1 → YW (gZ L xs) 120 d 2 [some (.ref 376), some (yI 1), some (yI v), some (yI i)] [] m nn (qP m nn (fun r => -1 ≤ r ∧ r < m 385 1)) := by
  intro km
  induction km using Nat.strongRecOn with
  | ind km ih =>
    intro i hk hi
    have tb := hT.atp 385 1 0 8 rfl
    refine y_iload 3 c120_2 rfl rfl ?_
    refine y_aload 4 c120_3 rfl rfl rfl ?_
    refine y_getR 7 c120_4 rfl kf376_22 ?_
    refine y_iload 8 c120_7 rfl rfl ?_
    refine y_iaX 9 (m 385 1) c120_8 rfl ka385 (by decide) rfl ?_
    refine y_icmp 35 12 c120_9 rfl rfl (yc_ge (by omega) (by omega)) (fun hb6318 => ?_) (fun hb6318 => ?_)
    · refine y_iconst 36 c120_35 rfl ?_
      exact y_retP c120_36 (y_fit0 _) (by omega)
    · refine y_aload 13 c120_12 rfl rfl rfl ?_
      refine y_getR 16 c120_13 rfl kf376_31 ?_
      refine y_iconst 18 c120_16 rfl ?_
      refine y_iload 19 c120_18 rfl rfl ?_
      refine y_imul 20 c120_19 rfl ?_
      refine y_top 8 (by decide) ?_
      refine y_iload 21 c120_20 rfl rfl ?_
      refine y_iadd 22 c120_21 rfl ?_
      refine y_iaT 23 ((-2147483648)) 2147483647 c120_22 rfl ka394 (by omega) hT rfl (fun v6319 hv6319 gv6319 => ?_)
      refine y_iload 24 c120_23 rfl rfl ?_
      refine y_icmp 29 27 c120_24 rfl rfl (yc_ne (by omega) (by omega)) (fun hb6320 => ?_) (fun hb6320 => ?_)
      · refine y_iinc 32 c120_29 rfl rfl rfl ?_
        refine y_goto 2 c120_32 rfl ?_
        exact ih (m 385 1 - (i + 1) : Int).toNat (by omega) (i + 1)   (by omega) (by omega)
      · refine y_iload 28 c120_27 rfl rfl ?_
        exact y_retP c120_28 (y_fit0 _) (by omega)
set_option maxRecDepth 100000 in
theorem t120_1 {L : Nat} {xs : Nat → Int32} {d nn : Nat} {m : yM} {v : Int} (hT : Ty gT m) (hv : -2147483648 ≤ v ∧ v < 2147483648) : YC (gZ L xs) d 120 [.ref 376, yI 1, yI v] m nn (qP m nn (fun r => -1 ≤ r ∧ r < m 385 1)) := by
  refine YC.mkB [some (.ref 376), some (yI 1), some (yI v), none] kn120 rfl rfl ?_
  refine y_iconst 1 c120_0 rfl ?_
  refine y_istore 2 c120_1 rfl rfl ?_
  have tb := hT.atp 385 1 0 8 rfl
  exact t120a_1 hT hv (m 385 1 - 0).toNat 0 (by omega) (by omega)
set_option maxRecDepth 100000 in
theorem t121a_1 {L : Nat} {xs : Nat → Int32} {d nn : Nat} {m : yM} {k f : Int} (hT : Ty gT m) (hU : UX 1 m (m 383 1)) (hk : -1 ≤ k ∧ k < m 383 1) (hf : -1 ≤ f ∧ f ≤ 7) (hf0 : 0 ≤ f) : ∀ (km : Nat) (c : Int), c + 1 = km → -1 ≤ c ∧ c < m 383 1 → YW (gZ L xs) 121 d 9 [some (.ref 376), some (yI 1), some (yI k), some (yI f), some (yI c)] [] m nn (qP m nn (fun r => r = 0 ∨ r = 1)) := by
  intro km
  induction km using Nat.strongRecOn with
  | ind km ih =>
    intro c hk hc
    have tb := hT.atp 383 1 0 6 rfl
    refine y_iload 11 c121_9 rfl rfl ?_
    refine y_if 53 14 c121_11 rfl rfl (yz_lt (by omega)) (fun hb6321 => ?_) (fun hb6321 => ?_)
    · refine y_iconst 54 c121_53 rfl ?_
      exact y_retP c121_54 (y_fit1 (by omega)) (by omega)
    · refine y_aload 15 c121_14 rfl rfl rfl ?_
      refine y_getR 18 c121_15 rfl kf376_30 ?_
      refine y_iconst 20 c121_18 rfl ?_
      refine y_iload 21 c121_20 rfl rfl ?_
      refine y_imul 22 c121_21 rfl ?_
      refine y_top 48 (by decide) ?_
      refine y_iconst 24 c121_22 rfl ?_
      refine y_iload 26 c121_24 rfl rfl ?_
      refine y_imul 27 c121_26 rfl ?_
      refine y_iadd 28 c121_27 rfl ?_
      refine y_iload 29 c121_28 rfl rfl ?_
      refine y_iadd 30 c121_29 rfl ?_
      refine y_iaT 31 0 1 c121_30 rfl ka393 (by omega) hT rfl (fun v6322 hv6322 gv6322 => ?_)
      refine y_if 36 34 c121_31 rfl rfl (yz_eq (by omega)) (fun hb6323 => ?_) (fun hb6323 => ?_)
      · refine y_aload 37 c121_36 rfl rfl rfl ?_
        refine y_getR 40 c121_37 rfl kf376_29 ?_
        refine y_iconst 42 c121_40 rfl ?_
        refine y_iload 43 c121_42 rfl rfl ?_
        refine y_imul 44 c121_43 rfl ?_
        refine y_top 6 (by decide) ?_
        refine y_iload 46 c121_44 rfl rfl ?_
        refine y_iadd 47 c121_46 rfl ?_
        refine y_iaT 48 ((-1)) 5 c121_47 rfl ka392 (by omega) hT rfl (fun v6324 hv6324 gv6324 => ?_)
        have huv6324 : v6324 < c := by have h0 := hU c.toNat (by omega); rw [show 6 * 1 + c.toNat = (6 + c).toNat by omega, hv6324] at h0; omega
        refine y_istore 50 c121_48 rfl rfl ?_
        refine y_goto 9 c121_50 rfl ?_
        exact ih (v6324 + 1 : Int).toNat (by omega) v6324   (by omega) (by omega)
      · refine y_iconst 35 c121_34 rfl ?_
        exact y_retP c121_35 (y_fit1 (by omega)) (by omega)
set_option maxRecDepth 100000 in
theorem t121_1 {L : Nat} {xs : Nat → Int32} {d nn : Nat} {m : yM} {k f : Int} (hT : Ty gT m) (hU : UX 1 m (m 383 1)) (hk : -1 ≤ k ∧ k < m 383 1) (hf : -1 ≤ f ∧ f ≤ 7) : YC (gZ L xs) d 121 [.ref 376, yI 1, yI k, yI f] m nn (qP m nn (fun r => r = 0 ∨ r = 1)) := by
  refine YC.mkB [some (.ref 376), some (yI 1), some (yI k), some (yI f), none] kn121 rfl rfl ?_
  refine y_iload 1 c121_0 rfl rfl ?_
  refine y_if 6 4 c121_1 rfl rfl (yz_ge (by omega)) (fun hb6325 => ?_) (fun hb6325 => ?_)
  · refine y_iload 7 c121_6 rfl rfl ?_
    refine y_istore 9 c121_7 rfl rfl ?_
    have tb := hT.atp 383 1 0 6 rfl
    exact t121a_1 hT hU hk hf (by omega) (k + 1).toNat k (by omega) (by omega)
  · refine y_iconst 5 c121_4 rfl ?_
    exact y_retP c121_5 (y_fit1 (by omega)) (by omega)
set_option maxRecDepth 100000 in
theorem t123b_1 {L : Nat} {xs : Nat → Int32} {d nn : Nat} {m : yM} {k v u : Int} (hT : Ty gT m) (hU : UX 1 m (m 383 1)) (hk : -1 ≤ k ∧ k < m 383 1) (hv : -2147483648 ≤ v ∧ v < 2147483648) (hu : u = 0 ∨ u = 1) {c : Int} (hc : 0 ≤ c ∧ c < m 383 1) (ho : ∀ (x6 : Option Value) (c2 : Int), -1 ≤ c2 ∧ c2 < c → YW (gZ L xs) 123 d 3 [some (.ref 376), some (yI 1), some (yI k), some (yI v), some (yI u), some (yI c2), x6] [] m nn (qP m nn (fun r => -1 ≤ r ∧ r < m 384 1))) : ∀ (km : Nat) (i : Int), m 384 1 - i = km → 0 ≤ i ∧ i ≤ m 384 1 → YW (gZ L xs) 123 d 11 [some (.ref 376), some (yI 1), some (yI k), some (yI v), some (yI u), some (yI c), some (yI i)] [] m nn (qP m nn (fun r => -1 ≤ r ∧ r < m 384 1)) := by
  intro km
  induction km using Nat.strongRecOn with
  | ind km ih =>
    intro i hk hi
    have tb := hT.atp 383 1 0 6 rfl
    have tb2 := hT.atp 384 1 0 10 rfl
    refine y_iload 13 c123_11 rfl rfl ?_
    refine y_aload 14 c123_13 rfl rfl rfl ?_
    refine y_getR 17 c123_14 rfl kf376_21 ?_
    refine y_iload 18 c123_17 rfl rfl ?_
    refine y_iaX 19 (m 384 1) c123_18 rfl ka384 (by decide) rfl ?_
    refine y_icmp 64 22 c123_19 rfl rfl (yc_ge (by omega) (by omega)) (fun hb6326 => ?_) (fun hb6326 => ?_)
    · refine y_iload 66 c123_64 rfl rfl ?_
      refine y_if 73 69 c123_66 rfl rfl (yz_eq (by omega)) (fun hb6327 => ?_) (fun hb6327 => ?_)
      · refine y_aload 74 c123_73 rfl rfl rfl ?_
        refine y_getR 77 c123_74 rfl kf376_29 ?_
        refine y_iconst 79 c123_77 rfl ?_
        refine y_iload 80 c123_79 rfl rfl ?_
        refine y_imul 81 c123_80 rfl ?_
        refine y_top 6 (by decide) ?_
        refine y_iload 83 c123_81 rfl rfl ?_
        refine y_iadd 84 c123_83 rfl ?_
        refine y_iaT 85 ((-1)) 5 c123_84 rfl ka392 (by omega) hT rfl (fun v6328 hv6328 gv6328 => ?_)
        have huv6328 : v6328 < c := by have h0 := hU c.toNat (by omega); rw [show 6 * 1 + c.toNat = (6 + c).toNat by omega, hv6328] at h0; omega
        refine y_istore 87 c123_85 rfl rfl ?_
        refine y_goto 3 c123_87 rfl ?_
        exact ho _ v6328 (by omega)
      · refine y_iconst 70 c123_69 rfl ?_
        refine y_goto 85 c123_70 rfl ?_
        refine y_istore 87 c123_85 rfl rfl ?_
        refine y_goto 3 c123_87 rfl ?_
        exact ho _ ((-1)) (by omega)
    · refine y_aload 23 c123_22 rfl rfl rfl ?_
      refine y_getR 26 c123_23 rfl kf376_33 ?_
      refine y_iconst 28 c123_26 rfl ?_
      refine y_iload 29 c123_28 rfl rfl ?_
      refine y_imul 30 c123_29 rfl ?_
      refine y_top 10 (by decide) ?_
      refine y_iload 32 c123_30 rfl rfl ?_
      refine y_iadd 33 c123_32 rfl ?_
      refine y_iaT 34 0 5 c123_33 rfl ka396 (by omega) hT rfl (fun v6329 hv6329 gv6329 => ?_)
      refine y_iload 36 c123_34 rfl rfl ?_
      refine y_icmp 58 39 c123_36 rfl rfl (yc_ne (by omega) (by omega)) (fun hb6330 => ?_) (fun hb6330 => ?_)
      · refine y_iinc 61 c123_58 rfl rfl rfl ?_
        refine y_goto 11 c123_61 rfl ?_
        exact ih (m 384 1 - (i + 1) : Int).toNat (by omega) (i + 1)   (by omega) (by omega)
      · refine y_aload 40 c123_39 rfl rfl rfl ?_
        refine y_getR 43 c123_40 rfl kf376_32 ?_
        refine y_iconst 45 c123_43 rfl ?_
        refine y_iload 46 c123_45 rfl rfl ?_
        refine y_imul 47 c123_46 rfl ?_
        refine y_top 10 (by decide) ?_
        refine y_iload 49 c123_47 rfl rfl ?_
        refine y_iadd 50 c123_49 rfl ?_
        refine y_iaT 51 ((-2147483648)) 2147483647 c123_50 rfl ka395 (by omega) hT rfl (fun v6331 hv6331 gv6331 => ?_)
        refine y_iload 52 c123_51 rfl rfl ?_
        refine y_icmp 58 55 c123_52 rfl rfl (yc_ne (by omega) (by omega)) (fun hb6332 => ?_) (fun hb6332 => ?_)
        · refine y_iinc 61 c123_58 rfl rfl rfl ?_
          refine y_goto 11 c123_61 rfl ?_
          exact ih (m 384 1 - (i + 1) : Int).toNat (by omega) (i + 1)   (by omega) (by omega)
        · refine y_iload 57 c123_55 rfl rfl ?_
          exact y_retP c123_57 (y_fit0 _) (by omega)
set_option maxRecDepth 100000 in
theorem t123a_1 {L : Nat} {xs : Nat → Int32} {d nn : Nat} {m : yM} {k v u : Int} (hT : Ty gT m) (hU : UX 1 m (m 383 1)) (hk : -1 ≤ k ∧ k < m 383 1) (hv : -2147483648 ≤ v ∧ v < 2147483648) (hu : u = 0 ∨ u = 1) : ∀ (km : Nat) (c : Int) (x6 : Option Value), c + 1 = km → -1 ≤ c ∧ c < m 383 1 → YW (gZ L xs) 123 d 3 [some (.ref 376), some (yI 1), some (yI k), some (yI v), some (yI u), some (yI c), x6] [] m nn (qP m nn (fun r => -1 ≤ r ∧ r < m 384 1)) := by
  intro km
  induction km using Nat.strongRecOn with
  | ind km ih =>
    intro c x6 hk hc
    have tb := hT.atp 383 1 0 6 rfl
    have tb2 := hT.atp 384 1 0 10 rfl
    refine y_iload 5 c123_3 rfl rfl ?_
    refine y_if 90 8 c123_5 rfl rfl (yz_lt (by omega)) (fun hb6333 => ?_) (fun hb6333 => ?_)
    · refine y_iconst 91 c123_90 rfl ?_
      exact y_retP c123_91 (y_fit0 _) (by omega)
    · refine y_iconst 9 c123_8 rfl ?_
      refine y_istore 11 c123_9 rfl rfl ?_
      exact t123b_1 hT hU (by omega) hv hu (c := c) (by omega) (fun y6 c2 hc2 => ih (c2 + 1).toNat (by omega) c2 y6 (by omega) (by omega)) (m 384 1 - 0).toNat 0 (by omega) (by omega)
set_option maxRecDepth 100000 in
theorem t123_1 {L : Nat} {xs : Nat → Int32} {d nn : Nat} {m : yM} {k v u : Int} (hT : Ty gT m) (hU : UX 1 m (m 383 1)) (hk : -1 ≤ k ∧ k < m 383 1) (hv : -2147483648 ≤ v ∧ v < 2147483648) (hu : u = 0 ∨ u = 1) : YC (gZ L xs) d 123 [.ref 376, yI 1, yI k, yI v, yI u] m nn (qP m nn (fun r => -1 ≤ r ∧ r < m 384 1)) := by
  refine YC.mkB [some (.ref 376), some (yI 1), some (yI k), some (yI v), some (yI u), none, none] kn123 rfl rfl ?_
  refine y_iload 1 c123_0 rfl rfl ?_
  refine y_istore 3 c123_1 rfl rfl ?_
  have tb := hT.atp 383 1 0 6 rfl
  exact t123a_1 hT hU hk hv hu (k + 1).toNat k none (by omega) (by omega)
set_option maxRecDepth 100000 in
theorem t142_1 {L : Nat} {xs : Nat → Int32} {d nn : Nat} {m : yM} {k v s : Int} (hT : Ty gT m) (hU : UX 1 m (m 383 1)) (hk : -1 ≤ k ∧ k < m 383 1) (hv : -2147483648 ≤ v ∧ v < 2147483648) (hs : -2147483648 ≤ s ∧ s < 2147483648) : YC (gZ L xs) (d + 1) 142 [.ref 376, yI 1, yI k, yI v, yI s] m nn (qP m nn (fun r => -1 ≤ r ∧ r < m 384 1 ∧ (0 ≤ r → m 397 (10 + r.toNat) = s))) := by
  have tb2 := hT.atp 384 1 0 10 rfl
  refine YC.mkB [some (.ref 376), some (yI 1), some (yI k), some (yI v), some (yI s), none] kn142 rfl rfl ?_
  refine y_aload 1 c142_0 rfl rfl rfl ?_
  refine y_iload 2 c142_1 rfl rfl ?_
  refine y_iload 3 c142_2 rfl rfl ?_
  refine y_iload 4 c142_3 rfl rfl ?_
  refine y_iconst 5 c142_4 rfl ?_
  refine y_callP 8 [.ref 376, yI 1, yI k, yI v, yI 0] [] c142_5 rfl rfl rfl rfl rfl (ycanO km123 ko376) (t123_1 hT hU (by omega) (by omega) (by omega)) (fun r6334 hr6334 => ?_)
  refine y_istore 10 c142_8 rfl rfl ?_
  refine y_iload 12 c142_10 rfl rfl ?_
  refine y_if 37 15 c142_12 rfl rfl (yz_lt (by omega)) (fun hb6335 => ?_) (fun hb6335 => ?_)
  · refine y_iconst 38 c142_37 rfl ?_
    exact y_retP c142_38 (y_fit0 _) ⟨by omega, by omega, fun h => by omega⟩
  · refine y_aload 16 c142_15 rfl rfl rfl ?_
    refine y_getR 19 c142_16 rfl kf376_34 ?_
    refine y_iconst 21 c142_19 rfl ?_
    refine y_iload 22 c142_21 rfl rfl ?_
    refine y_imul 23 c142_22 rfl ?_
    refine y_top 10 (by decide) ?_
    refine y_iload 25 c142_23 rfl rfl ?_
    refine y_iadd 26 c142_25 rfl ?_
    refine y_iaT 27 0 2 c142_26 rfl ka397 (by omega) hT rfl (fun v6336 hv6336 gv6336 => ?_)
    refine y_iload 29 c142_27 rfl rfl ?_
    refine y_icmp 37 32 c142_29 rfl rfl (yc_ne (by omega) (by omega)) (fun hb6337 => ?_) (fun hb6337 => ?_)
    · refine y_iconst 38 c142_37 rfl ?_
      exact y_retP c142_38 (y_fit0 _) ⟨by omega, by omega, fun h => by omega⟩
    · refine y_iload 34 c142_32 rfl rfl ?_
      refine y_goto 38 c142_34 rfl ?_
      refine y_retP c142_38 (y_fit0 _) ⟨by omega, by omega, fun h => ?_⟩
      rw [show 10 + r6334.toNat = (10 + r6334).toNat by omega, hv6336]; omega
set_option maxRecDepth 100000 in
theorem t149a_1 {L : Nat} {xs : Nat → Int32} {d nn : Nat} {m : yM} {k u : Int} (hT : Ty gT m) (hU : UX 1 m (m 383 1)) (hk : -1 ≤ k ∧ k < m 383 1) (hu : -2147483648 ≤ u ∧ u < 2147483648) : ∀ (km : Nat) (c : Int), c + 1 = km → -1 ≤ c ∧ c < m 383 1 → YW (gZ L xs) 149 d 3 [some (.ref 376), some (yI 1), some (yI k), some (yI u), some (yI c)] [] m nn (qP m nn (fun r => r = 0 ∨ r = 1)) := by
  intro km
  induction km using Nat.strongRecOn with
  | ind km ih =>
    intro c hk hc
    have tb := hT.atp 383 1 0 6 rfl
    refine y_iload 5 c149_3 rfl rfl ?_
    refine y_if 31 8 c149_5 rfl rfl (yz_lt (by omega)) (fun hb6338 => ?_) (fun hb6338 => ?_)
    · refine y_iload 33 c149_31 rfl rfl ?_
      refine y_iload 34 c149_33 rfl rfl ?_
      refine y_icmp 41 37 c149_34 rfl rfl (yc_ne (by omega) (by omega)) (fun hb6339 => ?_) (fun hb6339 => ?_)
      · refine y_iconst 42 c149_41 rfl ?_
        exact y_retP c149_42 (y_fit1 (by omega)) (by omega)
      · refine y_iconst 38 c149_37 rfl ?_
        refine y_goto 42 c149_38 rfl ?_
        exact y_retP c149_42 (y_fit1 (by omega)) (by omega)
    · refine y_iload 10 c149_8 rfl rfl ?_
      refine y_iload 11 c149_10 rfl rfl ?_
      refine y_icmp 31 14 c149_11 rfl rfl (yc_eq (by omega) (by omega)) (fun hb6340 => ?_) (fun hb6340 => ?_)
      · refine y_iload 33 c149_31 rfl rfl ?_
        refine y_iload 34 c149_33 rfl rfl ?_
        refine y_icmp 41 37 c149_34 rfl rfl (yc_ne (by omega) (by omega)) (fun hb6341 => ?_) (fun hb6341 => ?_)
        · refine y_iconst 42 c149_41 rfl ?_
          exact y_retP c149_42 (y_fit1 (by omega)) (by omega)
        · refine y_iconst 38 c149_37 rfl ?_
          refine y_goto 42 c149_38 rfl ?_
          exact y_retP c149_42 (y_fit1 (by omega)) (by omega)
      · refine y_aload 15 c149_14 rfl rfl rfl ?_
        refine y_getR 18 c149_15 rfl kf376_29 ?_
        refine y_iconst 20 c149_18 rfl ?_
        refine y_iload 21 c149_20 rfl rfl ?_
        refine y_imul 22 c149_21 rfl ?_
        refine y_top 6 (by decide) ?_
        refine y_iload 24 c149_22 rfl rfl ?_
        refine y_iadd 25 c149_24 rfl ?_
        refine y_iaT 26 ((-1)) 5 c149_25 rfl ka392 (by omega) hT rfl (fun v6342 hv6342 gv6342 => ?_)
        have huv6342 : v6342 < c := by have h0 := hU c.toNat (by omega); rw [show 6 * 1 + c.toNat = (6 + c).toNat by omega, hv6342] at h0; omega
        refine y_istore 28 c149_26 rfl rfl ?_
        refine y_goto 3 c149_28 rfl ?_
        exact ih (v6342 + 1 : Int).toNat (by omega) v6342   (by omega) (by omega)
set_option maxRecDepth 100000 in
theorem t149_1 {L : Nat} {xs : Nat → Int32} {d nn : Nat} {m : yM} {k u : Int} (hT : Ty gT m) (hU : UX 1 m (m 383 1)) (hk : -1 ≤ k ∧ k < m 383 1) (hu : -2147483648 ≤ u ∧ u < 2147483648) : YC (gZ L xs) d 149 [.ref 376, yI 1, yI k, yI u] m nn (qP m nn (fun r => r = 0 ∨ r = 1)) := by
  refine YC.mkB [some (.ref 376), some (yI 1), some (yI k), some (yI u), none] kn149 rfl rfl ?_
  refine y_iload 1 c149_0 rfl rfl ?_
  refine y_istore 3 c149_1 rfl rfl ?_
  have tb := hT.atp 383 1 0 6 rfl
  exact t149a_1 hT hU hk hu (k + 1).toNat k (by omega) (by omega)
