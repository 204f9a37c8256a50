/-! CONTRACTS: the model. Printed by wip/whole/gen95.py -/
set_option maxRecDepth 100000 in
theorem t22m {L : Nat} {xs : Nat → Int32} {d nn : Nat} {m : yM} {v l h : Int} (hv : -2147483648 ≤ v ∧ v < 2147483648) (hl : -2147483648 ≤ l ∧ l < 2147483648) (hh : -2147483648 ≤ h ∧ h < 2147483648) : YC (gZ L xs) d 22 [yI v, yI l, yI h] m nn (qP m nn (fun r => (r = 1 ∧ l ≤ v ∧ v ≤ h) ∨ (r = 0 ∧ ¬ (l ≤ v ∧ v ≤ h)))) := by
  refine YC.mkB [some (yI v), some (yI l), some (yI h)] kn22 rfl rfl ?_
  refine y_iload 1 c22_0 rfl rfl ?_
  refine y_iload 2 c22_1 rfl rfl ?_
  refine y_icmp 14 5 c22_2 rfl rfl (yc_lt (by omega) (by omega)) (fun hb5809 => ?_) (fun hb5809 => ?_)
  · refine y_iconst 15 c22_14 rfl ?_
    exact y_retP c22_15 (y_fit1 (by omega)) (by omega)
  · refine y_iload 6 c22_5 rfl rfl ?_
    refine y_iload 7 c22_6 rfl rfl ?_
    refine y_icmp 14 10 c22_7 rfl rfl (yc_gt (by omega) (by omega)) (fun hb5810 => ?_) (fun hb5810 => ?_)
    · refine y_iconst 15 c22_14 rfl ?_
      exact y_retP c22_15 (y_fit1 (by omega)) (by omega)
    · refine y_iconst 11 c22_10 rfl ?_
      refine y_goto 15 c22_11 rfl ?_
      exact y_retP c22_15 (y_fit1 (by omega)) (by omega)
set_option maxRecDepth 100000 in
theorem t97 {L : Nat} {xs : Nat → Int32} {d nn : Nat} {m : yM} {c : Int} (hc : 0 ≤ c ∧ c ≤ 255) : YC (gZ L xs) d 97 [yI c] m nn (qP m nn (fun r => r = 0 ∨ r = 1)) := by
  refine YC.mkB [some (yI c)] kn97 rfl rfl ?_
  refine y_iload 1 c97_0 rfl rfl ?_
  refine y_iconst 3 c97_1 rfl ?_
  refine y_icmp 54 6 c97_3 rfl rfl (yc_eq (by omega) (by omega)) (fun hb5811 => ?_) (fun hb5811 => ?_)
  · refine y_iconst 55 c97_54 rfl ?_
    refine y_goto 59 c97_55 rfl ?_
    exact y_retP c97_59 (y_fit1 (by omega)) (by omega)
  · refine y_iload 7 c97_6 rfl rfl ?_
    refine y_iconst 9 c97_7 rfl ?_
    refine y_icmp 54 12 c97_9 rfl rfl (yc_eq (by omega) (by omega)) (fun hb5812 => ?_) (fun hb5812 => ?_)
    · refine y_iconst 55 c97_54 rfl ?_
      refine y_goto 59 c97_55 rfl ?_
      exact y_retP c97_59 (y_fit1 (by omega)) (by omega)
    · refine y_iload 13 c97_12 rfl rfl ?_
      refine y_iconst 15 c97_13 rfl ?_
      refine y_icmp 54 18 c97_15 rfl rfl (yc_eq (by omega) (by omega)) (fun hb5813 => ?_) (fun hb5813 => ?_)
      · refine y_iconst 55 c97_54 rfl ?_
        refine y_goto 59 c97_55 rfl ?_
        exact y_retP c97_59 (y_fit1 (by omega)) (by omega)
      · refine y_iload 19 c97_18 rfl rfl ?_
        refine y_iconst 21 c97_19 rfl ?_
        refine y_icmp 54 24 c97_21 rfl rfl (yc_eq (by omega) (by omega)) (fun hb5814 => ?_) (fun hb5814 => ?_)
        · refine y_iconst 55 c97_54 rfl ?_
          refine y_goto 59 c97_55 rfl ?_
          exact y_retP c97_59 (y_fit1 (by omega)) (by omega)
        · refine y_iload 25 c97_24 rfl rfl ?_
          refine y_iconst 27 c97_25 rfl ?_
          refine y_icmp 54 30 c97_27 rfl rfl (yc_eq (by omega) (by omega)) (fun hb5815 => ?_) (fun hb5815 => ?_)
          · refine y_iconst 55 c97_54 rfl ?_
            refine y_goto 59 c97_55 rfl ?_
            exact y_retP c97_59 (y_fit1 (by omega)) (by omega)
          · refine y_iload 31 c97_30 rfl rfl ?_
            refine y_iconst 33 c97_31 rfl ?_
            refine y_icmp 54 36 c97_33 rfl rfl (yc_eq (by omega) (by omega)) (fun hb5816 => ?_) (fun hb5816 => ?_)
            · refine y_iconst 55 c97_54 rfl ?_
              refine y_goto 59 c97_55 rfl ?_
              exact y_retP c97_59 (y_fit1 (by omega)) (by omega)
            · refine y_iload 37 c97_36 rfl rfl ?_
              refine y_iconst 39 c97_37 rfl ?_
              refine y_icmp 54 42 c97_39 rfl rfl (yc_eq (by omega) (by omega)) (fun hb5817 => ?_) (fun hb5817 => ?_)
              · refine y_iconst 55 c97_54 rfl ?_
                refine y_goto 59 c97_55 rfl ?_
                exact y_retP c97_59 (y_fit1 (by omega)) (by omega)
              · refine y_iload 43 c97_42 rfl rfl ?_
                refine y_iconst 45 c97_43 rfl ?_
                refine y_icmp 54 48 c97_45 rfl rfl (yc_eq (by omega) (by omega)) (fun hb5818 => ?_) (fun hb5818 => ?_)
                · refine y_iconst 55 c97_54 rfl ?_
                  refine y_goto 59 c97_55 rfl ?_
                  exact y_retP c97_59 (y_fit1 (by omega)) (by omega)
                · refine y_iload 49 c97_48 rfl rfl ?_
                  refine y_iconst 51 c97_49 rfl ?_
                  refine y_icmp 58 54 c97_51 rfl rfl (yc_ne (by omega) (by omega)) (fun hb5819 => ?_) (fun hb5819 => ?_)
                  · refine y_iconst 59 c97_58 rfl ?_
                    exact y_retP c97_59 (y_fit1 (by omega)) (by omega)
                  · refine y_iconst 55 c97_54 rfl ?_
                    refine y_goto 59 c97_55 rfl ?_
                    exact y_retP c97_59 (y_fit1 (by omega)) (by omega)
set_option maxRecDepth 100000 in
theorem t98 {L : Nat} {xs : Nat → Int32} {d nn : Nat} {m : yM} {c : Int} (hc : 0 ≤ c ∧ c ≤ 255) : YC (gZ L xs) (d + 1) 98 [yI c] m nn (qP m nn (fun r => (r = 1 ∧ 97 ≤ c ∧ c ≤ 122) ∨ (r = 0 ∧ ¬ (97 ≤ c ∧ c ≤ 122)))) := by
  refine YC.mkB [some (yI c)] kn98 rfl rfl ?_
  refine y_iload 1 c98_0 rfl rfl ?_
  refine y_iconst 3 c98_1 rfl ?_
  refine y_iconst 5 c98_3 rfl ?_
  refine y_callP 8 [yI c, yI 97, yI 122] [] c98_5 rfl rfl rfl rfl rfl (ycanS km22) (t22m (by omega) (by omega) (by omega)) (fun r5820 hr5820 => ?_)
  exact y_retP c98_8 (y_fit1 (by omega)) (by omega)
set_option maxRecDepth 100000 in
theorem t100 {L : Nat} {xs : Nat → Int32} {d nn : Nat} {m : yM} {v c : Int} (hc : 0 ≤ c ∧ c ≤ 255) : YC (gZ L xs) d 100 [yI v, yI c] m nn (qP m nn (fun r => -2147483648 ≤ r ∧ r < 2147483648)) := by
  refine YC.mkB [some (yI v), some (yI c)] kn100 rfl rfl ?_
  refine y_iload 1 c100_0 rfl rfl ?_
  refine y_if 8 4 c100_1 rfl rfl (yz_ne (by omega)) (fun hb5821 => ?_) (fun hb5821 => ?_)
  · refine y_iconst 10 c100_8 rfl ?_
    refine y_iload 11 c100_10 rfl rfl ?_
    refine y_imul 12 c100_11 rfl ?_
    refine y_iload 13 c100_12 rfl rfl ?_
    refine y_iadd 14 c100_13 rfl ?_
    refine y_iconst 16 c100_14 rfl ?_
    refine y_isub 17 c100_16 rfl ?_
    refine y_iconst 18 c100_17 rfl ?_
    refine y_iadd 19 c100_18 rfl ?_
    refine y_wrap (fun z5822 hz5822 gz5822 => ?_)
    exact y_retP c100_19 (y_fit0 _) gz5822
  · refine y_iload 5 c100_4 rfl rfl ?_
    refine y_goto 19 c100_5 rfl ?_
    refine y_wrap (fun z5823 hz5823 gz5823 => ?_)
    exact y_retP c100_19 (y_fit0 _) gz5823
set_option maxRecDepth 100000 in
theorem t101 {L : Nat} {xs : Nat → Int32} {d nn : Nat} {m : yM} {a : Int} (ha : 0 ≤ a ∧ a ≤ 255) {b : Int} (hb : 0 ≤ b ∧ b ≤ 255) {c : Int} (hc : 0 ≤ c ∧ c ≤ 255) {e : Int} (he : 0 ≤ e ∧ e ≤ 255) {f : Int} (hf : 0 ≤ f ∧ f ≤ 255) {g : Int} (hg : 0 ≤ g ∧ g ≤ 255) : YC (gZ L xs) (d + 1) 101 [yI a, yI b, yI c, yI e, yI f, yI g] m nn (qP m nn (fun r => -2147483648 ≤ r ∧ r < 2147483648)) := by
  refine YC.mkB [some (yI a), some (yI b), some (yI c), some (yI e), some (yI f), some (yI g)] kn101 rfl rfl ?_
  refine y_iconst 1 c101_0 rfl ?_
  refine y_iload 2 c101_1 rfl rfl ?_
  refine y_callP 5 [yI 0, yI a] [] c101_2 rfl rfl rfl rfl rfl (ycanS km100) (t100 (by omega)) (fun r5824 hr5824 => ?_)
  refine y_iload 6 c101_5 rfl rfl ?_
  refine y_callP 9 [yI r5824, yI b] [] c101_6 rfl rfl rfl rfl rfl (ycanS km100) (t100 (by omega)) (fun r5825 hr5825 => ?_)
  refine y_iload 10 c101_9 rfl rfl ?_
  refine y_callP 13 [yI r5825, yI c] [] c101_10 rfl rfl rfl rfl rfl (ycanS km100) (t100 (by omega)) (fun r5826 hr5826 => ?_)
  refine y_iload 14 c101_13 rfl rfl ?_
  refine y_callP 17 [yI r5826, yI e] [] c101_14 rfl rfl rfl rfl rfl (ycanS km100) (t100 (by omega)) (fun r5827 hr5827 => ?_)
  refine y_iload 19 c101_17 rfl rfl ?_
  refine y_callP 22 [yI r5827, yI f] [] c101_19 rfl rfl rfl rfl rfl (ycanS km100) (t100 (by omega)) (fun r5828 hr5828 => ?_)
  refine y_iload 24 c101_22 rfl rfl ?_
  refine y_callP 27 [yI r5828, yI g] [] c101_24 rfl rfl rfl rfl rfl (ycanS km100) (t100 (by omega)) (fun r5829 hr5829 => ?_)
  exact y_retP c101_27 (y_fit0 _) (by omega)
set_option maxRecDepth 100000 in
theorem t102 {L : Nat} {xs : Nat → Int32} {d nn : Nat} {m : yM} {v : Int} (hT : Ty gT m) (hv : -2147483648 ≤ v ∧ v < 2147483648) : YC (gZ L xs) d 102 [.ref 376, yI v] m nn (qP m nn (fun r => (r = 0 ∨ r = 1) ∧ (r = 1 → m 376 3 = 1))) := by
  refine YC.mkB [some (.ref 376), some (yI v)] kn102 rfl rfl ?_
  refine y_aload 1 c102_0 rfl rfl rfl ?_
  refine y_getX 4 (m 376 3) c102_1 rfl kf376_3 rfl ?_
  have tb5830 := hT.atp 376 3 0 3 rfl
  refine y_iconst 5 c102_4 rfl ?_
  refine y_icmp 20 8 c102_5 rfl rfl (yc_ne (by omega) (by omega)) (fun hb5831 => ?_) (fun hb5831 => ?_)
  · refine y_iconst 21 c102_20 rfl ?_
    exact y_retP c102_21 (y_fit1 (by omega)) (by omega)
  · refine y_aload 9 c102_8 rfl rfl rfl ?_
    refine y_getX 12 (m 376 4) c102_9 rfl kf376_4 rfl ?_
    have tb5832 := hT.atp 376 4 ((-2147483648)) 2147483647 rfl
    refine y_iload 13 c102_12 rfl rfl ?_
    refine y_icmp 20 16 c102_13 rfl rfl (yc_ne (by omega) (by omega)) (fun hb5833 => ?_) (fun hb5833 => ?_)
    · refine y_iconst 21 c102_20 rfl ?_
      exact y_retP c102_21 (y_fit1 (by omega)) (by omega)
    · refine y_iconst 17 c102_16 rfl ?_
      refine y_goto 21 c102_17 rfl ?_
      exact y_retP c102_21 (y_fit1 (by omega)) (by omega)
set_option maxRecDepth 100000 in
theorem t103 {L : Nat} {xs : Nat → Int32} {d nn : Nat} {m : yM} (hT : Ty gT m) : YC (gZ L xs) (d + 2) 103 [.ref 376] m nn (qP m nn (fun r => (r = 0 ∨ r = 1) ∧ (r = 1 → m 376 3 = 1))) := by
  refine YC.mkB [some (.ref 376)] kn103 rfl rfl ?_
  refine y_aload 1 c103_0 rfl rfl rfl ?_
  refine y_iconst 3 c103_1 rfl ?_
  refine y_iconst 5 c103_3 rfl ?_
  refine y_iconst 7 c103_5 rfl ?_
  refine y_iconst 9 c103_7 rfl ?_
  refine y_iconst 11 c103_9 rfl ?_
  refine y_iconst 12 c103_11 rfl ?_
  refine y_callP 15 [yI 99, yI 108, yI 97, yI 115, yI 115, yI 0] [.ref 376] c103_12 rfl rfl rfl rfl rfl (ycanS km101) (t101 (by omega) (by omega) (by omega) (by omega) (by omega) (by omega)) (fun r5834 hr5834 => ?_)
  refine y_callP 18 [.ref 376, yI r5834] [] c103_15 rfl rfl rfl rfl rfl (ycanO km102 ko376) (t102 hT (by omega)) (fun r5835 hr5835 => ?_)
  exact y_retP c103_18 (y_fit1 (by omega)) (by omega)
set_option maxRecDepth 100000 in
theorem t106 {L : Nat} {xs : Nat → Int32} {d nn : Nat} {m : yM} (hT : Ty gT m) : YC (gZ L xs) (d + 2) 106 [.ref 376] m nn (qP m nn (fun r => (r = 0 ∨ r = 1) ∧ (r = 1 → m 376 3 = 1))) := by
  refine YC.mkB [some (.ref 376)] kn106 rfl rfl ?_
  refine y_aload 1 c106_0 rfl rfl rfl ?_
  refine y_iconst 3 c106_1 rfl ?_
  refine y_iconst 5 c106_3 rfl ?_
  refine y_iconst 7 c106_5 rfl ?_
  refine y_iconst 9 c106_7 rfl ?_
  refine y_iconst 11 c106_9 rfl ?_
  refine y_iconst 12 c106_11 rfl ?_
  refine y_callP 15 [yI 102, yI 105, yI 101, yI 108, yI 100, yI 0] [.ref 376] c106_12 rfl rfl rfl rfl rfl (ycanS km101) (t101 (by omega) (by omega) (by omega) (by omega) (by omega) (by omega)) (fun r5836 hr5836 => ?_)
  refine y_callP 18 [.ref 376, yI r5836] [] c106_15 rfl rfl rfl rfl rfl (ycanO km102 ko376) (t102 hT (by omega)) (fun r5837 hr5837 => ?_)
  exact y_retP c106_18 (y_fit1 (by omega)) (by omega)
set_option maxRecDepth 100000 in
theorem t107 {L : Nat} {xs : Nat → Int32} {d nn : Nat} {m : yM} (hT : Ty gT m) : YC (gZ L xs) (d + 2) 107 [.ref 376] m nn (qP m nn (fun r => (r = 0 ∨ r = 1) ∧ (r = 1 → m 376 3 = 1))) := by
  refine YC.mkB [some (.ref 376)] kn107 rfl rfl ?_
  refine y_aload 1 c107_0 rfl rfl rfl ?_
  refine y_iconst 3 c107_1 rfl ?_
  refine y_iconst 5 c107_3 rfl ?_
  refine y_iconst 7 c107_5 rfl ?_
  refine y_iconst 8 c107_7 rfl ?_
  refine y_iconst 9 c107_8 rfl ?_
  refine y_iconst 10 c107_9 rfl ?_
  refine y_callP 13 [yI 100, yI 101, yI 102, yI 0, yI 0, yI 0] [.ref 376] c107_10 rfl rfl rfl rfl rfl (ycanS km101) (t101 (by omega) (by omega) (by omega) (by omega) (by omega) (by omega)) (fun r5838 hr5838 => ?_)
  refine y_callP 16 [.ref 376, yI r5838] [] c107_13 rfl rfl rfl rfl rfl (ycanO km102 ko376) (t102 hT (by omega)) (fun r5839 hr5839 => ?_)
  exact y_retP c107_16 (y_fit1 (by omega)) (by omega)
set_option maxRecDepth 100000 in
theorem t108 {L : Nat} {xs : Nat → Int32} {d nn : Nat} {m : yM} (hT : Ty gT m) : YC (gZ L xs) (d + 2) 108 [.ref 376] m nn (qP m nn (fun r => (r = 0 ∨ r = 1) ∧ (r = 1 → m 376 3 = 1))) := by
  refine YC.mkB [some (.ref 376)] kn108 rfl rfl ?_
  refine y_aload 1 c108_0 rfl rfl rfl ?_
  refine y_iconst 3 c108_1 rfl ?_
  refine y_iconst 5 c108_3 rfl ?_
  refine y_iconst 7 c108_5 rfl ?_
  refine y_iconst 8 c108_7 rfl ?_
  refine y_iconst 9 c108_8 rfl ?_
  refine y_iconst 10 c108_9 rfl ?_
  refine y_callP 13 [yI 110, yI 101, yI 119, yI 0, yI 0, yI 0] [.ref 376] c108_10 rfl rfl rfl rfl rfl (ycanS km101) (t101 (by omega) (by omega) (by omega) (by omega) (by omega) (by omega)) (fun r5840 hr5840 => ?_)
  refine y_callP 16 [.ref 376, yI r5840] [] c108_13 rfl rfl rfl rfl rfl (ycanO km102 ko376) (t102 hT (by omega)) (fun r5841 hr5841 => ?_)
  exact y_retP c108_16 (y_fit1 (by omega)) (by omega)
set_option maxRecDepth 100000 in
theorem t109 {L : Nat} {xs : Nat → Int32} {d nn : Nat} {m : yM} (hT : Ty gT m) : YC (gZ L xs) (d + 2) 109 [.ref 376] m nn (qP m nn (fun r => (r = 0 ∨ r = 1) ∧ (r = 1 → m 376 3 = 1))) := by
  refine YC.mkB [some (.ref 376)] kn109 rfl rfl ?_
  refine y_aload 1 c109_0 rfl rfl rfl ?_
  refine y_iconst 3 c109_1 rfl ?_
  refine y_iconst 5 c109_3 rfl ?_
  refine y_iconst 7 c109_5 rfl ?_
  refine y_iconst 9 c109_7 rfl ?_
  refine y_iconst 10 c109_9 rfl ?_
  refine y_iconst 11 c109_10 rfl ?_
  refine y_callP 14 [yI 110, yI 117, yI 108, yI 108, yI 0, yI 0] [.ref 376] c109_11 rfl rfl rfl rfl rfl (ycanS km101) (t101 (by omega) (by omega) (by omega) (by omega) (by omega) (by omega)) (fun r5842 hr5842 => ?_)
  refine y_callP 17 [.ref 376, yI r5842] [] c109_14 rfl rfl rfl rfl rfl (ycanO km102 ko376) (t102 hT (by omega)) (fun r5843 hr5843 => ?_)
  exact y_retP c109_17 (y_fit1 (by omega)) (by omega)
set_option maxRecDepth 100000 in
theorem t110 {L : Nat} {xs : Nat → Int32} {d nn : Nat} {m : yM} (hT : Ty gT m) : YC (gZ L xs) (d + 2) 110 [.ref 376] m nn (qP m nn (fun r => (r = 0 ∨ r = 1) ∧ (r = 1 → m 376 3 = 1))) := by
  refine YC.mkB [some (.ref 376)] kn110 rfl rfl ?_
  refine y_aload 1 c110_0 rfl rfl rfl ?_
  refine y_iconst 3 c110_1 rfl ?_
  refine y_iconst 5 c110_3 rfl ?_
  refine y_iconst 6 c110_5 rfl ?_
  refine y_iconst 7 c110_6 rfl ?_
  refine y_iconst 8 c110_7 rfl ?_
  refine y_iconst 9 c110_8 rfl ?_
  refine y_callP 12 [yI 105, yI 102, yI 0, yI 0, yI 0, yI 0] [.ref 376] c110_9 rfl rfl rfl rfl rfl (ycanS km101) (t101 (by omega) (by omega) (by omega) (by omega) (by omega) (by omega)) (fun r5844 hr5844 => ?_)
  refine y_callP 15 [.ref 376, yI r5844] [] c110_12 rfl rfl rfl rfl rfl (ycanO km102 ko376) (t102 hT (by omega)) (fun r5845 hr5845 => ?_)
  exact y_retP c110_15 (y_fit1 (by omega)) (by omega)
set_option maxRecDepth 100000 in
theorem t111 {L : Nat} {xs : Nat → Int32} {d nn : Nat} {m : yM} (hT : Ty gT m) : YC (gZ L xs) (d + 2) 111 [.ref 376] m nn (qP m nn (fun r => (r = 0 ∨ r = 1) ∧ (r = 1 → m 376 3 = 1))) := by
  refine YC.mkB [some (.ref 376)] kn111 rfl rfl ?_
  refine y_aload 1 c111_0 rfl rfl rfl ?_
  refine y_iconst 3 c111_1 rfl ?_
  refine y_iconst 5 c111_3 rfl ?_
  refine y_iconst 7 c111_5 rfl ?_
  refine y_iconst 9 c111_7 rfl ?_
  refine y_iconst 10 c111_9 rfl ?_
  refine y_iconst 11 c111_10 rfl ?_
  refine y_callP 14 [yI 101, yI 108, yI 115, yI 101, yI 0, yI 0] [.ref 376] c111_11 rfl rfl rfl rfl rfl (ycanS km101) (t101 (by omega) (by omega) (by omega) (by omega) (by omega) (by omega)) (fun r5846 hr5846 => ?_)
  refine y_callP 17 [.ref 376, yI r5846] [] c111_14 rfl rfl rfl rfl rfl (ycanO km102 ko376) (t102 hT (by omega)) (fun r5847 hr5847 => ?_)
  exact y_retP c111_17 (y_fit1 (by omega)) (by omega)
set_option maxRecDepth 100000 in
theorem t112 {L : Nat} {xs : Nat → Int32} {d nn : Nat} {m : yM} (hT : Ty gT m) : YC (gZ L xs) (d + 2) 112 [.ref 376] m nn (qP m nn (fun r => (r = 0 ∨ r = 1) ∧ (r = 1 → m 376 3 = 1))) := by
  refine YC.mkB [some (.ref 376)] kn112 rfl rfl ?_
  refine y_aload 1 c112_0 rfl rfl rfl ?_
  refine y_iconst 3 c112_1 rfl ?_
  refine y_iconst 5 c112_3 rfl ?_
  refine y_iconst 7 c112_5 rfl ?_
  refine y_iconst 9 c112_7 rfl ?_
  refine y_iconst 11 c112_9 rfl ?_
  refine y_iconst 12 c112_11 rfl ?_
  refine y_callP 15 [yI 119, yI 104, yI 105, yI 108, yI 101, yI 0] [.ref 376] c112_12 rfl rfl rfl rfl rfl (ycanS km101) (t101 (by omega) (by omega) (by omega) (by omega) (by omega) (by omega)) (fun r5848 hr5848 => ?_)
  refine y_callP 18 [.ref 376, yI r5848] [] c112_15 rfl rfl rfl rfl rfl (ycanO km102 ko376) (t102 hT (by omega)) (fun r5849 hr5849 => ?_)
  exact y_retP c112_18 (y_fit1 (by omega)) (by omega)
set_option maxRecDepth 100000 in
theorem t113 {L : Nat} {xs : Nat → Int32} {d nn : Nat} {m : yM} (hT : Ty gT m) : YC (gZ L xs) (d + 2) 113 [.ref 376] m nn (qP m nn (fun r => (r = 0 ∨ r = 1) ∧ (r = 1 → m 376 3 = 1))) := by
  refine YC.mkB [some (.ref 376)] kn113 rfl rfl ?_
  refine y_aload 1 c113_0 rfl rfl rfl ?_
  refine y_iconst 3 c113_1 rfl ?_
  refine y_iconst 5 c113_3 rfl ?_
  refine y_iconst 7 c113_5 rfl ?_
  refine y_iconst 9 c113_7 rfl ?_
  refine y_iconst 11 c113_9 rfl ?_
  refine y_iconst 13 c113_11 rfl ?_
  refine y_callP 16 [yI 114, yI 101, yI 116, yI 117, yI 114, yI 110] [.ref 376] c113_13 rfl rfl rfl rfl rfl (ycanS km101) (t101 (by omega) (by omega) (by omega) (by omega) (by omega) (by omega)) (fun r5850 hr5850 => ?_)
  refine y_callP 19 [.ref 376, yI r5850] [] c113_16 rfl rfl rfl rfl rfl (ycanO km102 ko376) (t102 hT (by omega)) (fun r5851 hr5851 => ?_)
  exact y_retP c113_19 (y_fit1 (by omega)) (by omega)
set_option maxRecDepth 100000 in
theorem t114 {L : Nat} {xs : Nat → Int32} {d nn : Nat} {m : yM} (hT : Ty gT m) : YC (gZ L xs) (d + 2) 114 [.ref 376] m nn (qP m nn (fun r => (r = 0 ∨ r = 1) ∧ (r = 1 → m 376 3 = 1))) := by
  refine YC.mkB [some (.ref 376)] kn114 rfl rfl ?_
  refine y_aload 1 c114_0 rfl rfl rfl ?_
  refine y_iconst 3 c114_1 rfl ?_
  refine y_iconst 5 c114_3 rfl ?_
  refine y_iconst 7 c114_5 rfl ?_
  refine y_iconst 9 c114_7 rfl ?_
  refine y_iconst 10 c114_9 rfl ?_
  refine y_iconst 11 c114_10 rfl ?_
  refine y_callP 14 [yI 116, yI 104, yI 105, yI 115, yI 0, yI 0] [.ref 376] c114_11 rfl rfl rfl rfl rfl (ycanS km101) (t101 (by omega) (by omega) (by omega) (by omega) (by omega) (by omega)) (fun r5852 hr5852 => ?_)
  refine y_callP 17 [.ref 376, yI r5852] [] c114_14 rfl rfl rfl rfl rfl (ycanO km102 ko376) (t102 hT (by omega)) (fun r5853 hr5853 => ?_)
  exact y_retP c114_17 (y_fit1 (by omega)) (by omega)
set_option maxRecDepth 100000 in
theorem t115 {L : Nat} {xs : Nat → Int32} {d nn : Nat} {m : yM} (hT : Ty gT m) : YC (gZ L xs) (d + 3) 115 [.ref 376] m nn (qP m nn (fun r => (r = 0 ∨ r = 1) ∧ (r = 1 → m 376 3 = 1))) := by
  refine YC.mkB [some (.ref 376)] kn115 rfl rfl ?_
  refine y_aload 1 c115_0 rfl rfl rfl ?_
  refine y_getX 4 (m 376 3) c115_1 rfl kf376_3 rfl ?_
  have tb5854 := hT.atp 376 3 0 3 rfl
  refine y_iconst 5 c115_4 rfl ?_
  refine y_icmp 82 8 c115_5 rfl rfl (yc_ne (by omega) (by omega)) (fun hb5855 => ?_) (fun hb5855 => ?_)
  · refine y_iconst 83 c115_82 rfl ?_
    exact y_retP c115_83 (y_fit1 (by omega)) (by omega)
  · refine y_aload 9 c115_8 rfl rfl rfl ?_
    refine y_callP 12 [.ref 376] [] c115_9 rfl rfl rfl rfl rfl (ycanO km103 ko376) (t103 hT) (fun r5856 hr5856 => ?_)
    refine y_if 82 15 c115_12 rfl rfl (yz_ne (by omega)) (fun hb5857 => ?_) (fun hb5857 => ?_)
    · refine y_iconst 83 c115_82 rfl ?_
      exact y_retP c115_83 (y_fit1 (by omega)) (by omega)
    · refine y_aload 16 c115_15 rfl rfl rfl ?_
      refine y_callP 19 [.ref 376] [] c115_16 rfl rfl rfl rfl rfl (ycanO km106 ko376) (t106 hT) (fun r5858 hr5858 => ?_)
      refine y_if 82 22 c115_19 rfl rfl (yz_ne (by omega)) (fun hb5859 => ?_) (fun hb5859 => ?_)
      · refine y_iconst 83 c115_82 rfl ?_
        exact y_retP c115_83 (y_fit1 (by omega)) (by omega)
      · refine y_aload 23 c115_22 rfl rfl rfl ?_
        refine y_callP 26 [.ref 376] [] c115_23 rfl rfl rfl rfl rfl (ycanO km107 ko376) (t107 hT) (fun r5860 hr5860 => ?_)
        refine y_if 82 29 c115_26 rfl rfl (yz_ne (by omega)) (fun hb5861 => ?_) (fun hb5861 => ?_)
        · refine y_iconst 83 c115_82 rfl ?_
          exact y_retP c115_83 (y_fit1 (by omega)) (by omega)
        · refine y_aload 30 c115_29 rfl rfl rfl ?_
          refine y_callP 33 [.ref 376] [] c115_30 rfl rfl rfl rfl rfl (ycanO km108 ko376) (t108 hT) (fun r5862 hr5862 => ?_)
          refine y_if 82 36 c115_33 rfl rfl (yz_ne (by omega)) (fun hb5863 => ?_) (fun hb5863 => ?_)
          · refine y_iconst 83 c115_82 rfl ?_
            exact y_retP c115_83 (y_fit1 (by omega)) (by omega)
          · refine y_aload 37 c115_36 rfl rfl rfl ?_
            refine y_callP 40 [.ref 376] [] c115_37 rfl rfl rfl rfl rfl (ycanO km109 ko376) (t109 hT) (fun r5864 hr5864 => ?_)
            refine y_if 82 43 c115_40 rfl rfl (yz_ne (by omega)) (fun hb5865 => ?_) (fun hb5865 => ?_)
            · refine y_iconst 83 c115_82 rfl ?_
              exact y_retP c115_83 (y_fit1 (by omega)) (by omega)
            · refine y_aload 44 c115_43 rfl rfl rfl ?_
              refine y_callP 47 [.ref 376] [] c115_44 rfl rfl rfl rfl rfl (ycanO km110 ko376) (t110 hT) (fun r5866 hr5866 => ?_)
              refine y_if 82 50 c115_47 rfl rfl (yz_ne (by omega)) (fun hb5867 => ?_) (fun hb5867 => ?_)
              · refine y_iconst 83 c115_82 rfl ?_
                exact y_retP c115_83 (y_fit1 (by omega)) (by omega)
              · refine y_aload 51 c115_50 rfl rfl rfl ?_
                refine y_callP 54 [.ref 376] [] c115_51 rfl rfl rfl rfl rfl (ycanO km111 ko376) (t111 hT) (fun r5868 hr5868 => ?_)
                refine y_if 82 57 c115_54 rfl rfl (yz_ne (by omega)) (fun hb5869 => ?_) (fun hb5869 => ?_)
                · refine y_iconst 83 c115_82 rfl ?_
                  exact y_retP c115_83 (y_fit1 (by omega)) (by omega)
                · refine y_aload 58 c115_57 rfl rfl rfl ?_
                  refine y_callP 61 [.ref 376] [] c115_58 rfl rfl rfl rfl rfl (ycanO km112 ko376) (t112 hT) (fun r5870 hr5870 => ?_)
                  refine y_if 82 64 c115_61 rfl rfl (yz_ne (by omega)) (fun hb5871 => ?_) (fun hb5871 => ?_)
                  · refine y_iconst 83 c115_82 rfl ?_
                    exact y_retP c115_83 (y_fit1 (by omega)) (by omega)
                  · refine y_aload 65 c115_64 rfl rfl rfl ?_
                    refine y_callP 68 [.ref 376] [] c115_65 rfl rfl rfl rfl rfl (ycanO km113 ko376) (t113 hT) (fun r5872 hr5872 => ?_)
                    refine y_if 82 71 c115_68 rfl rfl (yz_ne (by omega)) (fun hb5873 => ?_) (fun hb5873 => ?_)
                    · refine y_iconst 83 c115_82 rfl ?_
                      exact y_retP c115_83 (y_fit1 (by omega)) (by omega)
                    · refine y_aload 72 c115_71 rfl rfl rfl ?_
                      refine y_callP 75 [.ref 376] [] c115_72 rfl rfl rfl rfl rfl (ycanO km114 ko376) (t114 hT) (fun r5874 hr5874 => ?_)
                      refine y_if 82 78 c115_75 rfl rfl (yz_ne (by omega)) (fun hb5875 => ?_) (fun hb5875 => ?_)
                      · refine y_iconst 83 c115_82 rfl ?_
                        exact y_retP c115_83 (y_fit1 (by omega)) (by omega)
                      · refine y_iconst 79 c115_78 rfl ?_
                        refine y_goto 83 c115_79 rfl ?_
                        exact y_retP c115_83 (y_fit1 (by omega)) (by omega)
set_option maxRecDepth 100000 in
theorem t117 {L : Nat} {xs : Nat → Int32} {d nn : Nat} {m : yM} {v : Int} (hT : Ty gT m) (hv : -2147483648 ≤ v ∧ v < 2147483648) : YC (gZ L xs) d 117 [.ref 376, yI v] m nn (qP m nn (fun r => (r = 0 ∨ r = 1) ∧ (r = 1 → m 376 3 = 2))) := by
  refine YC.mkB [some (.ref 376), some (yI v)] kn117 rfl rfl ?_
  refine y_aload 1 c117_0 rfl rfl rfl ?_
  refine y_getX 4 (m 376 3) c117_1 rfl kf376_3 rfl ?_
  have tb5876 := hT.atp 376 3 0 3 rfl
  refine y_iconst 5 c117_4 rfl ?_
  refine y_icmp 20 8 c117_5 rfl rfl (yc_ne (by omega) (by omega)) (fun hb5877 => ?_) (fun hb5877 => ?_)
  · refine y_iconst 21 c117_20 rfl ?_
    exact y_retP c117_21 (y_fit1 (by omega)) (by omega)
  · refine y_aload 9 c117_8 rfl rfl rfl ?_
    refine y_getX 12 (m 376 4) c117_9 rfl kf376_4 rfl ?_
    have tb5878 := hT.atp 376 4 ((-2147483648)) 2147483647 rfl
    refine y_iload 13 c117_12 rfl rfl ?_
    refine y_icmp 20 16 c117_13 rfl rfl (yc_ne (by omega) (by omega)) (fun hb5879 => ?_) (fun hb5879 => ?_)
    · refine y_iconst 21 c117_20 rfl ?_
      exact y_retP c117_21 (y_fit1 (by omega)) (by omega)
    · refine y_iconst 17 c117_16 rfl ?_
      refine y_goto 21 c117_17 rfl ?_
      exact y_retP c117_21 (y_fit1 (by omega)) (by omega)
def wNx (a q : Nat) : Bool := a == 376 && (decide (3 ≤ q) && decide (q ≤ 7))
def wNw (a q : Nat) : Bool := a == 376 && (decide (3 ≤ q) && decide (q ≤ 8))
def wWr (a q : Nat) : Bool := a == 376 && q == 8
theorem wNx_wNw : ∀ a q, wNx a q = true → wNw a q = true := by
  intro a q h
  simp [wNx] at h
  simp [wNw]
  omega
theorem wWr_wNw : ∀ a q, wWr a q = true → wNw a q = true := by
  intro a q h
  simp [wWr] at h
  simp [wNw]
  omega
set_option maxRecDepth 100000 in
theorem t99b {L : Nat} {xs : Nat → Int32} {d nn : Nat} {m : yM} (hT : Ty gT m) (hl : m 376 6 ≤ m 376 1) {c : Int} : ∀ (km : Nat) (p : Int) (n : Int) (mi : yM), m 376 1 - p = km → m 376 6 < p ∧ p ≤ m 376 1 → 1 ≤ n ∧ n ≤ p → Ty gT mi → Fr wNx m mi → YW (gZ L xs) 99 (d + 2) 107 [some (.ref 376), some (yI p), some (yI c), some (yI n)] [] mi nn (qU (fun m' n' => n' = nn ∧ Ty gT m' ∧ Fr wNx m m' ∧ m' 376 6 ≤ m' 376 1 ∧ ((m' 376 3 = 0 ∧ m' 376 6 = m 376 6) ∨ (1 ≤ m' 376 3 ∧ m 376 6 < m' 376 6)))) := by
  intro km
  induction km using Nat.strongRecOn with
  | ind km ih =>
    intro p n mi hk hp0 hpn hTi hFi
    have tb1 := hT.atp 376 1 0 320 rfl
    have tb6 := hT.atp 376 6 0 320 rfl
    refine y_iload 108 c99_107 rfl rfl ?_
    refine y_aload 109 c99_108 rfl rfl rfl ?_
    refine y_getX 112 (m 376 1) c99_109 rfl kf376_1 (hFi 376 1 rfl) ?_
    refine y_icmp 165 115 c99_112 rfl rfl (yc_ge (by omega) (by omega)) (fun hb5880 => ?_) (fun hb5880 => ?_)
    · refine y_aload 166 c99_165 rfl rfl rfl ?_
      refine y_iload 167 c99_166 rfl rfl ?_
      refine y_putI 170 c99_167 rfl kf376_6 (y_fit0 _) ?_
      have hT5881 := hTi.up 376 6 p 0 320 rfl (by omega)
      have hF5882 := hFi.up 376 6 p rfl
      refine y_aload 171 c99_170 rfl rfl rfl ?_
      refine y_iload 172 c99_171 rfl rfl ?_
      refine y_iconst 174 c99_172 rfl ?_
      refine y_icmp 181 177 c99_174 rfl rfl (yc_le (by omega) (by omega)) (fun hb5883 => ?_) (fun hb5883 => ?_)
      · refine y_iconst 182 c99_181 rfl ?_
        refine y_putI 185 c99_182 rfl kf376_3 (y_fit0 _) ?_
        have hT5884 := hT5881.up 376 3 1 0 3 rfl (by omega)
        have hF5885 := hF5882.up 376 3 1 rfl
        have es5886 : (yup (yup mi 376 6 p) 376 3 1) 376 1 = m 376 1 := ((yup_nk (by decide)).trans ((yup_nk (by decide)).trans (hFi 376 1 rfl)))
        have es5887 : (yup (yup mi 376 6 p) 376 3 1) 376 3 = 1 := rfl
        have es5888 : (yup (yup mi 376 6 p) 376 3 1) 376 6 = p := rfl
        exact y_retU c99_185 ⟨rfl, hT5884, hF5885, by omega⟩
      · refine y_iconst 178 c99_177 rfl ?_
        refine y_goto 182 c99_178 rfl ?_
        refine y_putI 185 c99_182 rfl kf376_3 (y_fit0 _) ?_
        have hT5889 := hT5881.up 376 3 3 0 3 rfl (by omega)
        have hF5890 := hF5882.up 376 3 3 rfl
        have es5891 : (yup (yup mi 376 6 p) 376 3 3) 376 1 = m 376 1 := ((yup_nk (by decide)).trans ((yup_nk (by decide)).trans (hFi 376 1 rfl)))
        have es5892 : (yup (yup mi 376 6 p) 376 3 3) 376 3 = 3 := rfl
        have es5893 : (yup (yup mi 376 6 p) 376 3 3) 376 6 = p := rfl
        exact y_retU c99_185 ⟨rfl, hT5889, hF5890, by omega⟩
    · refine y_aload 116 c99_115 rfl rfl rfl ?_
      refine y_getR 119 c99_116 rfl kf376_0 ?_
      refine y_iload 120 c99_119 rfl rfl ?_
      refine y_iaT 121 0 255 c99_120 rfl ka377 (by omega) hTi rfl (fun v5894 hv5894 gv5894 => ?_)
      refine y_callP 124 [yI v5894] [] c99_121 rfl rfl rfl rfl rfl (ycanS km98) (t98 (by omega)) (fun r5895 hr5895 => ?_)
      refine y_if 165 127 c99_124 rfl rfl (yz_eq (by omega)) (fun hb5896 => ?_) (fun hb5896 => ?_)
      · refine y_aload 166 c99_165 rfl rfl rfl ?_
        refine y_iload 167 c99_166 rfl rfl ?_
        refine y_putI 170 c99_167 rfl kf376_6 (y_fit0 _) ?_
        have hT5897 := hTi.up 376 6 p 0 320 rfl (by omega)
        have hF5898 := hFi.up 376 6 p rfl
        refine y_aload 171 c99_170 rfl rfl rfl ?_
        refine y_iload 172 c99_171 rfl rfl ?_
        refine y_iconst 174 c99_172 rfl ?_
        refine y_icmp 181 177 c99_174 rfl rfl (yc_le (by omega) (by omega)) (fun hb5899 => ?_) (fun hb5899 => ?_)
        · refine y_iconst 182 c99_181 rfl ?_
          refine y_putI 185 c99_182 rfl kf376_3 (y_fit0 _) ?_
          have hT5900 := hT5897.up 376 3 1 0 3 rfl (by omega)
          have hF5901 := hF5898.up 376 3 1 rfl
          have es5902 : (yup (yup mi 376 6 p) 376 3 1) 376 1 = m 376 1 := ((yup_nk (by decide)).trans ((yup_nk (by decide)).trans (hFi 376 1 rfl)))
          have es5903 : (yup (yup mi 376 6 p) 376 3 1) 376 3 = 1 := rfl
          have es5904 : (yup (yup mi 376 6 p) 376 3 1) 376 6 = p := rfl
          exact y_retU c99_185 ⟨rfl, hT5900, hF5901, by omega⟩
        · refine y_iconst 178 c99_177 rfl ?_
          refine y_goto 182 c99_178 rfl ?_
          refine y_putI 185 c99_182 rfl kf376_3 (y_fit0 _) ?_
          have hT5905 := hT5897.up 376 3 3 0 3 rfl (by omega)
          have hF5906 := hF5898.up 376 3 3 rfl
          have es5907 : (yup (yup mi 376 6 p) 376 3 3) 376 1 = m 376 1 := ((yup_nk (by decide)).trans ((yup_nk (by decide)).trans (hFi 376 1 rfl)))
          have es5908 : (yup (yup mi 376 6 p) 376 3 3) 376 3 = 3 := rfl
          have es5909 : (yup (yup mi 376 6 p) 376 3 3) 376 6 = p := rfl
          exact y_retU c99_185 ⟨rfl, hT5905, hF5906, by omega⟩
      · refine y_iload 128 c99_127 rfl rfl ?_
        refine y_iconst 130 c99_128 rfl ?_
        refine y_icmp 156 133 c99_130 rfl rfl (yc_ge (by omega) (by omega)) (fun hb5910 => ?_) (fun hb5910 => ?_)
        · refine y_iinc 159 c99_156 rfl rfl rfl ?_
          refine y_iinc 162 c99_159 rfl rfl rfl ?_
          refine y_goto 107 c99_162 rfl ?_
          exact ih (m 376 1 - (p + 1) : Int).toNat (by omega) (p + 1) (n + 1)  _ (by omega) (by omega) (by omega) hTi hFi
        · refine y_aload 134 c99_133 rfl rfl rfl ?_
          refine y_iconst 136 c99_134 rfl ?_
          refine y_aload 137 c99_136 rfl rfl rfl ?_
          refine y_getX 140 (mi 376 4) c99_137 rfl kf376_4 rfl ?_
          have tb5911 := hTi.atp 376 4 ((-2147483648)) 2147483647 rfl
          refine y_imul 141 c99_140 rfl ?_
          refine y_aload 142 c99_141 rfl rfl rfl ?_
          refine y_getR 145 c99_142 rfl kf376_0 ?_
          refine y_iload 146 c99_145 rfl rfl ?_
          refine y_iaT 147 0 255 c99_146 rfl ka377 (by omega) hTi rfl (fun v5912 hv5912 gv5912 => ?_)
          refine y_iadd 148 c99_147 rfl ?_
          refine y_iconst 150 c99_148 rfl ?_
          refine y_isub 151 c99_150 rfl ?_
          refine y_iconst 152 c99_151 rfl ?_
          refine y_iadd 153 c99_152 rfl ?_
          refine y_wrap (fun z5913 hz5913 gz5913 => ?_)
          refine y_putI 156 c99_153 rfl kf376_4 (y_fit0 _) ?_
          have hT5914 := hTi.up 376 4 z5913 ((-2147483648)) 2147483647 rfl (by omega)
          have hF5915 := hFi.up 376 4 z5913 rfl
          refine y_iinc 159 c99_156 rfl rfl rfl ?_
          refine y_iinc 162 c99_159 rfl rfl rfl ?_
          refine y_goto 107 c99_162 rfl ?_
          exact ih (m 376 1 - (p + 1) : Int).toNat (by omega) (p + 1) (n + 1)  _ (by omega) (by omega) (by omega) hT5914 hF5915
set_option maxRecDepth 100000 in
theorem t99a {L : Nat} {xs : Nat → Int32} {d nn : Nat} {m : yM} (hT : Ty gT m) (hl : m 376 6 ≤ m 376 1) : ∀ (km : Nat) (p : Int) (mi : yM), m 376 1 - p = km → m 376 6 ≤ p ∧ p ≤ m 376 1 → Ty gT mi → Fr wNx m mi → mi 376 6 = m 376 6 → YW (gZ L xs) 99 (d + 2) 13 [some (.ref 376), some (yI p), none, none] [] mi nn (qU (fun m' n' => n' = nn ∧ Ty gT m' ∧ Fr wNx m m' ∧ m' 376 6 ≤ m' 376 1 ∧ ((m' 376 3 = 0 ∧ m' 376 6 = m 376 6) ∨ (1 ≤ m' 376 3 ∧ m 376 6 < m' 376 6)))) := by
  intro km
  induction km using Nat.strongRecOn with
  | ind km ih =>
    intro p mi hk hp0 hTi hFi h6
    have tb1 := hT.atp 376 1 0 320 rfl
    have tb6 := hT.atp 376 6 0 320 rfl
    refine y_iload 14 c99_13 rfl rfl ?_
    refine y_aload 15 c99_14 rfl rfl rfl ?_
    refine y_getX 18 (m 376 1) c99_15 rfl kf376_1 (hFi 376 1 rfl) ?_
    refine y_icmp 38 21 c99_18 rfl rfl (yc_ge (by omega) (by omega)) (fun hb5916 => ?_) (fun hb5916 => ?_)
    · refine y_aload 39 c99_38 rfl rfl rfl ?_
      refine y_iload 40 c99_39 rfl rfl ?_
      refine y_putI 43 c99_40 rfl kf376_5 (y_fit0 _) ?_
      have hT5917 := hTi.up 376 5 p 0 320 rfl (by omega)
      have hF5918 := hFi.up 376 5 p rfl
      refine y_iload 44 c99_43 rfl rfl ?_
      refine y_aload 45 c99_44 rfl rfl rfl ?_
      refine y_getX 48 (m 376 1) c99_45 rfl kf376_1 ((yup_nk (by decide)).trans (hFi 376 1 rfl)) ?_
      refine y_icmp 57 51 c99_48 rfl rfl (yc_ne (by omega) (by omega)) (fun hb5919 => ?_) (fun hb5919 => ?_)
      · refine y_aload 58 c99_57 rfl rfl rfl ?_
        refine y_getR 61 c99_58 rfl kf376_0 ?_
        refine y_iload 62 c99_61 rfl rfl ?_
        refine y_iaT 63 0 255 c99_62 rfl ka377 (by omega) hT5917 rfl (fun v5920 hv5920 gv5920 => ?_)
        refine y_istore 64 c99_63 rfl rfl ?_
        refine y_aload 65 c99_64 rfl rfl rfl ?_
        refine y_iload 66 c99_65 rfl rfl ?_
        refine y_callP 69 [yI v5920] [.ref 376] c99_66 rfl rfl rfl rfl rfl (ycanS km97) (t97 (by omega)) (fun r5921 hr5921 => ?_)
        refine y_if 76 72 c99_69 rfl rfl (yz_eq (by omega)) (fun hb5922 => ?_) (fun hb5922 => ?_)
        · refine y_iconst 77 c99_76 rfl ?_
          refine y_putI 80 c99_77 rfl kf376_3 (y_fit0 _) ?_
          have hT5923 := hT5917.up 376 3 3 0 3 rfl (by omega)
          have hF5924 := hF5918.up 376 3 3 rfl
          refine y_aload 81 c99_80 rfl rfl rfl ?_
          refine y_iload 82 c99_81 rfl rfl ?_
          refine y_putI 85 c99_82 rfl kf376_4 (y_fit0 _) ?_
          have hT5925 := hT5923.up 376 4 v5920 ((-2147483648)) 2147483647 rfl (by omega)
          have hF5926 := hF5924.up 376 4 v5920 rfl
          refine y_aload 86 c99_85 rfl rfl rfl ?_
          refine y_iload 87 c99_86 rfl rfl ?_
          refine y_iconst 88 c99_87 rfl ?_
          refine y_iadd 89 c99_88 rfl ?_
          refine y_putI 92 c99_89 rfl kf376_6 (y_fit0 _) ?_
          have hT5927 := hT5925.up 376 6 (p + 1) 0 320 rfl (by omega)
          have hF5928 := hF5926.up 376 6 (p + 1) rfl
          refine y_iload 93 c99_92 rfl rfl ?_
          refine y_callP 96 [yI v5920] [] c99_93 rfl rfl rfl rfl rfl (ycanS km98) (t98 (by omega)) (fun r5929 hr5929 => ?_)
          refine y_if 100 99 c99_96 rfl rfl (yz_ne (by omega)) (fun hb5930 => ?_) (fun hb5930 => ?_)
          · refine y_aload 101 c99_100 rfl rfl rfl ?_
            refine y_iconst 102 c99_101 rfl ?_
            refine y_putI 105 c99_102 rfl kf376_4 (y_fit0 _) ?_
            have hT5931 := hT5927.up 376 4 0 ((-2147483648)) 2147483647 rfl (by omega)
            have hF5932 := hF5928.up 376 4 0 rfl
            refine y_iconst 106 c99_105 rfl ?_
            refine y_istore 107 c99_106 rfl rfl ?_
            refine y_iload 108 c99_107 rfl rfl ?_
            refine y_aload 109 c99_108 rfl rfl rfl ?_
            refine y_getX 112 (m 376 1) c99_109 rfl kf376_1 ((yup_nk (by decide)).trans ((yup_nk (by decide)).trans ((yup_nk (by decide)).trans ((yup_nk (by decide)).trans ((yup_nk (by decide)).trans (hFi 376 1 rfl)))))) ?_
            refine y_icmp 165 115 c99_112 rfl rfl (yc_ge (by omega) (by omega)) (fun hb5933 => ?_) (fun hb5933 => ?_)
            · exfalso; omega
            · refine y_aload 116 c99_115 rfl rfl rfl ?_
              refine y_getR 119 c99_116 rfl kf376_0 ?_
              refine y_iload 120 c99_119 rfl rfl ?_
              refine y_iaT 121 0 255 c99_120 rfl ka377 (by omega) hT5931 rfl (fun v5934 hv5934 gv5934 => ?_)
              refine y_callP 124 [yI v5934] [] c99_121 rfl rfl rfl rfl rfl (ycanS km98) (t98 (by omega)) (fun r5935 hr5935 => ?_)
              refine y_if 165 127 c99_124 rfl rfl (yz_eq (by omega)) (fun hb5936 => ?_) (fun hb5936 => ?_)
              · have e9 : v5934 = v5920 ∨ m 376 1 ≤ p := by first | exact Or.inr (by omega) | exact Or.inl (by rw [← hv5934, ← hv5920]; rfl)
                exfalso; omega
              · refine y_iload 128 c99_127 rfl rfl ?_
                refine y_iconst 130 c99_128 rfl ?_
                refine y_icmp 156 133 c99_130 rfl rfl (yc_ge (by omega) (by omega)) (fun hb5937 => ?_) (fun hb5937 => ?_)
                · exfalso; omega
                · refine y_aload 134 c99_133 rfl rfl rfl ?_
                  refine y_iconst 136 c99_134 rfl ?_
                  refine y_aload 137 c99_136 rfl rfl rfl ?_
                  refine y_getX 140 0 c99_137 rfl kf376_4 rfl ?_
                  refine y_imul 141 c99_140 rfl ?_
                  refine y_top 0 (by decide) ?_
                  refine y_aload 142 c99_141 rfl rfl rfl ?_
                  refine y_getR 145 c99_142 rfl kf376_0 ?_
                  refine y_iload 146 c99_145 rfl rfl ?_
                  refine y_iaT 147 0 255 c99_146 rfl ka377 (by omega) hT5931 rfl (fun v5938 hv5938 gv5938 => ?_)
                  refine y_iadd 148 c99_147 rfl ?_
                  refine y_iconst 150 c99_148 rfl ?_
                  refine y_isub 151 c99_150 rfl ?_
                  refine y_iconst 152 c99_151 rfl ?_
                  refine y_iadd 153 c99_152 rfl ?_
                  refine y_putI 156 c99_153 rfl kf376_4 (y_fit0 _) ?_
                  have hT5939 := hT5931.up 376 4 (((0 + v5938) - 97) + 1) ((-2147483648)) 2147483647 rfl (by omega)
                  have hF5940 := hF5932.up 376 4 (((0 + v5938) - 97) + 1) rfl
                  refine y_iincN 159 1 c99_156 rfl rfl (by decide) rfl ?_
                  refine y_iinc 162 c99_159 rfl rfl rfl ?_
                  refine y_goto 107 c99_162 rfl ?_
                  exact t99b hT hl (m 376 1 - (p + 1)).toNat (p + 1) 1 _ (by omega) (by omega) (by omega) hT5939 hF5940
          · have es5941 : (yup (yup (yup (yup mi 376 5 p) 376 3 3) 376 4 v5920) 376 6 (p + 1)) 376 1 = m 376 1 := ((yup_nk (by decide)).trans ((yup_nk (by decide)).trans ((yup_nk (by decide)).trans ((yup_nk (by decide)).trans (hFi 376 1 rfl)))))
            have es5942 : (yup (yup (yup (yup mi 376 5 p) 376 3 3) 376 4 v5920) 376 6 (p + 1)) 376 3 = 3 := rfl
            have es5943 : (yup (yup (yup (yup mi 376 5 p) 376 3 3) 376 4 v5920) 376 6 (p + 1)) 376 6 = p + 1 := rfl
            exact y_retU c99_99 ⟨rfl, hT5927, hF5928, by omega⟩
        · refine y_iconst 73 c99_72 rfl ?_
          refine y_goto 77 c99_73 rfl ?_
          refine y_putI 80 c99_77 rfl kf376_3 (y_fit0 _) ?_
          have hT5944 := hT5917.up 376 3 2 0 3 rfl (by omega)
          have hF5945 := hF5918.up 376 3 2 rfl
          refine y_aload 81 c99_80 rfl rfl rfl ?_
          refine y_iload 82 c99_81 rfl rfl ?_
          refine y_putI 85 c99_82 rfl kf376_4 (y_fit0 _) ?_
          have hT5946 := hT5944.up 376 4 v5920 ((-2147483648)) 2147483647 rfl (by omega)
          have hF5947 := hF5945.up 376 4 v5920 rfl
          refine y_aload 86 c99_85 rfl rfl rfl ?_
          refine y_iload 87 c99_86 rfl rfl ?_
          refine y_iconst 88 c99_87 rfl ?_
          refine y_iadd 89 c99_88 rfl ?_
          refine y_putI 92 c99_89 rfl kf376_6 (y_fit0 _) ?_
          have hT5948 := hT5946.up 376 6 (p + 1) 0 320 rfl (by omega)
          have hF5949 := hF5947.up 376 6 (p + 1) rfl
          refine y_iload 93 c99_92 rfl rfl ?_
          refine y_callP 96 [yI v5920] [] c99_93 rfl rfl rfl rfl rfl (ycanS km98) (t98 (by omega)) (fun r5950 hr5950 => ?_)
          refine y_if 100 99 c99_96 rfl rfl (yz_ne (by omega)) (fun hb5951 => ?_) (fun hb5951 => ?_)
          · refine y_aload 101 c99_100 rfl rfl rfl ?_
            refine y_iconst 102 c99_101 rfl ?_
            refine y_putI 105 c99_102 rfl kf376_4 (y_fit0 _) ?_
            have hT5952 := hT5948.up 376 4 0 ((-2147483648)) 2147483647 rfl (by omega)
            have hF5953 := hF5949.up 376 4 0 rfl
            refine y_iconst 106 c99_105 rfl ?_
            refine y_istore 107 c99_106 rfl rfl ?_
            refine y_iload 108 c99_107 rfl rfl ?_
            refine y_aload 109 c99_108 rfl rfl rfl ?_
            refine y_getX 112 (m 376 1) c99_109 rfl kf376_1 ((yup_nk (by decide)).trans ((yup_nk (by decide)).trans ((yup_nk (by decide)).trans ((yup_nk (by decide)).trans ((yup_nk (by decide)).trans (hFi 376 1 rfl)))))) ?_
            refine y_icmp 165 115 c99_112 rfl rfl (yc_ge (by omega) (by omega)) (fun hb5954 => ?_) (fun hb5954 => ?_)
            · exfalso; omega
            · refine y_aload 116 c99_115 rfl rfl rfl ?_
              refine y_getR 119 c99_116 rfl kf376_0 ?_
              refine y_iload 120 c99_119 rfl rfl ?_
              refine y_iaT 121 0 255 c99_120 rfl ka377 (by omega) hT5952 rfl (fun v5955 hv5955 gv5955 => ?_)
              refine y_callP 124 [yI v5955] [] c99_121 rfl rfl rfl rfl rfl (ycanS km98) (t98 (by omega)) (fun r5956 hr5956 => ?_)
              refine y_if 165 127 c99_124 rfl rfl (yz_eq (by omega)) (fun hb5957 => ?_) (fun hb5957 => ?_)
              · have e9 : v5955 = v5920 ∨ m 376 1 ≤ p := by first | exact Or.inr (by omega) | exact Or.inl (by rw [← hv5955, ← hv5920]; rfl)
                exfalso; omega
              · refine y_iload 128 c99_127 rfl rfl ?_
                refine y_iconst 130 c99_128 rfl ?_
                refine y_icmp 156 133 c99_130 rfl rfl (yc_ge (by omega) (by omega)) (fun hb5958 => ?_) (fun hb5958 => ?_)
                · exfalso; omega
                · refine y_aload 134 c99_133 rfl rfl rfl ?_
                  refine y_iconst 136 c99_134 rfl ?_
                  refine y_aload 137 c99_136 rfl rfl rfl ?_
                  refine y_getX 140 0 c99_137 rfl kf376_4 rfl ?_
                  refine y_imul 141 c99_140 rfl ?_
                  refine y_top 0 (by decide) ?_
                  refine y_aload 142 c99_141 rfl rfl rfl ?_
                  refine y_getR 145 c99_142 rfl kf376_0 ?_
                  refine y_iload 146 c99_145 rfl rfl ?_
                  refine y_iaT 147 0 255 c99_146 rfl ka377 (by omega) hT5952 rfl (fun v5959 hv5959 gv5959 => ?_)
                  refine y_iadd 148 c99_147 rfl ?_
                  refine y_iconst 150 c99_148 rfl ?_
                  refine y_isub 151 c99_150 rfl ?_
                  refine y_iconst 152 c99_151 rfl ?_
                  refine y_iadd 153 c99_152 rfl ?_
                  refine y_putI 156 c99_153 rfl kf376_4 (y_fit0 _) ?_
                  have hT5960 := hT5952.up 376 4 (((0 + v5959) - 97) + 1) ((-2147483648)) 2147483647 rfl (by omega)
                  have hF5961 := hF5953.up 376 4 (((0 + v5959) - 97) + 1) rfl
                  refine y_iincN 159 1 c99_156 rfl rfl (by decide) rfl ?_
                  refine y_iinc 162 c99_159 rfl rfl rfl ?_
                  refine y_goto 107 c99_162 rfl ?_
                  exact t99b hT hl (m 376 1 - (p + 1)).toNat (p + 1) 1 _ (by omega) (by omega) (by omega) hT5960 hF5961
          · have es5962 : (yup (yup (yup (yup mi 376 5 p) 376 3 2) 376 4 v5920) 376 6 (p + 1)) 376 1 = m 376 1 := ((yup_nk (by decide)).trans ((yup_nk (by decide)).trans ((yup_nk (by decide)).trans ((yup_nk (by decide)).trans (hFi 376 1 rfl)))))
            have es5963 : (yup (yup (yup (yup mi 376 5 p) 376 3 2) 376 4 v5920) 376 6 (p + 1)) 376 3 = 2 := rfl
            have es5964 : (yup (yup (yup (yup mi 376 5 p) 376 3 2) 376 4 v5920) 376 6 (p + 1)) 376 6 = p + 1 := rfl
            exact y_retU c99_99 ⟨rfl, hT5948, hF5949, by omega⟩
      · refine y_aload 52 c99_51 rfl rfl rfl ?_
        refine y_iconst 53 c99_52 rfl ?_
        refine y_putI 56 c99_53 rfl kf376_3 (y_fit0 _) ?_
        have hT5965 := hT5917.up 376 3 0 0 3 rfl (by omega)
        have hF5966 := hF5918.up 376 3 0 rfl
        have es5967 : (yup (yup mi 376 5 p) 376 3 0) 376 1 = m 376 1 := ((yup_nk (by decide)).trans ((yup_nk (by decide)).trans (hFi 376 1 rfl)))
        have es5968 : (yup (yup mi 376 5 p) 376 3 0) 376 3 = 0 := rfl
        have es5969 : (yup (yup mi 376 5 p) 376 3 0) 376 6 = mi 376 6 := rfl
        have tb5970 := hTi.atp 376 6 0 320 rfl
        exact y_retU c99_56 ⟨rfl, hT5965, hF5966, by omega⟩
    · refine y_aload 22 c99_21 rfl rfl rfl ?_
      refine y_getR 25 c99_22 rfl kf376_0 ?_
      refine y_iload 26 c99_25 rfl rfl ?_
      refine y_iaT 27 0 255 c99_26 rfl ka377 (by omega) hTi rfl (fun v5971 hv5971 gv5971 => ?_)
      refine y_iconst 29 c99_27 rfl ?_
      refine y_icmp 38 32 c99_29 rfl rfl (yc_ne (by omega) (by omega)) (fun hb5972 => ?_) (fun hb5972 => ?_)
      · refine y_aload 39 c99_38 rfl rfl rfl ?_
        refine y_iload 40 c99_39 rfl rfl ?_
        refine y_putI 43 c99_40 rfl kf376_5 (y_fit0 _) ?_
        have hT5973 := hTi.up 376 5 p 0 320 rfl (by omega)
        have hF5974 := hFi.up 376 5 p rfl
        refine y_iload 44 c99_43 rfl rfl ?_
        refine y_aload 45 c99_44 rfl rfl rfl ?_
        refine y_getX 48 (m 376 1) c99_45 rfl kf376_1 ((yup_nk (by decide)).trans (hFi 376 1 rfl)) ?_
        refine y_icmp 57 51 c99_48 rfl rfl (yc_ne (by omega) (by omega)) (fun hb5975 => ?_) (fun hb5975 => ?_)
        · refine y_aload 58 c99_57 rfl rfl rfl ?_
          refine y_getR 61 c99_58 rfl kf376_0 ?_
          refine y_iload 62 c99_61 rfl rfl ?_
          refine y_iaT 63 0 255 c99_62 rfl ka377 (by omega) hT5973 rfl (fun v5976 hv5976 gv5976 => ?_)
          refine y_istore 64 c99_63 rfl rfl ?_
          refine y_aload 65 c99_64 rfl rfl rfl ?_
          refine y_iload 66 c99_65 rfl rfl ?_
          refine y_callP 69 [yI v5976] [.ref 376] c99_66 rfl rfl rfl rfl rfl (ycanS km97) (t97 (by omega)) (fun r5977 hr5977 => ?_)
          refine y_if 76 72 c99_69 rfl rfl (yz_eq (by omega)) (fun hb5978 => ?_) (fun hb5978 => ?_)
          · refine y_iconst 77 c99_76 rfl ?_
            refine y_putI 80 c99_77 rfl kf376_3 (y_fit0 _) ?_
            have hT5979 := hT5973.up 376 3 3 0 3 rfl (by omega)
            have hF5980 := hF5974.up 376 3 3 rfl
            refine y_aload 81 c99_80 rfl rfl rfl ?_
            refine y_iload 82 c99_81 rfl rfl ?_
            refine y_putI 85 c99_82 rfl kf376_4 (y_fit0 _) ?_
            have hT5981 := hT5979.up 376 4 v5976 ((-2147483648)) 2147483647 rfl (by omega)
            have hF5982 := hF5980.up 376 4 v5976 rfl
            refine y_aload 86 c99_85 rfl rfl rfl ?_
            refine y_iload 87 c99_86 rfl rfl ?_
            refine y_iconst 88 c99_87 rfl ?_
            refine y_iadd 89 c99_88 rfl ?_
            refine y_putI 92 c99_89 rfl kf376_6 (y_fit0 _) ?_
            have hT5983 := hT5981.up 376 6 (p + 1) 0 320 rfl (by omega)
            have hF5984 := hF5982.up 376 6 (p + 1) rfl
            refine y_iload 93 c99_92 rfl rfl ?_
            refine y_callP 96 [yI v5976] [] c99_93 rfl rfl rfl rfl rfl (ycanS km98) (t98 (by omega)) (fun r5985 hr5985 => ?_)
            refine y_if 100 99 c99_96 rfl rfl (yz_ne (by omega)) (fun hb5986 => ?_) (fun hb5986 => ?_)
            · refine y_aload 101 c99_100 rfl rfl rfl ?_
              refine y_iconst 102 c99_101 rfl ?_
              refine y_putI 105 c99_102 rfl kf376_4 (y_fit0 _) ?_
              have hT5987 := hT5983.up 376 4 0 ((-2147483648)) 2147483647 rfl (by omega)
              have hF5988 := hF5984.up 376 4 0 rfl
              refine y_iconst 106 c99_105 rfl ?_
              refine y_istore 107 c99_106 rfl rfl ?_
              refine y_iload 108 c99_107 rfl rfl ?_
              refine y_aload 109 c99_108 rfl rfl rfl ?_
              refine y_getX 112 (m 376 1) c99_109 rfl kf376_1 ((yup_nk (by decide)).trans ((yup_nk (by decide)).trans ((yup_nk (by decide)).trans ((yup_nk (by decide)).trans ((yup_nk (by decide)).trans (hFi 376 1 rfl)))))) ?_
              refine y_icmp 165 115 c99_112 rfl rfl (yc_ge (by omega) (by omega)) (fun hb5989 => ?_) (fun hb5989 => ?_)
              · have e9 : v5976 = v5971 ∨ m 376 1 ≤ p := by first | exact Or.inr (by omega) | exact Or.inl (by rw [← hv5976, ← hv5971]; rfl)
                exfalso; omega
              · refine y_aload 116 c99_115 rfl rfl rfl ?_
                refine y_getR 119 c99_116 rfl kf376_0 ?_
                refine y_iload 120 c99_119 rfl rfl ?_
                refine y_iaT 121 0 255 c99_120 rfl ka377 (by omega) hT5987 rfl (fun v5990 hv5990 gv5990 => ?_)
                refine y_callP 124 [yI v5990] [] c99_121 rfl rfl rfl rfl rfl (ycanS km98) (t98 (by omega)) (fun r5991 hr5991 => ?_)
                refine y_if 165 127 c99_124 rfl rfl (yz_eq (by omega)) (fun hb5992 => ?_) (fun hb5992 => ?_)
                · have e9 : v5990 = v5976 ∨ m 376 1 ≤ p := by first | exact Or.inr (by omega) | exact Or.inl (by rw [← hv5990, ← hv5976]; rfl)
                  exfalso; omega
                · refine y_iload 128 c99_127 rfl rfl ?_
                  refine y_iconst 130 c99_128 rfl ?_
                  refine y_icmp 156 133 c99_130 rfl rfl (yc_ge (by omega) (by omega)) (fun hb5993 => ?_) (fun hb5993 => ?_)
                  · exfalso; omega
                  · refine y_aload 134 c99_133 rfl rfl rfl ?_
                    refine y_iconst 136 c99_134 rfl ?_
                    refine y_aload 137 c99_136 rfl rfl rfl ?_
                    refine y_getX 140 0 c99_137 rfl kf376_4 rfl ?_
                    refine y_imul 141 c99_140 rfl ?_
                    refine y_top 0 (by decide) ?_
                    refine y_aload 142 c99_141 rfl rfl rfl ?_
                    refine y_getR 145 c99_142 rfl kf376_0 ?_
                    refine y_iload 146 c99_145 rfl rfl ?_
                    refine y_iaT 147 0 255 c99_146 rfl ka377 (by omega) hT5987 rfl (fun v5994 hv5994 gv5994 => ?_)
                    refine y_iadd 148 c99_147 rfl ?_
                    refine y_iconst 150 c99_148 rfl ?_
                    refine y_isub 151 c99_150 rfl ?_
                    refine y_iconst 152 c99_151 rfl ?_
                    refine y_iadd 153 c99_152 rfl ?_
                    refine y_putI 156 c99_153 rfl kf376_4 (y_fit0 _) ?_
                    have hT5995 := hT5987.up 376 4 (((0 + v5994) - 97) + 1) ((-2147483648)) 2147483647 rfl (by omega)
                    have hF5996 := hF5988.up 376 4 (((0 + v5994) - 97) + 1) rfl
                    refine y_iincN 159 1 c99_156 rfl rfl (by decide) rfl ?_
                    refine y_iinc 162 c99_159 rfl rfl rfl ?_
                    refine y_goto 107 c99_162 rfl ?_
                    exact t99b hT hl (m 376 1 - (p + 1)).toNat (p + 1) 1 _ (by omega) (by omega) (by omega) hT5995 hF5996
            · have es5997 : (yup (yup (yup (yup mi 376 5 p) 376 3 3) 376 4 v5976) 376 6 (p + 1)) 376 1 = m 376 1 := ((yup_nk (by decide)).trans ((yup_nk (by decide)).trans ((yup_nk (by decide)).trans ((yup_nk (by decide)).trans (hFi 376 1 rfl)))))
              have es5998 : (yup (yup (yup (yup mi 376 5 p) 376 3 3) 376 4 v5976) 376 6 (p + 1)) 376 3 = 3 := rfl
              have es5999 : (yup (yup (yup (yup mi 376 5 p) 376 3 3) 376 4 v5976) 376 6 (p + 1)) 376 6 = p + 1 := rfl
              exact y_retU c99_99 ⟨rfl, hT5983, hF5984, by omega⟩
          · refine y_iconst 73 c99_72 rfl ?_
            refine y_goto 77 c99_73 rfl ?_
            refine y_putI 80 c99_77 rfl kf376_3 (y_fit0 _) ?_
            have hT6000 := hT5973.up 376 3 2 0 3 rfl (by omega)
            have hF6001 := hF5974.up 376 3 2 rfl
            refine y_aload 81 c99_80 rfl rfl rfl ?_
            refine y_iload 82 c99_81 rfl rfl ?_
            refine y_putI 85 c99_82 rfl kf376_4 (y_fit0 _) ?_
            have hT6002 := hT6000.up 376 4 v5976 ((-2147483648)) 2147483647 rfl (by omega)
            have hF6003 := hF6001.up 376 4 v5976 rfl
            refine y_aload 86 c99_85 rfl rfl rfl ?_
            refine y_iload 87 c99_86 rfl rfl ?_
            refine y_iconst 88 c99_87 rfl ?_
            refine y_iadd 89 c99_88 rfl ?_
            refine y_putI 92 c99_89 rfl kf376_6 (y_fit0 _) ?_
            have hT6004 := hT6002.up 376 6 (p + 1) 0 320 rfl (by omega)
            have hF6005 := hF6003.up 376 6 (p + 1) rfl
            refine y_iload 93 c99_92 rfl rfl ?_
            refine y_callP 96 [yI v5976] [] c99_93 rfl rfl rfl rfl rfl (ycanS km98) (t98 (by omega)) (fun r6006 hr6006 => ?_)
            refine y_if 100 99 c99_96 rfl rfl (yz_ne (by omega)) (fun hb6007 => ?_) (fun hb6007 => ?_)
            · refine y_aload 101 c99_100 rfl rfl rfl ?_
              refine y_iconst 102 c99_101 rfl ?_
              refine y_putI 105 c99_102 rfl kf376_4 (y_fit0 _) ?_
              have hT6008 := hT6004.up 376 4 0 ((-2147483648)) 2147483647 rfl (by omega)
              have hF6009 := hF6005.up 376 4 0 rfl
              refine y_iconst 106 c99_105 rfl ?_
              refine y_istore 107 c99_106 rfl rfl ?_
              refine y_iload 108 c99_107 rfl rfl ?_
              refine y_aload 109 c99_108 rfl rfl rfl ?_
              refine y_getX 112 (m 376 1) c99_109 rfl kf376_1 ((yup_nk (by decide)).trans ((yup_nk (by decide)).trans ((yup_nk (by decide)).trans ((yup_nk (by decide)).trans ((yup_nk (by decide)).trans (hFi 376 1 rfl)))))) ?_
              refine y_icmp 165 115 c99_112 rfl rfl (yc_ge (by omega) (by omega)) (fun hb6010 => ?_) (fun hb6010 => ?_)
              · have e9 : v5976 = v5971 ∨ m 376 1 ≤ p := by first | exact Or.inr (by omega) | exact Or.inl (by rw [← hv5976, ← hv5971]; rfl)
                exfalso; omega
              · refine y_aload 116 c99_115 rfl rfl rfl ?_
                refine y_getR 119 c99_116 rfl kf376_0 ?_
                refine y_iload 120 c99_119 rfl rfl ?_
                refine y_iaT 121 0 255 c99_120 rfl ka377 (by omega) hT6008 rfl (fun v6011 hv6011 gv6011 => ?_)
                refine y_callP 124 [yI v6011] [] c99_121 rfl rfl rfl rfl rfl (ycanS km98) (t98 (by omega)) (fun r6012 hr6012 => ?_)
                refine y_if 165 127 c99_124 rfl rfl (yz_eq (by omega)) (fun hb6013 => ?_) (fun hb6013 => ?_)
                · have e9 : v6011 = v5976 ∨ m 376 1 ≤ p := by first | exact Or.inr (by omega) | exact Or.inl (by rw [← hv6011, ← hv5976]; rfl)
                  exfalso; omega
                · refine y_iload 128 c99_127 rfl rfl ?_
                  refine y_iconst 130 c99_128 rfl ?_
                  refine y_icmp 156 133 c99_130 rfl rfl (yc_ge (by omega) (by omega)) (fun hb6014 => ?_) (fun hb6014 => ?_)
                  · exfalso; omega
                  · refine y_aload 134 c99_133 rfl rfl rfl ?_
                    refine y_iconst 136 c99_134 rfl ?_
                    refine y_aload 137 c99_136 rfl rfl rfl ?_
                    refine y_getX 140 0 c99_137 rfl kf376_4 rfl ?_
                    refine y_imul 141 c99_140 rfl ?_
                    refine y_top 0 (by decide) ?_
                    refine y_aload 142 c99_141 rfl rfl rfl ?_
                    refine y_getR 145 c99_142 rfl kf376_0 ?_
                    refine y_iload 146 c99_145 rfl rfl ?_
                    refine y_iaT 147 0 255 c99_146 rfl ka377 (by omega) hT6008 rfl (fun v6015 hv6015 gv6015 => ?_)
                    refine y_iadd 148 c99_147 rfl ?_
                    refine y_iconst 150 c99_148 rfl ?_
                    refine y_isub 151 c99_150 rfl ?_
                    refine y_iconst 152 c99_151 rfl ?_
                    refine y_iadd 153 c99_152 rfl ?_
                    refine y_putI 156 c99_153 rfl kf376_4 (y_fit0 _) ?_
                    have hT6016 := hT6008.up 376 4 (((0 + v6015) - 97) + 1) ((-2147483648)) 2147483647 rfl (by omega)
                    have hF6017 := hF6009.up 376 4 (((0 + v6015) - 97) + 1) rfl
                    refine y_iincN 159 1 c99_156 rfl rfl (by decide) rfl ?_
                    refine y_iinc 162 c99_159 rfl rfl rfl ?_
                    refine y_goto 107 c99_162 rfl ?_
                    exact t99b hT hl (m 376 1 - (p + 1)).toNat (p + 1) 1 _ (by omega) (by omega) (by omega) hT6016 hF6017
            · have es6018 : (yup (yup (yup (yup mi 376 5 p) 376 3 2) 376 4 v5976) 376 6 (p + 1)) 376 1 = m 376 1 := ((yup_nk (by decide)).trans ((yup_nk (by decide)).trans ((yup_nk (by decide)).trans ((yup_nk (by decide)).trans (hFi 376 1 rfl)))))
              have es6019 : (yup (yup (yup (yup mi 376 5 p) 376 3 2) 376 4 v5976) 376 6 (p + 1)) 376 3 = 2 := rfl
              have es6020 : (yup (yup (yup (yup mi 376 5 p) 376 3 2) 376 4 v5976) 376 6 (p + 1)) 376 6 = p + 1 := rfl
              exact y_retU c99_99 ⟨rfl, hT6004, hF6005, by omega⟩
        · refine y_aload 52 c99_51 rfl rfl rfl ?_
          refine y_iconst 53 c99_52 rfl ?_
          refine y_putI 56 c99_53 rfl kf376_3 (y_fit0 _) ?_
          have hT6021 := hT5973.up 376 3 0 0 3 rfl (by omega)
          have hF6022 := hF5974.up 376 3 0 rfl
          have es6023 : (yup (yup mi 376 5 p) 376 3 0) 376 1 = m 376 1 := ((yup_nk (by decide)).trans ((yup_nk (by decide)).trans (hFi 376 1 rfl)))
          have es6024 : (yup (yup mi 376 5 p) 376 3 0) 376 3 = 0 := rfl
          have es6025 : (yup (yup mi 376 5 p) 376 3 0) 376 6 = mi 376 6 := rfl
          have tb6026 := hTi.atp 376 6 0 320 rfl
          exact y_retU c99_56 ⟨rfl, hT6021, hF6022, by omega⟩
      · refine y_iinc 35 c99_32 rfl rfl rfl ?_
        refine y_goto 13 c99_35 rfl ?_
        exact ih (m 376 1 - (p + 1) : Int).toNat (by omega) (p + 1)  _ (by omega) (by omega) hTi hFi h6
set_option maxRecDepth 100000 in
theorem t99 {L : Nat} {xs : Nat → Int32} {d nn : Nat} {m : yM} (hT : Ty gT m) (hl : m 376 6 ≤ m 376 1) : YC (gZ L xs) (d + 2) 99 [.ref 376] m nn (qU (fun m' n' => n' = nn ∧ Ty gT m' ∧ Fr wNx m m' ∧ m' 376 6 ≤ m' 376 1 ∧ ((m' 376 3 = 0 ∧ m' 376 6 = m 376 6) ∨ (1 ≤ m' 376 3 ∧ m 376 6 < m' 376 6)))) := by
  refine YC.mkB [some (.ref 376), none, none, none] kn99 rfl rfl ?_
  have hF : Fr wNx m m := Fr.rf
  refine y_aload 1 c99_0 rfl rfl rfl ?_
  refine y_aload 2 c99_1 rfl rfl rfl ?_
  refine y_getX 5 (m 376 6) c99_2 rfl kf376_6 rfl ?_
  have tb6027 := hT.atp 376 6 0 320 rfl
  refine y_putI 8 c99_5 rfl kf376_7 (y_fit0 _) ?_
  have hT6028 := hT.up 376 7 (m 376 6) 0 320 rfl (by omega)
  have hF6029 := hF.up 376 7 (m 376 6) rfl
  refine y_aload 9 c99_8 rfl rfl rfl ?_
  refine y_getX 12 (m 376 6) c99_9 rfl kf376_6 rfl ?_
  refine y_istore 13 c99_12 rfl rfl ?_
  have tb1 := hT.atp 376 1 0 320 rfl
  have tb6 := hT.atp 376 6 0 320 rfl
  exact t99a hT hl (m 376 1 - m 376 6).toNat (m 376 6) _ (by omega) (by omega) hT6028 hF6029 rfl
theorem t99u {L : Nat} {xs : Nat → Int32} {d nn : Nat} {m : yM} (hT : Ty gT m) (hl : m 376 6 ≤ m 376 1) : YC (gZ L xs) (d + 2) 99 [.ref 376] m nn (qU (fun m' n' => n' = nn ∧ Ty gT m' ∧ Fr wNx m m' ∧ m' 376 6 ≤ m' 376 1 ∧ mu m' ≤ mu m ∧ (m 376 3 ≠ 0 → mu m' < mu m))) := by
  refine YC.mono (t99 hT hl) (fun o m' n' h => ?_)
  obtain ⟨rfl, rfl, h1, h2, h3, h4⟩ := h
  have h5 := mu_le (h2 376 1 rfl) h4
  exact ⟨rfl, rfl, h1, h2, h3, h5.1, h5.2⟩
set_option maxRecDepth 100000 in
theorem t104 {L : Nat} {xs : Nat → Int32} {d nn : Nat} {m : yM} (hT : Ty gT m) : YC (gZ L xs) d 104 [.ref 376] m nn (qU (fun m' n' => n' = nn ∧ Ty gT m' ∧ Fr wWr m m' ∧ 0 ≤ m' 376 8)) := by
  refine YC.mkB [some (.ref 376)] kn104 rfl rfl ?_
  have hF : Fr wWr m m := Fr.rf
  refine y_aload 1 c104_0 rfl rfl rfl ?_
  refine y_getX 4 (m 376 8) c104_1 rfl kf376_8 rfl ?_
  have tb6030 := hT.atp 376 8 ((-1)) 320 rfl
  refine y_if 29 7 c104_4 rfl rfl (yz_ge (by omega)) (fun hb6031 => ?_) (fun hb6031 => ?_)
  · exact y_retU c104_29 ⟨rfl, hT, hF, by omega⟩
  · refine y_aload 8 c104_7 rfl rfl rfl ?_
    refine y_aload 9 c104_8 rfl rfl rfl ?_
    refine y_getX 12 (m 376 3) c104_9 rfl kf376_3 rfl ?_
    have tb6032 := hT.atp 376 3 0 3 rfl
    refine y_if 22 15 c104_12 rfl rfl (yz_ne (by omega)) (fun hb6033 => ?_) (fun hb6033 => ?_)
    · refine y_aload 23 c104_22 rfl rfl rfl ?_
      refine y_getX 26 (m 376 5) c104_23 rfl kf376_5 rfl ?_
      have tb6034 := hT.atp 376 5 0 320 rfl
      refine y_putI 29 c104_26 rfl kf376_8 (y_fit0 _) ?_
      have hT6035 := hT.up 376 8 (m 376 5) ((-1)) 320 rfl (by omega)
      have hF6036 := hF.up 376 8 (m 376 5) rfl
      have es6037 : (yup m 376 8 (m 376 5)) 376 8 = m 376 5 := rfl
      exact y_retU c104_29 ⟨rfl, hT6035, hF6036, by omega⟩
    · refine y_aload 16 c104_15 rfl rfl rfl ?_
      refine y_getX 19 (m 376 7) c104_16 rfl kf376_7 rfl ?_
      have tb6038 := hT.atp 376 7 0 320 rfl
      refine y_goto 26 c104_19 rfl ?_
      refine y_putI 29 c104_26 rfl kf376_8 (y_fit0 _) ?_
      have hT6039 := hT.up 376 8 (m 376 7) ((-1)) 320 rfl (by omega)
      have hF6040 := hF.up 376 8 (m 376 7) rfl
      have es6041 : (yup m 376 8 (m 376 7)) 376 8 = m 376 7 := rfl
      exact y_retU c104_29 ⟨rfl, hT6039, hF6040, by omega⟩
set_option maxRecDepth 100000 in
theorem t105 {L : Nat} {xs : Nat → Int32} {d nn : Nat} {m : yM} {g : Int} (hT : Ty gT m) (hl : m 376 6 ≤ m 376 1) (hg : g = 0 ∨ g = 1) : YC (gZ L xs) (d + 3) 105 [.ref 376, yI g] m nn (qI (fun r m' n' => n' = nn ∧ Ty gT m' ∧ Fr wNw m m' ∧ m' 376 6 ≤ m' 376 1 ∧ ((r = 0 ∧ 0 ≤ m' 376 8 ∧ mu m' = mu m) ∨ (r = 1 ∧ g = 1 ∧ m 376 8 < 0 ∧ m' 376 8 < 0 ∧ mu m' ≤ mu m ∧ (m 376 3 ≠ 0 → mu m' < mu m))))) := by
  have tb8 := hT.atp 376 8 (-1) 320 rfl
  refine YC.mkB [some (.ref 376), some (yI g)] kn105 rfl rfl ?_
  have hF : Fr wNw m m := Fr.rf
  refine y_iload 1 c105_0 rfl rfl ?_
  refine y_if 8 4 c105_1 rfl rfl (yz_ne (by omega)) (fun hb6042 => ?_) (fun hb6042 => ?_)
  · refine y_aload 9 c105_8 rfl rfl rfl ?_
    refine y_getX 12 (m 376 8) c105_9 rfl kf376_8 rfl ?_
    have tb6043 := hT.atp 376 8 ((-1)) 320 rfl
    refine y_if 17 15 c105_12 rfl rfl (yz_lt (by omega)) (fun hb6044 => ?_) (fun hb6044 => ?_)
    · refine y_aload 18 c105_17 rfl rfl rfl ?_
      have tb6046 := hT.atp 376 1 0 320 rfl
      have tb6047 := hT.atp 376 3 0 3 rfl
      have tb6048 := hT.atp 376 6 0 320 rfl
      refine y_callUB 21 [.ref 376] [] c105_18 rfl rfl rfl rfl rfl (ycanO km99 ko376) (t99u hT (by omega)) (fun mq6045 nq6045 hq6045 => ?_)
      obtain ⟨rfl, hTq6045, hFq6045, hq6045⟩ := hq6045
      have hF6049 := hF.tr hFq6045 wNx_wNw
      refine y_iconst 22 c105_21 rfl ?_
      have es6050 : mq6045 376 1 = m 376 1 := (hFq6045 376 1 rfl)
      have tb6051 := hTq6045.atp 376 3 0 3 rfl
      have tb6052 := hTq6045.atp 376 6 0 320 rfl
      have es6053 : mq6045 376 8 = m 376 8 := (hFq6045 376 8 rfl)
      exact y_retI c105_22 (y_fit1 (by omega)) ⟨rfl, hTq6045, hF6049, by omega, by omega⟩
    · refine y_iconst 16 c105_15 rfl ?_
      have tb6054 := hT.atp 376 1 0 320 rfl
      have tb6055 := hT.atp 376 3 0 3 rfl
      have tb6056 := hT.atp 376 6 0 320 rfl
      exact y_retI c105_16 (y_fit1 (by omega)) ⟨rfl, hT, hF, by omega, by omega⟩
  · refine y_aload 5 c105_4 rfl rfl rfl ?_
    have tb6058 := hT.atp 376 1 0 320 rfl
    have tb6059 := hT.atp 376 3 0 3 rfl
    have tb6060 := hT.atp 376 6 0 320 rfl
    have tb6061 := hT.atp 376 8 ((-1)) 320 rfl
    refine y_callUB 8 [.ref 376] [] c105_5 rfl rfl rfl rfl rfl (ycanO km104 ko376) (t104 hT) (fun mq6057 nq6057 hq6057 => ?_)
    obtain ⟨rfl, hTq6057, hFq6057, hq6057⟩ := hq6057
    have hF6062 := hF.tr hFq6057 wWr_wNw
    refine y_aload 9 c105_8 rfl rfl rfl ?_
    refine y_getX 12 (mq6057 376 8) c105_9 rfl kf376_8 rfl ?_
    have tb6063 := hTq6057.atp 376 8 ((-1)) 320 rfl
    refine y_if 17 15 c105_12 rfl rfl (yz_lt (by omega)) (fun hb6064 => ?_) (fun hb6064 => ?_)
    · refine y_aload 18 c105_17 rfl rfl rfl ?_
      have es6066 : mq6057 376 1 = m 376 1 := (hFq6057 376 1 rfl)
      have es6067 : mq6057 376 3 = m 376 3 := (hFq6057 376 3 rfl)
      have es6068 : mq6057 376 6 = m 376 6 := (hFq6057 376 6 rfl)
      have em6069 : mu mq6057 = mu m := mu_fr (hFq6057 376 1 rfl) (hFq6057 376 3 rfl) (hFq6057 376 6 rfl)
      refine y_callUB 21 [.ref 376] [] c105_18 rfl rfl rfl rfl rfl (ycanO km99 ko376) (t99u hTq6057 (by omega)) (fun mq6065 nq6065 hq6065 => ?_)
      obtain ⟨rfl, hTq6065, hFq6065, hq6065⟩ := hq6065
      have hF6070 := hF6062.tr hFq6065 wNx_wNw
      refine y_iconst 22 c105_21 rfl ?_
      have es6071 : mq6065 376 1 = m 376 1 := ((hFq6065 376 1 rfl).trans (hFq6057 376 1 rfl))
      have tb6072 := hTq6065.atp 376 3 0 3 rfl
      have tb6073 := hTq6065.atp 376 6 0 320 rfl
      have es6074 : mq6065 376 8 = mq6057 376 8 := (hFq6065 376 8 rfl)
      exact y_retI c105_22 (y_fit1 (by omega)) ⟨rfl, hTq6065, hF6070, by omega, by omega⟩
    · refine y_iconst 16 c105_15 rfl ?_
      have es6075 : mq6057 376 1 = m 376 1 := (hFq6057 376 1 rfl)
      have es6076 : mq6057 376 3 = m 376 3 := (hFq6057 376 3 rfl)
      have es6077 : mq6057 376 6 = m 376 6 := (hFq6057 376 6 rfl)
      have em6078 : mu mq6057 = mu m := mu_fr (hFq6057 376 1 rfl) (hFq6057 376 3 rfl) (hFq6057 376 6 rfl)
      exact y_retI c105_16 (y_fit1 (by omega)) ⟨rfl, hTq6057, hF6062, by omega, by omega⟩
set_option maxRecDepth 100000 in
theorem t118 {L : Nat} {xs : Nat → Int32} {d nn : Nat} {m : yM} {v : Int} (hT : Ty gT m) (hl : m 376 6 ≤ m 376 1) (hv : -2147483648 ≤ v ∧ v < 2147483648) : YC (gZ L xs) (d + 4) 118 [.ref 376, yI v] m nn (qI (fun r m' n' => n' = nn ∧ Ty gT m' ∧ Fr wNw m m' ∧ m' 376 6 ≤ m' 376 1 ∧ ((r = 0 ∧ 0 ≤ m' 376 8 ∧ mu m' = mu m) ∨ (r = 1 ∧ m 376 8 < 0 ∧ m' 376 8 < 0 ∧ mu m' < mu m)))) := by
  have tb8 := hT.atp 376 8 (-1) 320 rfl
  refine YC.mkB [some (.ref 376), some (yI v)] kn118 rfl rfl ?_
  have hF : Fr wNw m m := Fr.rf
  refine y_aload 1 c118_0 rfl rfl rfl ?_
  refine y_aload 2 c118_1 rfl rfl rfl ?_
  refine y_iload 3 c118_2 rfl rfl ?_
  have tb6079 := hT.atp 376 3 0 3 rfl
  refine y_callP 6 [.ref 376, yI v] [.ref 376] c118_3 rfl rfl rfl rfl rfl (ycanO km117 ko376) (t117 hT (by omega)) (fun r6080 hr6080 => ?_)
  have tb6082 := hT.atp 376 1 0 320 rfl
  have tb6083 := hT.atp 376 6 0 320 rfl
  have tb6084 := hT.atp 376 8 ((-1)) 320 rfl
  refine y_callIB 9 [.ref 376, yI r6080] [] c118_6 rfl rfl rfl rfl rfl (ycanO km105 ko376) (t105 (g := r6080) hT (by omega) (by omega)) (fun rq6081 mq6081 nq6081 hq6081 => ?_)
  obtain ⟨rfl, hTq6081, hFq6081, hq6081⟩ := hq6081
  have hF6085 := hF.tr hFq6081 (fun _ _ e => e)
  have es6086 : mq6081 376 1 = m 376 1 := (hFq6081 376 1 rfl)
  have tb6087 := hTq6081.atp 376 3 0 3 rfl
  have tb6088 := hTq6081.atp 376 6 0 320 rfl
  have tb6089 := hTq6081.atp 376 8 ((-1)) 320 rfl
  exact y_retI c118_9 (y_fit1 (by omega)) ⟨rfl, hTq6081, hF6085, by omega, by omega⟩
