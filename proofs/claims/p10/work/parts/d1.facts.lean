/-! CONTRACTS: the facts. Printed by wip/whole/gen92.py -/
def wRw (B n a _q : Nat) : Bool := decide (B ≤ a ∧ a < B + n)
theorem wRo_wRw {B n R : Nat} (h : B ≤ R ∧ R < B + n) : ∀ a q, wRo R a q = true → wRw B n a q = true := by
  intro a q e
  simp [wRo] at e
  simp [wRw]
  omega
theorem wRw_wFx {B n : Nat} (h : 9 ≤ B ∧ B + n ≤ 169) : ∀ a q, wRw B n a q = true → wFx a q = true := by
  intro a q e
  simp [wRw] at e
  simp [wFx]
  omega
theorem wRw_n {B n a q : Nat} (h : ¬ (B ≤ a ∧ a < B + n)) : wRw B n a q = false := by
  cases e : wRw B n a q with
  | false => rfl
  | true => simp [wRw] at e; omega
set_option maxRecDepth 100000 in
theorem t76a_9 {L : Nat} {xs : Nat → Int32} {d nn : Nat} {m : yM} (hT : Ty gT m) : ∀ (km : Nat) (i : Int) (mi : yM), 48 - i = km → 0 ≤ i ∧ i ≤ 48 → Ty gT mi → Fr (wRw 10 48) m mi → (∀ j q, j < i.toNat → q < 12 → mi (10 + j) q = -1) → YW (gZ L xs) 76 (d + 1) 2 [some (.ref 9), some (yI i)] [] mi nn (qU (fun m' n' => n' = nn ∧ Ty gT m' ∧ Fr (wRw 10 48) m m' ∧ ∀ j q, j < 48 → q < 12 → m' (10 + j) q = -1)) := by
  intro km
  induction km using Nat.strongRecOn with
  | ind km ih =>
    intro i mi hk hi hTi hFi hz
    refine y_iload 3 c76_2 rfl rfl ?_
    refine y_aload 4 c76_3 rfl rfl rfl ?_
    refine y_rlen 5 c76_4 rfl kr9 ?_
    refine y_icmp 21 8 c76_5 rfl rfl (yc_ge (by omega) (by omega)) (fun hb4309 => ?_) (fun hb4309 => ?_)
    · exact y_retU c76_21 ⟨rfl, hTi, hFi, fun j q hj hq => hz j q (by omega) hq⟩
    · refine y_aload 9 c76_8 rfl rfl rfl ?_
      refine y_iload 10 c76_9 rfl rfl ?_
      refine y_aaload 11 c76_10 rfl kr9 (by omega) ?_
      refine y_iconst 12 c76_11 rfl ?_
      refine y_callUB 15 [.ref (10 + i.toNat), yI ((-1))] [] c76_12 rfl rfl rfl rfl rfl (ycanS km75) (t75 hTi (fa10 (by omega)) (fun _ => fz10 (by omega)) (by decide) (by omega)) (fun mq4310 nq4310 hq4310 => ?_)
      obtain ⟨rfl, hTq4310, hFq4310, hq4310⟩ := hq4310
      have hF4311 := hFi.tr hFq4310 (wRo_wRw (by omega))
      refine y_iinc 18 c76_15 rfl rfl rfl ?_
      refine y_goto 2 c76_18 rfl ?_
      exact ih (48 - (i + 1) : Int).toNat (by omega) (i + 1)  _ (by omega) (by omega) hTq4310 hF4311 (fun j q hj hq => by
          by_cases e : j = i.toNat
          · subst e; exact hq4310 q hq
          · rw [hFq4310 _ _ (wRo_n (by omega))]; exact hz j q (by omega) hq)
set_option maxRecDepth 100000 in
theorem t76_9 {L : Nat} {xs : Nat → Int32} {d nn : Nat} {m : yM} (hT : Ty gT m) : YC (gZ L xs) (d + 1) 76 [.ref 9] m nn (qU (fun m' n' => n' = nn ∧ Ty gT m' ∧ Fr (wRw 10 48) m m' ∧ ∀ j q, j < 48 → q < 12 → m' (10 + j) q = -1)) := by
  refine YC.mkB [some (.ref 9), none] kn76 rfl rfl ?_
  refine y_iconst 1 c76_0 rfl ?_
  refine y_istore 2 c76_1 rfl rfl ?_
  exact t76a_9 hT 48 0 m (by omega) (by omega) hT Fr.rf (fun j q hj hq => by simp at hj)
set_option maxRecDepth 100000 in
theorem t76a_58 {L : Nat} {xs : Nat → Int32} {d nn : Nat} {m : yM} (hT : Ty gT m) : ∀ (km : Nat) (i : Int) (mi : yM), 12 - i = km → 0 ≤ i ∧ i ≤ 12 → Ty gT mi → Fr (wRw 59 12) m mi → (∀ j q, j < i.toNat → q < 10 → mi (59 + j) q = -1) → YW (gZ L xs) 76 (d + 1) 2 [some (.ref 58), some (yI i)] [] mi nn (qU (fun m' n' => n' = nn ∧ Ty gT m' ∧ Fr (wRw 59 12) m m' ∧ ∀ j q, j < 12 → q < 10 → m' (59 + j) q = -1)) := by
  intro km
  induction km using Nat.strongRecOn with
  | ind km ih =>
    intro i mi hk hi hTi hFi hz
    refine y_iload 3 c76_2 rfl rfl ?_
    refine y_aload 4 c76_3 rfl rfl rfl ?_
    refine y_rlen 5 c76_4 rfl kr58 ?_
    refine y_icmp 21 8 c76_5 rfl rfl (yc_ge (by omega) (by omega)) (fun hb4312 => ?_) (fun hb4312 => ?_)
    · exact y_retU c76_21 ⟨rfl, hTi, hFi, fun j q hj hq => hz j q (by omega) hq⟩
    · refine y_aload 9 c76_8 rfl rfl rfl ?_
      refine y_iload 10 c76_9 rfl rfl ?_
      refine y_aaload 11 c76_10 rfl kr58 (by omega) ?_
      refine y_iconst 12 c76_11 rfl ?_
      refine y_callUB 15 [.ref (59 + i.toNat), yI ((-1))] [] c76_12 rfl rfl rfl rfl rfl (ycanS km75) (t75 hTi (fa59 (by omega)) (fun _ => fz59 (by omega)) (by decide) (by omega)) (fun mq4313 nq4313 hq4313 => ?_)
      obtain ⟨rfl, hTq4313, hFq4313, hq4313⟩ := hq4313
      have hF4314 := hFi.tr hFq4313 (wRo_wRw (by omega))
      refine y_iinc 18 c76_15 rfl rfl rfl ?_
      refine y_goto 2 c76_18 rfl ?_
      exact ih (12 - (i + 1) : Int).toNat (by omega) (i + 1)  _ (by omega) (by omega) hTq4313 hF4314 (fun j q hj hq => by
          by_cases e : j = i.toNat
          · subst e; exact hq4313 q hq
          · rw [hFq4313 _ _ (wRo_n (by omega))]; exact hz j q (by omega) hq)
set_option maxRecDepth 100000 in
theorem t76_58 {L : Nat} {xs : Nat → Int32} {d nn : Nat} {m : yM} (hT : Ty gT m) : YC (gZ L xs) (d + 1) 76 [.ref 58] m nn (qU (fun m' n' => n' = nn ∧ Ty gT m' ∧ Fr (wRw 59 12) m m' ∧ ∀ j q, j < 12 → q < 10 → m' (59 + j) q = -1)) := by
  refine YC.mkB [some (.ref 58), none] kn76 rfl rfl ?_
  refine y_iconst 1 c76_0 rfl ?_
  refine y_istore 2 c76_1 rfl rfl ?_
  exact t76a_58 hT 12 0 m (by omega) (by omega) hT Fr.rf (fun j q hj hq => by simp at hj)
set_option maxRecDepth 100000 in
theorem t76a_72 {L : Nat} {xs : Nat → Int32} {d nn : Nat} {m : yM} (hT : Ty gT m) : ∀ (km : Nat) (i : Int) (mi : yM), 96 - i = km → 0 ≤ i ∧ i ≤ 96 → Ty gT mi → Fr (wRw 73 96) m mi → (∀ j q, j < i.toNat → q < 12 → mi (73 + j) q = -1) → YW (gZ L xs) 76 (d + 1) 2 [some (.ref 72), some (yI i)] [] mi nn (qU (fun m' n' => n' = nn ∧ Ty gT m' ∧ Fr (wRw 73 96) m m' ∧ ∀ j q, j < 96 → q < 12 → m' (73 + j) q = -1)) := by
  intro km
  induction km using Nat.strongRecOn with
  | ind km ih =>
    intro i mi hk hi hTi hFi hz
    refine y_iload 3 c76_2 rfl rfl ?_
    refine y_aload 4 c76_3 rfl rfl rfl ?_
    refine y_rlen 5 c76_4 rfl kr72 ?_
    refine y_icmp 21 8 c76_5 rfl rfl (yc_ge (by omega) (by omega)) (fun hb4315 => ?_) (fun hb4315 => ?_)
    · exact y_retU c76_21 ⟨rfl, hTi, hFi, fun j q hj hq => hz j q (by omega) hq⟩
    · refine y_aload 9 c76_8 rfl rfl rfl ?_
      refine y_iload 10 c76_9 rfl rfl ?_
      refine y_aaload 11 c76_10 rfl kr72 (by omega) ?_
      refine y_iconst 12 c76_11 rfl ?_
      refine y_callUB 15 [.ref (73 + i.toNat), yI ((-1))] [] c76_12 rfl rfl rfl rfl rfl (ycanS km75) (t75 hTi (fa73 (by omega)) (fun _ => fz73 (by omega)) (by decide) (by omega)) (fun mq4316 nq4316 hq4316 => ?_)
      obtain ⟨rfl, hTq4316, hFq4316, hq4316⟩ := hq4316
      have hF4317 := hFi.tr hFq4316 (wRo_wRw (by omega))
      refine y_iinc 18 c76_15 rfl rfl rfl ?_
      refine y_goto 2 c76_18 rfl ?_
      exact ih (96 - (i + 1) : Int).toNat (by omega) (i + 1)  _ (by omega) (by omega) hTq4316 hF4317 (fun j q hj hq => by
          by_cases e : j = i.toNat
          · subst e; exact hq4316 q hq
          · rw [hFq4316 _ _ (wRo_n (by omega))]; exact hz j q (by omega) hq)
set_option maxRecDepth 100000 in
theorem t76_72 {L : Nat} {xs : Nat → Int32} {d nn : Nat} {m : yM} (hT : Ty gT m) : YC (gZ L xs) (d + 1) 76 [.ref 72] m nn (qU (fun m' n' => n' = nn ∧ Ty gT m' ∧ Fr (wRw 73 96) m m' ∧ ∀ j q, j < 96 → q < 12 → m' (73 + j) q = -1)) := by
  refine YC.mkB [some (.ref 72), none] kn76 rfl rfl ?_
  refine y_iconst 1 c76_0 rfl ?_
  refine y_istore 2 c76_1 rfl rfl ?_
  exact t76a_72 hT 96 0 m (by omega) (by omega) hT Fr.rf (fun j q hj hq => by simp at hj)
set_option maxRecDepth 100000 in
theorem t77 {L : Nat} {xs : Nat → Int32} {d nn : Nat} {m : yM} (hT : Ty gT m) : YC (gZ L xs) (d + 2) 77 [.ref 8] m nn (qU (fun m' n' => n' = nn ∧ Ty gT m' ∧ Fr wFx m m' ∧ m' 8 6 = 0 ∧ ∀ j q, j < 12 → q < 10 → m' (59 + j) q = -1)) := by
  refine YC.mkB [some (.ref 8)] kn77 rfl rfl ?_
  have hF : Fr wFx m m := Fr.rf
  refine y_aload 1 c77_0 rfl rfl rfl ?_
  refine y_getR 4 c77_1 rfl kf8_0 ?_
  refine y_callUB 7 [.ref 9] [] c77_4 rfl rfl rfl rfl rfl (ycanS km76) (t76_9 hT) (fun mq4318 nq4318 hq4318 => ?_)
  obtain ⟨rfl, hTq4318, hFq4318, hq4318⟩ := hq4318
  have hF4319 := hF.tr hFq4318 (wRw_wFx (by decide))
  refine y_aload 8 c77_7 rfl rfl rfl ?_
  refine y_getR 11 c77_8 rfl kf8_1 ?_
  refine y_callUB 14 [.ref 58] [] c77_11 rfl rfl rfl rfl rfl (ycanS km76) (t76_58 hTq4318) (fun mq4320 nq4320 hq4320 => ?_)
  obtain ⟨rfl, hTq4320, hFq4320, hq4320⟩ := hq4320
  have hF4321 := hF4319.tr hFq4320 (wRw_wFx (by decide))
  refine y_aload 15 c77_14 rfl rfl rfl ?_
  refine y_getR 18 c77_15 rfl kf8_3 ?_
  refine y_callUB 21 [.ref 72] [] c77_18 rfl rfl rfl rfl rfl (ycanS km76) (t76_72 hTq4320) (fun mq4322 nq4322 hq4322 => ?_)
  obtain ⟨rfl, hTq4322, hFq4322, hq4322⟩ := hq4322
  have hF4323 := hF4321.tr hFq4322 (wRw_wFx (by decide))
  refine y_aload 22 c77_21 rfl rfl rfl ?_
  refine y_getR 25 c77_22 rfl kf8_2 ?_
  refine y_iconst 26 c77_25 rfl ?_
  refine y_callUB 29 [.ref 71, yI ((-1))] [] c77_26 rfl rfl rfl rfl rfl (ycanS km75) (t75 hTq4322 ka71 (fun _ => rfl) (by decide) (by omega)) (fun mq4324 nq4324 hq4324 => ?_)
  obtain ⟨rfl, hTq4324, hFq4324, hq4324⟩ := hq4324
  have hF4325 := hF4323.tr hFq4324 (wRo_wFx (by decide))
  refine y_aload 30 c77_29 rfl rfl rfl ?_
  refine y_iconst 31 c77_30 rfl ?_
  refine y_putI 34 c77_31 rfl kf8_6 (y_fit0 _) ?_
  have hT4326 := hTq4324.up 8 6 0 0 2001 rfl (by omega)
  have hF4327 := hF4325.up 8 6 0 rfl
  exact y_retU c77_34 ⟨rfl, hT4326, hF4327, rfl, fun j q hj hq => (yup_na (by omega)).trans ((hFq4324 _ _ (wRo_n (by omega))).trans ((hFq4322 _ _ (wRw_n (by omega))).trans (hq4320 j q hj hq)))⟩
