/-! CONTRACTS: the model, rounds. Printed by wip/whole/gen9d.py -/
def wAz (a q : Nat) : Bool := (a == 376 && (q == 45 || q == 46 || q == 47)) || decide (404 ≤ a ∧ a ≤ 407)
theorem wAn_wAz : ∀ a q, wAn a q = true → wAz a q = true := by
  intro a q h
  simp [wAn] at h
  simp [wAz]
  omega
theorem wAm_wAz : ∀ a q, wAm a q = true → wAz a q = true := by
  intro a q h
  simp [wAm] at h
  simp [wAz]
  omega
theorem wRo_wAz {R : Nat} (h : 404 ≤ R ∧ R ≤ 407) : ∀ a q, wRo R a q = true → wAz a q = true := by
  intro a q e
  simp [wRo] at e
  simp [wAz]
  omega
theorem wAz_G {p : Nat} : ∀ a q, vGq p a q = true → wAz a q = false := by
  intro a q h
  cases e : wAz a q with
  | false => rfl
  | true => simp [wAz] at e; simp [vGq] at h; omega
set_option maxRecDepth 100000 in
theorem t151_404 {L : Nat} {xs : Nat → Int32} {d nn : Nat} {m : yM} {Q : xO → yM → Nat → Prop} (hT : Ty gT m) (ho : ∀ (x1 : Option Value) (mi : yM), Ty gT mi → Fr (wRo 404) m mi → YW (gZ L xs) 151 (d + 5) 22 [some (.ref 376), x1, none, none] [] mi nn Q) : ∀ (km : Nat) (i : Int) (mi : yM), 576 - i = km → 0 ≤ i ∧ i ≤ 576 → Ty gT mi → Fr (wRo 404) m mi → YW (gZ L xs) 151 (d + 5) 2 [some (.ref 376), some (yI i), none, none] [] mi nn (Q) := by
  intro km
  induction km using Nat.strongRecOn with
  | ind km ih =>
    intro i mi hk hi hTi hFi
    refine y_iload 3 c151_2 rfl rfl ?_
    refine y_iconst 6 c151_3 rfl ?_
    refine y_icmp 22 9 c151_6 rfl rfl (yc_ge (by omega) (by omega)) (fun hb12680 => ?_) (fun hb12680 => ?_)
    · exact ho _ _ hTi hFi
    · refine y_aload 10 c151_9 rfl rfl rfl ?_
      refine y_getR 13 c151_10 rfl kf376_41 ?_
      refine y_iload 14 c151_13 rfl rfl ?_
      refine y_iconst 15 c151_14 rfl ?_
      refine y_iastore 16 c151_15 rfl ka404 (by omega) (y_nar0 _) ?_
      have hT12681 := hTi.up 404 i.toNat ((-1)) ((-2147483648)) 2147483647 rfl (by omega)
      have hF12682 := hFi.up 404 i.toNat ((-1)) rfl
      refine y_iinc 19 c151_16 rfl rfl rfl ?_
      refine y_goto 2 c151_19 rfl ?_
      exact ih (576 - (i + 1) : Int).toNat (by omega) (i + 1)  _ (by omega) (by omega) hT12681 hF12682
set_option maxRecDepth 100000 in
theorem t151_405 {L : Nat} {xs : Nat → Int32} {d nn : Nat} {m : yM} {Q : xO → yM → Nat → Prop} (hT : Ty gT m) (ho : ∀ (x1 : Option Value) (mi : yM), Ty gT mi → Fr (wRo 405) m mi → YW (gZ L xs) 151 (d + 5) 44 [some (.ref 376), x1, none, none] [] mi nn Q) : ∀ (km : Nat) (i : Int) (mi : yM), 1152 - i = km → 0 ≤ i ∧ i ≤ 1152 → Ty gT mi → Fr (wRo 405) m mi → YW (gZ L xs) 151 (d + 5) 24 [some (.ref 376), some (yI i), none, none] [] mi nn (Q) := by
  intro km
  induction km using Nat.strongRecOn with
  | ind km ih =>
    intro i mi hk hi hTi hFi
    refine y_iload 25 c151_24 rfl rfl ?_
    refine y_iconst 28 c151_25 rfl ?_
    refine y_icmp 44 31 c151_28 rfl rfl (yc_ge (by omega) (by omega)) (fun hb12683 => ?_) (fun hb12683 => ?_)
    · exact ho _ _ hTi hFi
    · refine y_aload 32 c151_31 rfl rfl rfl ?_
      refine y_getR 35 c151_32 rfl kf376_42 ?_
      refine y_iload 36 c151_35 rfl rfl ?_
      refine y_iconst 37 c151_36 rfl ?_
      refine y_iastore 38 c151_37 rfl ka405 (by omega) (y_nar0 _) ?_
      have hT12684 := hTi.up 405 i.toNat ((-1)) ((-2147483648)) 2147483647 rfl (by omega)
      have hF12685 := hFi.up 405 i.toNat ((-1)) rfl
      refine y_iinc 41 c151_38 rfl rfl rfl ?_
      refine y_goto 24 c151_41 rfl ?_
      exact ih (1152 - (i + 1) : Int).toNat (by omega) (i + 1)  _ (by omega) (by omega) hT12684 hF12685
set_option maxRecDepth 100000 in
theorem t151_406 {L : Nat} {xs : Nat → Int32} {d nn : Nat} {m : yM} {Q : xO → yM → Nat → Prop} (hT : Ty gT m) (ho : ∀ (x1 : Option Value) (mi : yM), Ty gT mi → Fr (wRo 406) m mi → (∀ q, q < 120 → mi 406 q = -1) → YW (gZ L xs) 151 (d + 5) 65 [some (.ref 376), x1, none, none] [] mi nn Q) : ∀ (km : Nat) (i : Int) (mi : yM), 120 - i = km → 0 ≤ i ∧ i ≤ 120 → Ty gT mi → Fr (wRo 406) m mi → (∀ q, q < i.toNat → mi 406 q = -1) → YW (gZ L xs) 151 (d + 5) 46 [some (.ref 376), some (yI i), none, none] [] mi nn (Q) := by
  intro km
  induction km using Nat.strongRecOn with
  | ind km ih =>
    intro i mi hk hi hTi hFi hz
    refine y_iload 47 c151_46 rfl rfl ?_
    refine y_iconst 49 c151_47 rfl ?_
    refine y_icmp 65 52 c151_49 rfl rfl (yc_ge (by omega) (by omega)) (fun hb12686 => ?_) (fun hb12686 => ?_)
    · exact ho _ _ hTi hFi (fun q hq => hz q (by omega))
    · refine y_aload 53 c151_52 rfl rfl rfl ?_
      refine y_getR 56 c151_53 rfl kf376_43 ?_
      refine y_iload 57 c151_56 rfl rfl ?_
      refine y_iconst 58 c151_57 rfl ?_
      refine y_iastore 59 c151_58 rfl ka406 (by omega) (y_nar0 _) ?_
      have hT12687 := hTi.up 406 i.toNat ((-1)) ((-2147483648)) 2147483647 rfl (by omega)
      have hF12688 := hFi.up 406 i.toNat ((-1)) rfl
      refine y_iinc 62 c151_59 rfl rfl rfl ?_
      refine y_goto 46 c151_62 rfl ?_
      exact ih (120 - (i + 1) : Int).toNat (by omega) (i + 1)  _ (by omega) (by omega) hT12687 hF12688 (fun q hq => by
          by_cases e : q = i.toNat
          · subst e; exact yup_eq _ _ _ _
          · rw [yup_nk e]; exact hz q (by omega))
set_option maxRecDepth 100000 in
theorem t151_407 {L : Nat} {xs : Nat → Int32} {d nn : Nat} {m : yM} {Q : xO → yM → Nat → Prop} (hT : Ty gT m) (ho : ∀ (x1 : Option Value) (mi : yM), Ty gT mi → Fr (wRo 407) m mi → YW (gZ L xs) 151 (d + 5) 86 [some (.ref 376), x1, none, none] [] mi nn Q) : ∀ (km : Nat) (i : Int) (mi : yM), 10 - i = km → 0 ≤ i ∧ i ≤ 10 → Ty gT mi → Fr (wRo 407) m mi → YW (gZ L xs) 151 (d + 5) 67 [some (.ref 376), some (yI i), none, none] [] mi nn (Q) := by
  intro km
  induction km using Nat.strongRecOn with
  | ind km ih =>
    intro i mi hk hi hTi hFi
    refine y_iload 68 c151_67 rfl rfl ?_
    refine y_iconst 70 c151_68 rfl ?_
    refine y_icmp 86 73 c151_70 rfl rfl (yc_ge (by omega) (by omega)) (fun hb12689 => ?_) (fun hb12689 => ?_)
    · exact ho _ _ hTi hFi
    · refine y_aload 74 c151_73 rfl rfl rfl ?_
      refine y_getR 77 c151_74 rfl kf376_44 ?_
      refine y_iload 78 c151_77 rfl rfl ?_
      refine y_iconst 79 c151_78 rfl ?_
      refine y_iastore 80 c151_79 rfl ka407 (by omega) (y_nar0 _) ?_
      have hT12690 := hTi.up 407 i.toNat ((-1)) ((-2147483648)) 2147483647 rfl (by omega)
      have hF12691 := hFi.up 407 i.toNat ((-1)) rfl
      refine y_iinc 83 c151_80 rfl rfl rfl ?_
      refine y_goto 67 c151_83 rfl ?_
      exact ih (10 - (i + 1) : Int).toNat (by omega) (i + 1)  _ (by omega) (by omega) hT12690 hF12691
