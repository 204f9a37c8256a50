/-! CONTRACTS: the model, a run. Printed by wip/whole/gen9g.py -/
theorem wGv_G2 {p : Nat} : ∀ a q, vGq p a q = true → wGv a q = false := by
  intro a q h
  cases e : wGv a q with
  | false => rfl
  | true => simp [wGv] at e; simp [vGq] at h; omega
theorem wMk_G2 {p : Nat} : ∀ a q, vGq p a q = true → wMk a q = false := by
  intro a q h
  cases e : wMk a q with
  | false => rfl
  | true => simp [wMk] at e; simp [vGq] at h; omega
theorem wPl_G2 {p : Nat} : ∀ a q, vGq p a q = true → wPl a q = false := by
  intro a q h
  cases e : wPl a q with
  | false => rfl
  | true => simp [wPl] at e; simp [vGq] at h; omega
theorem wEn_G2 {p : Nat} : ∀ a q, vGq p a q = true → wEn a q = false := by
  intro a q h
  cases e : wEn a q with
  | false => rfl
  | true => simp [wEn] at e; simp [vGq] at h; omega
theorem wRn_G2 {p : Nat} : ∀ a q, vGq p a q = true → wRn a q = false := by
  intro a q h
  cases e : wRn a q with
  | false => rfl
  | true => simp [wRn] at e; simp [vGq] at h; omega
set_option maxRecDepth 100000 in
theorem t201a {L : Nat} {xs : Nat → Int32} {d nn : Nat} {m : yM} {Q : xO → yM → Nat → Prop} {s : Int} (hT : Ty gT m) (h51 : m 376 51 ≤ 29) (ho : ∀ (x2 : Option Value) (mi : yM), Ty gT mi → Fr (wRo 410) m mi → (∀ q : Nat, (q : Int) < 8 * m 376 51 → mi 410 q = m 410 q) → (∀ q : Nat, 8 * m 376 51 ≤ (q : Int) → (q : Int) < 8 * m 376 51 + 8 → mi 410 q = 0) → YW (gZ L xs) 201 d 55 [some (.ref 376), some (yI s), x2] [] mi nn Q) : ∀ (km : Nat) (i : Int) (mi : yM), 8 - i = km → 0 ≤ i ∧ i ≤ 8 → Ty gT mi → Fr (wRo 410) m mi → (∀ q : Nat, (q : Int) < 8 * m 376 51 → mi 410 q = m 410 q) → (∀ q : Nat, 8 * m 376 51 ≤ (q : Int) → (q : Int) < 8 * m 376 51 + i → mi 410 q = 0) → YW (gZ L xs) 201 d 28 [some (.ref 376), some (yI s), some (yI i)] [] mi nn (Q) := by
  intro km
  induction km using Nat.strongRecOn with
  | ind km ih =>
    intro i mi hk hi hTi hFi hz1 hz2
    have tb51 := hT.atp 376 51 0 30 rfl
    refine y_iload 29 c201_28 rfl rfl ?_
    refine y_iconst 31 c201_29 rfl ?_
    refine y_icmp 55 34 c201_31 rfl rfl (yc_ge (by omega) (by omega)) (fun hb13140 => ?_) (fun hb13140 => ?_)
    · exact ho _ _ hTi hFi hz1 (fun q h1 h2 => hz2 q h1 (by omega))
    · refine y_aload 35 c201_34 rfl rfl rfl ?_
      refine y_getR 38 c201_35 rfl kf376_50 ?_
      refine y_iconst 40 c201_38 rfl ?_
      refine y_aload 41 c201_40 rfl rfl rfl ?_
      refine y_getX 44 (m 376 51) c201_41 rfl kf376_51 (hFi 376 51 rfl) ?_
      refine y_imul 45 c201_44 rfl ?_
      refine y_iload 46 c201_45 rfl rfl ?_
      refine y_iadd 47 c201_46 rfl ?_
      refine y_iconst 48 c201_47 rfl ?_
      refine y_iastore 49 c201_48 rfl ka410 (by omega) (y_nar0 _) ?_
      have hT13141 := hTi.up 410 (((8 * (m 376 51)) + i).toNat) 0 0 30 rfl (by omega)
      have hF13142 := hFi.up 410 (((8 * (m 376 51)) + i).toNat) 0 rfl
      refine y_iinc 52 c201_49 rfl rfl rfl ?_
      refine y_goto 28 c201_52 rfl ?_
      exact ih (8 - (i + 1) : Int).toNat (by omega) (i + 1)  _ (by omega) (by omega) hT13141 hF13142 (fun q hq => (yup_nk (by omega)).trans (hz1 q hq)) (fun q h1 h2 => by
          by_cases e : q = ((8 * (m 376 51)) + i).toNat
          · subst e; exact yup_eq _ _ _ _
          · rw [yup_nk e]; exact hz2 q h1 (by omega))
set_option maxRecDepth 100000 in
theorem t203a {L : Nat} {xs : Nat → Int32} {d nn : Nat} {m : yM} {Q : xO → yM → Nat → Prop} {k e f g h : Int} (hT : Ty gT m) (h54 : 1 ≤ m 376 54) (ho : ∀ (x2 : Option Value) (mi : yM), Ty gT mi → Fr (wRo 411) m mi → (∀ q : Nat, (q : Int) < 48 * (m 376 54 - 1) → mi 411 q = m 411 q) → (∀ q : Nat, 48 * (m 376 54 - 1) ≤ (q : Int) → (q : Int) < 48 * (m 376 54 - 1) + 48 → mi 411 q = 0) → YW (gZ L xs) 203 (d + 1) 69 [some (.ref 376), some (yI k), some (yI e), some (yI f), some (yI g), some (yI h), x2] [] mi nn Q) : ∀ (km : Nat) (i : Int) (mi : yM), 48 - i = km → 0 ≤ i ∧ i ≤ 48 → Ty gT mi → Fr (wRo 411) m mi → (∀ q : Nat, (q : Int) < 48 * (m 376 54 - 1) → mi 411 q = m 411 q) → (∀ q : Nat, 48 * (m 376 54 - 1) ≤ (q : Int) → (q : Int) < 48 * (m 376 54 - 1) + i → mi 411 q = 0) → YW (gZ L xs) 203 (d + 1) 38 [some (.ref 376), some (yI k), some (yI e), some (yI f), some (yI g), some (yI h), some (yI i)] [] mi nn (Q) := by
  intro km
  induction km using Nat.strongRecOn with
  | ind km ih =>
    intro i mi hk hi hTi hFi hz1 hz2
    have tb54 := hT.atp 376 54 0 4 rfl
    refine y_iload 40 c203_38 rfl rfl ?_
    refine y_iconst 42 c203_40 rfl ?_
    refine y_icmp 69 45 c203_42 rfl rfl (yc_ge (by omega) (by omega)) (fun hb13143 => ?_) (fun hb13143 => ?_)
    · exact ho _ _ hTi hFi hz1 (fun q h1 h2 => hz2 q h1 (by omega))
    · refine y_aload 46 c203_45 rfl rfl rfl ?_
      refine y_getR 49 c203_46 rfl kf376_52 ?_
      refine y_iconst 51 c203_49 rfl ?_
      refine y_aload 52 c203_51 rfl rfl rfl ?_
      refine y_getX 55 (m 376 54) c203_52 rfl kf376_54 (hFi 376 54 rfl) ?_
      refine y_iconst 56 c203_55 rfl ?_
      refine y_isub 57 c203_56 rfl ?_
      refine y_imul 58 c203_57 rfl ?_
      refine y_iload 60 c203_58 rfl rfl ?_
      refine y_iadd 61 c203_60 rfl ?_
      refine y_iconst 62 c203_61 rfl ?_
      refine y_iastore 63 c203_62 rfl ka411 (by omega) (y_nar0 _) ?_
      have hT13144 := hTi.up 411 (((48 * ((m 376 54) - 1)) + i).toNat) 0 0 30 rfl (by omega)
      have hF13145 := hFi.up 411 (((48 * ((m 376 54) - 1)) + i).toNat) 0 rfl
      refine y_iinc 66 c203_63 rfl rfl rfl ?_
      refine y_goto 38 c203_66 rfl ?_
      exact ih (48 - (i + 1) : Int).toNat (by omega) (i + 1)  _ (by omega) (by omega) hT13144 hF13145 (fun q hq => (yup_nk (by omega)).trans (hz1 q hq)) (fun q h1 h2 => by
          by_cases e : q = ((48 * ((m 376 54) - 1)) + i).toNat
          · subst e; exact yup_eq _ _ _ _
          · rw [yup_nk e]; exact hz2 q h1 (by omega))
