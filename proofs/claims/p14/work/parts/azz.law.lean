/-! THE LAW, by the functions, for the questions about facts -/
section LQ
variable {m m1 m2 : yM} {f g : Nat}
theorem lcm_0 {x b : Int} (h : x = b) (hb : rg b) : lcm (Int64.ofInt x) (i2l b) = 0 := by
  subst h
  unfold lcm i2l
  rw [y_long hb, lg_self]
  rfl
theorem fTx.IQ (h : IQ m) (ht : TXT m2) (e : fTx m m2) : IQ m2 := by
  obtain ⟨-, hK, ⟨h4, h18⟩, h8, hc⟩ := h
  have k : ∀ a q, a ≠ 1 → ¬ (a = 0 ∧ q = 6) → a ≠ 413 → a ≠ 377 → ¬ (a = 376 ∧ (q = 1 ∨ q = 57)) → m2 a q = m a q := e
  have hA := pA_is (m 0 4)
  refine ⟨ht, fun j j1 j2 => ?_, ⟨?_, ?_⟩, ?_, ?_⟩
  · rw [k 4 _ (by omega) (by omega) (by omega) (by omega) (by omega)]; exact hK j j1 j2
  · rw [k 0 4 (by omega) (by omega) (by omega) (by omega) (by omega), k 0 5 (by omega) (by omega) (by omega) (by omega) (by omega)]; exact h4
  · rw [k 376 18 (by omega) (by omega) (by omega) (by omega) (by omega)]; exact h18
  · rw [k 264 0 (by omega) (by omega) (by omega) (by omega) (by omega), k 324 0 (by omega) (by omega) (by omega) (by omega) (by omega)]; exact h8
  · rw [k 0 4 (by omega) (by omega) (by omega) (by omega) (by omega), k 376 18 (by omega) (by omega) (by omega) (by omega) (by omega)]
    exact hc.fr hA (by omega) (k _ _ (by omega) (by omega) (by omega) (by omega) (by omega)) (k _ _ (by omega) (by omega) (by omega) (by omega) (by omega)) (fun _ _ _ => k _ _ (by omega) (by omega) (by omega) (by omega) (by omega)) (fun b q hb => k _ _ (by unfold arP at hb; omega) (by unfold arP at hb; omega) (by unfold arP at hb; omega) (by unfold arP at hb; omega) (by unfold arP at hb; omega))
theorem fTx.IR (h : IR m) (ht : TXT m2) (e : fTx m m2) : IR m2 := by
  have k : ∀ a q, a ≠ 1 → ¬ (a = 0 ∧ q = 6) → a ≠ 413 → a ≠ 377 → ¬ (a = 376 ∧ (q = 1 ∨ q = 57)) → m2 a q = m a q := e
  exact ⟨fTx.IQ h.1 ht e, h.2.fr (fun a q ha => k a q (by omega) (by omega) (by omega) (by omega) (by omega))⟩
theorem P99_cq : ∀ a q, PR a q → a ≠ 413 := fun a q h => by unfold PR PQ at h; omega
theorem P99_mq : ∀ a q, PR a q → ¬ (a = 376 ∧ q = 57) := fun a q h => by unfold PR PQ at h; omega
abbrev P99 : Nat → Nat → Prop := PR
theorem two99 {L : Nat} {xs : Nat → Int32} {x4 : Int} {o : Option (Int × yM)} {G : yM → Option (Int × yM)} {y : (Int × yM) ⊕ ((Int × yM) ⊕ (Int × yM))} (h : bI o (fun _ m1 => bI (G m1) (fun _ m2 => J218_t0_617 f L xs x4 m2)) = some y) (hI : ∀ r m1 r2 m2, o = some (r, m1) → G m1 = some (r2, m2) → IR m2) : ∃ l' m', y = .inl (l', m') ∧ IR m' := by
  replace h := bI_e h
  obtain ⟨r, m1, e1, h⟩ := h
  replace h := bI_e h
  obtain ⟨r2, m2, e2, h⟩ := h
  unfold J218_t0_617 at h
  cases h
  exact ⟨_, _, rfl, hI _ _ _ _ e1 e2⟩
theorem stepQ {L : Nat} {xs : Nat → Int32} {x4 : Int} {y : (Int × yM) ⊕ ((Int × yM) ⊕ (Int × yM))} (hI : IR m) (h : B218_t0_23 f L xs x4 m = some y) : (∃ l' m', y = .inl (l', m') ∧ IR m') ∨ (∃ l', y = .inr (.inl (l', m))) := by
  unfold B218_t0_23 at h
  rcases ite1 h with ⟨-, h⟩ | ⟨-, h⟩
  · cases h
    exact Or.inr ⟨_, rfl⟩
  left
  rcases ite1 h with ⟨-, h⟩ | ⟨-, h⟩
  · exact two99 h (fun r m1 r2 m2 e1 e2 => by obtain ⟨a, b⟩ := append_r hI.1.1 e1 e2; exact fTx.IR hI a b)
  rcases ite1 h with ⟨-, h⟩ | ⟨-, h⟩
  · exact two99 h (fun r m1 r2 m2 e1 e2 => by obtain ⟨a, b⟩ := cut_r hI.1.1 e1 e2; exact fTx.IR hI a b)
  rcases ite1 h with ⟨-, h⟩ | ⟨-, h⟩
  · exact two99 h (fun r m1 r2 m2 e1 e2 => ⟨(readR2 hI.1 e1 e2).1, (readR2 hI.1 e1 e2).2.2.2 hI.2⟩)
  rcases ite1 h with ⟨-, h⟩ | ⟨-, h⟩
  · replace h := bI_e h
    obtain ⟨r, m1, e1, h⟩ := h
    unfold F154 at e1
    cases e1
    unfold J218_t0_617 at h
    cases h
    exact ⟨_, _, rfl, hI.fr (KP.up KP.rf (fun h => P99_mq _ _ h ⟨rfl, rfl⟩))⟩
  rcases ite1 h with ⟨-, h⟩ | ⟨-, h⟩
  · exact two99 h (fun r m1 r2 m2 e1 e2 => hI.fr ((show KP P99 m m1 from kcq_F159 P99_cq KP.rf _ e1).tr (show KP P99 m1 m2 from kmq_F163 P99_mq KP.rf _ e2)))
  rcases ite1 h with ⟨-, h⟩ | ⟨-, h⟩
  · exact two99 h (fun r m1 r2 m2 e1 e2 => hI.fr ((show KP P99 m m1 from kcq_F165 P99_cq KP.rf _ e1).tr (show KP P99 m1 m2 from kmq_F166 P99_mq KP.rf _ e2)))
  rcases ite1 h with ⟨-, h⟩ | ⟨-, h⟩
  · exact two99 h (fun r m1 r2 m2 e1 e2 => hI.fr ((show KP P99 m m1 from kcq_F169 P99_cq KP.rf _ e1).tr (show KP P99 m1 m2 from kmq_F171 P99_mq KP.rf _ e2)))
  rcases ite1 h with ⟨-, h⟩ | ⟨-, h⟩
  · exact two99 h (fun r m1 r2 m2 e1 e2 => hI.fr ((show KP P99 m m1 from kcq_F173 P99_cq KP.rf _ e1).tr (show KP P99 m1 m2 from kmq_F174 P99_mq KP.rf _ e2)))
  rcases ite1 h with ⟨-, h⟩ | ⟨-, h⟩
  · exact two99 h (fun r m1 r2 m2 e1 e2 => hI.fr ((show KP P99 m m1 from kcq_F177 P99_cq KP.rf _ e1).tr (show KP P99 m1 m2 from kmq_F178 P99_mq KP.rf _ e2)))
  rcases ite1 h with ⟨-, h⟩ | ⟨-, h⟩
  · exact two99 h (fun r m1 r2 m2 e1 e2 => hI.fr ((show KP P99 m m1 from kcq_F181 P99_cq KP.rf _ e1).tr (show KP P99 m1 m2 from kmq_F182 P99_mq KP.rf _ e2)))
  rcases ite1 h with ⟨-, h⟩ | ⟨-, h⟩
  · exact two99 h (fun r m1 r2 m2 e1 e2 => hI.fr ((show KP P99 m m1 from kcq_F184 P99_cq KP.rf _ e1).tr (show KP P99 m1 m2 from kmq_F185 P99_mq KP.rf _ e2)))
  rcases ite1 h with ⟨-, h⟩ | ⟨-, h⟩
  · exact two99 h (fun r m1 r2 m2 e1 e2 => ⟨(runR hI.1 e1 e2).1.1, (runR hI.1 e1 e2).2 hI.2⟩)
  rcases ite1 h with ⟨-, h⟩ | ⟨-, h⟩
  · replace h := bI_e h
    obtain ⟨r, m1, e1, h⟩ := h
    replace h := bI_e h
    obtain ⟨r2, m2, e2, h⟩ := h
    obtain ⟨k1, k2, k3⟩ := seenQ hI (rg_to _) (rg_to _) e1 e2
    unfold F26 J218_t0_586 J218_t0_617 at h
    rw [if_pos k2] at h
    rcases ite1 h with ⟨q, h⟩ | ⟨q, h⟩
    · obtain ⟨k4, k5⟩ := k3 q
      rw [if_pos (lcm_0 k4 k5)] at h
      cases h
      exact ⟨_, _, rfl, k1⟩
    · cases h
      exact ⟨_, _, rfl, k1⟩
  rcases ite1 h with ⟨-, h⟩ | ⟨-, h⟩
  · exact two99 h (fun r m1 r2 m2 e1 e2 => hI.fr ((show KP P99 m m1 from kcq_F216 P99_cq KP.rf _ e1).tr (show KP P99 m1 m2 from kmq_F217 P99_mq KP.rf _ e2)))
  unfold J218_t0_617 at h
  cases h
  exact ⟨_, _, rfl, hI⟩
theorem lawQ {L : Nat} {xs : Nat → Int32} {x4 r : Int} (hI : IR m) (h : FL f L xs x4 m = some (r, m1)) : r = 1 := by
  unfold FL at h
  rcases bL_e h with ⟨l, mi, e1, e2⟩ | ⟨l, mi, e1, e2⟩
  · cases e2
    rfl
  · exfalso
    obtain ⟨l', m', hI', e3⟩ := yloop_inv (fun _ m => IR m) (fun l m l' m' hI hB => by
      rcases stepQ hI hB with ⟨l2, m2, e, e'⟩ | ⟨l2, e⟩
      · cases e; exact e'
      · cases e) _ _ _ _ hI e1
    rcases stepQ hI' e3 with ⟨l2, m2, e, e'⟩ | ⟨l2, e⟩
    · cases e
    · cases e
end LQ
theorem IQ0 : IQ gMem := by
  have h6 : gMem 0 6 = 0 := rfl
  refine ⟨⟨rfl, by omega, by omega, fun t z1 z2 => by omega⟩, fun j j1 j2 => ?_, ⟨Or.inl ⟨rfl, rfl⟩, Or.inl rfl⟩, ⟨rfl, rfl⟩, Or.inl ⟨rfl, ⟨rfl, rfl⟩, rfl, rfl, rfl, rfl, rfl, rfl⟩⟩
  have : ∀ a : Fin 10, gMem 4 (((a : Nat) : Int) + 1).toNat = kw (((a : Nat) : Int) + 1) := by decide +kernel
  have h := this ⟨(j - 1).toNat, by omega⟩
  have e : (((j - 1).toNat : Nat) : Int) + 1 = j := by omega
  simp only [e] at h
  exact h
theorem IR0 : IR gMem := ⟨IQ0, fun v j hv hj => by
  have e1 : gMem (171 + v) j = 0 := by
    unfold gMem
    rw [if_neg (by omega), if_neg (by omega), if_neg (by omega), if_neg (by omega), if_neg (by omega), if_neg (by omega), if_neg (by omega), if_neg (by omega)]
  have e2 : gMem 408 (12 * v + j) = 0 := rfl
  rw [e1, e2]
  omega⟩
theorem gLawOk {f L : Nat} {xs : Nat → Int32} {r : Int} {m' : yM} (h : FL f L xs 0 gMem = some (r, m')) : r = 1 := lawQ IR0 h
