/-! A METHOD'S ENTRY, AND WHAT EVERY STEP KEEPS -/
section XENT
variable {b base : Nat} {ta : (Nat → Nat) × Option Nat}
theorem xent_sl (as : List Value) : lg_sl (as.map (xv b base ta)) = (xfl as).map (fun o => match o with | some v => Slot.val (xv b base ta v) | none => Slot.second) := by
  unfold lg_sl xfl
  induction as with
  | nil => rfl
  | cons v t ih =>
    rw [List.map_cons, List.flatMap_cons, List.flatMap_cons, List.map_append, ih, xv_cat']
    congr 1
    by_cases hc : v.category = 2 <;> simp [hc]
theorem xls_entry (as : List Value) (n : Nat) (hn : (xent as n).length = n) : xls b base ta (xent as n) (lg_sl (as.map (xv b base ta)) ++ List.replicate (n - (lg_sl (as.map (xv b base ta))).length) Slot.unset).toArray := by
  have hlen : (lg_sl (as.map (xv b base ta))).length = (xfl as).length := by rw [xent_sl, List.length_map]
  have hle : (lg_sl (as.map (xv b base ta))).length ≤ n := by
    rw [hlen]
    simp only [xent, List.length_append, List.length_replicate] at hn
    omega
  obtain ⟨h1, h2, -⟩ := lv_entry (as.map (xv b base ta)) (n := n) hle
  refine ⟨by rw [h1, hn], h2, fun i v hi => ?_⟩
  simp only [xent] at hi
  rw [List.getElem?_toArray]
  have hl : i < (xfl as).length := by
    rcases Nat.lt_or_ge i (xfl as).length with q | q
    · exact q
    · rw [List.getElem?_append_right q, List.getElem?_replicate] at hi
      split at hi <;> cases hi
  rw [List.getElem?_append_left hl] at hi
  rw [List.getElem?_append_left (by rw [hlen]; exact hl), xent_sl, List.getElem?_map, hi]
  rfl
end XENT
section XKEEP
variable {nf : Nat → List Value} {L : Nat} {xs : Nat → Int32} {mc : Nat → Option Nat} {lit : List (List Int32)} {ldcs : List (String × Nat × String × Nat)}
theorem xset_len {ls ls' : xL} {i : Nat} {v : Value} (h : xset ls i v = some ls') : ls'.length = ls.length := by
  rw [(xset_spec h).2.1, List.length_set]
set_option maxHeartbeats 2000000 in
/-- a step that goes on keeps the number of locals, and the heap doesn't shrink -/
theorem xstep_keep {o : xI} {pc pc' : Nat} {ls ls' : xL} {st st' : List Value} {h h' : xH} (hs : xstep nf L xs lit mc o pc ls st h = some (.inl (pc', ls', st', h'))) : ls'.length = ls.length ∧ h.length ≤ h'.length ∧ xsz h ≤ xsz h' := by
  have hset : ∀ {a : Nat} {c0 c1 : xC}, h[a]? = some c0 → xcz c1 = xcz c0 → h.length ≤ (h.set a c1).length ∧ xsz h ≤ xsz (h.set a c1) := fun h1 h2 => ⟨by rw [List.length_set]; exact Nat.le_refl _, by rw [xsz_set h1 h2]; exact Nat.le_refl _⟩
  have happ : ∀ (cs : List xC), h.length ≤ (h ++ cs).length ∧ xsz h ≤ xsz (h ++ cs) := fun cs => ⟨by rw [List.length_append]; omega, by unfold xsz; rw [List.map_append, List.sum_append]; omega⟩
  obtain ⟨i1, n1, x1, x2⟩ := o
  unfold xstep at hs
  split at hs <;> (try (cases hs; done)) <;> (try (cases hs; exact ⟨rfl, Nat.le_refl _, Nat.le_refl _⟩)) <;>
    (repeat' (split at hs)) <;> (try (cases hs; done)) <;> (try (cases hs; exact ⟨rfl, Nat.le_refl _, Nat.le_refl _⟩)) <;> (try (cases hs; exact ⟨rfl, happ _⟩)) <;> (try (cases hs; exact ⟨xset_len (by assumption), Nat.le_refl _, Nat.le_refl _⟩)) <;> (try (cases hs; exact ⟨rfl, hset (by assumption) (by simp [xcz])⟩))
end XKEEP
