/-! THE LAW'S ENTRY -/
def gHyp : Cond := Jvm.Cond.and given_1 narrow_1
def gLd (i : Nat) : String × Nat × String × Nat := gLdcs.getD i ("", 0, "", 0)
def gTm (i : Nat) : Term := .string (gLd i).1 (gLd i).2.1
theorem gS0 : ∀ i, i < gLit.length → (gLit.map List.length).getD i 0 < 2 ^ 31 := by decide +kernel
theorem gS1 : ∀ i, i < gLit.length → Cond.exactly (gTm i) "java/lang/String" ∈ flatC gHyp := by decide +kernel
theorem gS2 : ∀ i, i < gLit.length → Cond.eq (.field (gTm i) "java/lang/String" "coder" "B") (.int 0) ∈ flatC gHyp := by decide +kernel
theorem gS3 : ∀ i, i < gLit.length → Cond.arrayOf (.field (gTm i) "java/lang/String" "value" "[B") .byte ∈ flatC gHyp := by decide +kernel
theorem gS4 : ∀ i, i < gLit.length → Cond.eq (.length (.field (gTm i) "java/lang/String" "value" "[B")) (.int (Int32.ofNat ((gLit.map List.length).getD i 0))) ∈ flatC gHyp := by decide +kernel
theorem gS5 : ∀ i, i < gLit.length → ∀ j, j < (gLit.map List.length).getD i 0 → Cond.eq (.elem (.field (gTm i) "java/lang/String" "value" "[B") (.int (Int32.ofNat j))) (.int ((gLit.getD i []).getD j 0)) ∈ flatC gHyp := by decide +kernel
theorem gS6_0 : ∀ j, j < gLit.length → 0 ≠ j → Cond.not (Cond.eq (gTm 0) (gTm j)) ∈ flatC gHyp ∨ Cond.not (Cond.eq (gTm j) (gTm 0)) ∈ flatC gHyp := by decide +kernel
theorem gS6_1 : ∀ j, j < gLit.length → 1 ≠ j → Cond.not (Cond.eq (gTm 1) (gTm j)) ∈ flatC gHyp ∨ Cond.not (Cond.eq (gTm j) (gTm 1)) ∈ flatC gHyp := by decide +kernel
theorem gS6_2 : ∀ j, j < gLit.length → 2 ≠ j → Cond.not (Cond.eq (gTm 2) (gTm j)) ∈ flatC gHyp ∨ Cond.not (Cond.eq (gTm j) (gTm 2)) ∈ flatC gHyp := by decide +kernel
theorem gS6_3 : ∀ j, j < gLit.length → 3 ≠ j → Cond.not (Cond.eq (gTm 3) (gTm j)) ∈ flatC gHyp ∨ Cond.not (Cond.eq (gTm j) (gTm 3)) ∈ flatC gHyp := by decide +kernel
theorem gS6_4 : ∀ j, j < gLit.length → 4 ≠ j → Cond.not (Cond.eq (gTm 4) (gTm j)) ∈ flatC gHyp ∨ Cond.not (Cond.eq (gTm j) (gTm 4)) ∈ flatC gHyp := by decide +kernel
theorem gS6_5 : ∀ j, j < gLit.length → 5 ≠ j → Cond.not (Cond.eq (gTm 5) (gTm j)) ∈ flatC gHyp ∨ Cond.not (Cond.eq (gTm j) (gTm 5)) ∈ flatC gHyp := by decide +kernel
theorem gS6_6 : ∀ j, j < gLit.length → 6 ≠ j → Cond.not (Cond.eq (gTm 6) (gTm j)) ∈ flatC gHyp ∨ Cond.not (Cond.eq (gTm j) (gTm 6)) ∈ flatC gHyp := by decide +kernel
theorem gS6_7 : ∀ j, j < gLit.length → 7 ≠ j → Cond.not (Cond.eq (gTm 7) (gTm j)) ∈ flatC gHyp ∨ Cond.not (Cond.eq (gTm j) (gTm 7)) ∈ flatC gHyp := by decide +kernel
theorem gS6_8 : ∀ j, j < gLit.length → 8 ≠ j → Cond.not (Cond.eq (gTm 8) (gTm j)) ∈ flatC gHyp ∨ Cond.not (Cond.eq (gTm j) (gTm 8)) ∈ flatC gHyp := by decide +kernel
theorem gS6_9 : ∀ j, j < gLit.length → 9 ≠ j → Cond.not (Cond.eq (gTm 9) (gTm j)) ∈ flatC gHyp ∨ Cond.not (Cond.eq (gTm j) (gTm 9)) ∈ flatC gHyp := by decide +kernel
theorem gS6_10 : ∀ j, j < gLit.length → 10 ≠ j → Cond.not (Cond.eq (gTm 10) (gTm j)) ∈ flatC gHyp ∨ Cond.not (Cond.eq (gTm j) (gTm 10)) ∈ flatC gHyp := by decide +kernel
theorem gLit_11 : gLit.length = 11 := by decide +kernel
theorem gS6 : ∀ i, i < gLit.length → ∀ j, j < gLit.length → i ≠ j → Cond.not (Cond.eq (gTm i) (gTm j)) ∈ flatC gHyp ∨ Cond.not (Cond.eq (gTm j) (gTm i)) ∈ flatC gHyp := by
  intro i hi j hj hn
  rw [gLit_11] at hi
  rcases (show i = 0 ∨ i = 1 ∨ i = 2 ∨ i = 3 ∨ i = 4 ∨ i = 5 ∨ i = 6 ∨ i = 7 ∨ i = 8 ∨ i = 9 ∨ i = 10 by omega) with rfl | rfl | rfl | rfl | rfl | rfl | rfl | rfl | rfl | rfl | rfl
  · exact gS6_0 j hj hn
  · exact gS6_1 j hj hn
  · exact gS6_2 j hj hn
  · exact gS6_3 j hj hn
  · exact gS6_4 j hj hn
  · exact gS6_5 j hj hn
  · exact gS6_6 j hj hn
  · exact gS6_7 j hj hn
  · exact gS6_8 j hj hn
  · exact gS6_9 j hj hn
  · exact gS6_10 j hj hn
theorem gS7 : ∀ q ∈ gLdcs, gLd q.2.2.2 = q ∧ q.2.2.2 < gLit.length ∧ Cond.stringRef q.1 q.2.1 q.2.2.1 ∈ lw_tbl := by decide +kernel
theorem gS8 : ∀ q ∈ gNc, Cond.not (.castable q.1 q.2) ∈ flatC gHyp := by decide +kernel
section GSTART
variable {s : State} {args : Array Value}
/-- a static that holds v holds it in every later state that keeps what lies below base -/
theorem gZ_eval {C n d : String} {v : Value} {A : Nat → Prop} {U : State} {H : Heap} {a' : Array Value} (h : va_Z C n d v A U H) (hH : U.heap = H) : (Term.static C n d).eval a' U none [] U = some v := by
  obtain ⟨cf, kf, fi, f, a, cell, h1, h2, h3, h4, h5, h6, h7, h8⟩ := h
  exact Term.static_eval h1 h2 h4 (by rw [hH]; exact h5) h6 h7
theorem gXV (hs : ∀ c ∈ flatC gHyp, c.before args s = true) : XV gNc s := by
  intro q hq a' U hW
  have h := hs _ (gS8 q hq)
  simp only [Cond.before, Cond.holds, Cond.value] at h ⊢
  rw [hW.alike.findClass, hW.alike.findClass]
  simp only [hW.alike.assignable]
  exact h
theorem gXU (hts : ∀ w ∈ lw_tbl, w.before args s = true) (hs : ∀ c ∈ flatC gHyp, c.before args s = true) : XU s.heap.size s := by
  obtain ⟨v1, e1, r1⟩ := Cond.isRef_spec (hs (.isRef (.static Bundle.tN "UNASSIGNED_STACK" Bundle.steD)) (by decide +kernel))
  obtain ⟨v2, e2, r2⟩ := Cond.isRef_spec (hs (.isRef (.static Bundle.tN "SUPPRESSED_SENTINEL" Bundle.listD)) (by decide +kernel))
  have z1 : va_Z Bundle.tN "UNASSIGNED_STACK" Bundle.steD v1 (fun q => s.heap.size ≤ q) s s.heap := va_Zof (hts (.laysStatic Bundle.tN "UNASSIGNED_STACK" Bundle.steD) (by decide +kernel)) (hts (.initialized Bundle.tN) (by decide +kernel)) e1 (fun a h => Nat.not_le.mpr h)
  have z2 : va_Z Bundle.tN "SUPPRESSED_SENTINEL" Bundle.listD v2 (fun q => s.heap.size ≤ q) s s.heap := va_Zof (hts (.laysStatic Bundle.tN "SUPPRESSED_SENTINEL" Bundle.listD) (by decide +kernel)) (hts (.initialized Bundle.tN) (by decide +kernel)) e2 (fun a h => Nat.not_le.mpr h)
  have l1 := hts (.laysStatic Bundle.tN "UNASSIGNED_STACK" Bundle.steD) (by decide +kernel)
  have l2 := hts (.laysStatic Bundle.tN "SUPPRESSED_SENTINEL" Bundle.listD) (by decide +kernel)
  have lay : ∀ {C n d : String} {a' : Array Value} {U : State}, (Cond.laysStatic C n d).before args s = true → s.WarmedH U.vm → (∀ q, q < s.heap.size → U.heap[q]? = s.heap[q]?) → (Cond.laysStatic C n d).before a' U = true := by
    intro C n d a' U h hW hq
    obtain ⟨c, k, i, f, a, cell, g1, g2, g3, g4, g5, g6, g7, g8, g9⟩ := Cond.laysStatic_spec (Cond.laysStatic_setVm (vm' := U.vm) hW.alike h)
    have g5 : s.heap[a]? = some cell := g5
    exact Cond.laysStatic_of (s := U) g1 g2 g3 g4 (by rw [hq a (Array.getElem?_eq_some_iff.mp g5).1]; exact g5) g6 g7 g8 g9
  intro a' U hW hq
  have k1 := gZ_eval (a' := a') (va_Z.moved hW.alike (z1.kept (H1 := U.heap) (fun a h _ => hq a h))) rfl
  have k2 := gZ_eval (a' := a') (va_Z.moved hW.alike (z2.kept (H1 := U.heap) (fun a h _ => hq a h))) rfl
  intro c hc
  simp only [xU4, List.mem_cons, List.not_mem_nil, or_false] at hc
  rcases hc with rfl | rfl | rfl | rfl
  · simp only [Cond.before, Cond.holds, Cond.value, k1]
    cases v1 <;> simp_all [Value.isRef]
  · simp only [Cond.before, Cond.holds, Cond.value, k2]
    cases v2 <;> simp_all [Value.isRef]
  · exact lay l1 hW hq
  · exact lay l2 hW hq
theorem gXTx (hts : ∀ w ∈ lw_tbl, w.before args s = true) (hs : ∀ c ∈ flatC gHyp, c.before args s = true) : ∃ ta : (Nat → Nat) × Option Nat, XTx s.heap.size ta gLit gLdcs s := by
  obtain ⟨adK, adV, h1, h2⟩ := vk_Sof (args := args) (s := s) (N := gLit.length) (tm := gTm) (len := gLit.map List.length) (byt := gLit) (A := fun q => s.heap.size ≤ q) gS0 (fun i hi => hs _ (gS1 i hi)) (fun i hi => hs _ (gS2 i hi)) (fun i hi => hs _ (gS3 i hi)) (fun i hi => hs _ (gS4 i hi)) (fun i hi j hj => hs _ (gS5 i hi j hj)) (fun i j hi hj hne => (gS6 i hi j hj hne).elim (fun q => Or.inl (hs _ q)) (fun q => Or.inr (hs _ q))) (fun a h => Nat.not_le.mpr h)
  obtain ⟨v, e1, r1⟩ := Cond.isRef_spec (hs (.isRef (.static "jdk/internal/util/Preconditions" "SIOOBE_FORMATTER" "Ljava/util/function/BiFunction;")) (by decide +kernel))
  obtain ⟨fm, rfl⟩ : ∃ fm : Option Nat, v = va_rf fm := by
    cases v <;> simp [Value.isRef] at r1
    · exact ⟨none, rfl⟩
    · rename_i a
      exact ⟨some a, rfl⟩
  refine ⟨(fun k => if k % 2 = 0 then adK (k / 2) else adV (k / 2), fm), ?_, fun q hq => ?_, ?_, ?_⟩
  · have ek : (fun i => (if 2 * i % 2 = 0 then adK (2 * i / 2) else adV (2 * i / 2))) = adK := by
      funext i
      rw [if_pos (by omega), show 2 * i / 2 = i by omega]
    have ev : (fun i => (if (2 * i + 1) % 2 = 0 then adK ((2 * i + 1) / 2) else adV ((2 * i + 1) / 2))) = adV := by
      funext i
      rw [if_neg (by omega), show (2 * i + 1) / 2 = i by omega]
    show vk_S _ _ _ (fun i => (if 2 * i % 2 = 0 then adK (2 * i / 2) else adV (2 * i / 2))) (fun i => (if (2 * i + 1) % 2 = 0 then adK ((2 * i + 1) / 2) else adV ((2 * i + 1) / 2))) _ s s.heap
    rw [ek, ev]
    exact h1
  · obtain ⟨q1, q2, q3⟩ := gS7 q hq
    have h9 := h2 _ q2
    unfold gTm at h9
    rw [q1] at h9
    show vk_R q.1 q.2.1 q.2.2.1 (if 2 * q.2.2.2 % 2 = 0 then adK (2 * q.2.2.2 / 2) else adV (2 * q.2.2.2 / 2)) s
    rw [if_pos (by omega), show 2 * q.2.2.2 / 2 = q.2.2.2 by omega]
    exact vk_R.of (hts _ q3) h9
  · exact va_Zof (hts (.laysStatic "java/lang/String" "COMPACT_STRINGS" "Z") (by decide +kernel)) (hts (.initialized "java/lang/String") (by decide +kernel)) (va_eqi (hs (.eq (.static "java/lang/String" "COMPACT_STRINGS" "Z") (.int 1)) (by decide +kernel))) (fun a h => Nat.not_le.mpr h)
  · exact va_Zof (hts (.laysStatic "jdk/internal/util/Preconditions" "SIOOBE_FORMATTER" "Ljava/util/function/BiFunction;") (by decide +kernel)) (hts (.initialized "jdk/internal/util/Preconditions") (by decide +kernel)) e1 (fun a h => Nat.not_le.mpr h)
/-- the classes -/
theorem gD (hts : ∀ w ∈ lw_tbl, w.before args s = true) : ∃ D : va_G, va_K D gCl [] s := by
  have h : ∀ k : Nat, ∃ q : ClassId × (Nat → Nat), ∀ r : vw_C, gCl[k]? = some r → u_Kn s r.1 r.2.1 r.2.2 q.1 q.2 := by
    intro k
    cases hk : gCl[k]? with
    | none => exact ⟨(0, fun _ => 0), fun r hr => by cases hr⟩
    | some r =>
      obtain ⟨n, hn⟩ := gInst k r hk
      obtain ⟨cC, iS, h9⟩ := u_known (C := r.1) (T := r.2.1) (N := r.2.2) (n := n) (ws := gTs) (fun w hw => hts w (List.mem_filter.mp hw).1) (gXC k r hk).1 (hts _ (List.mem_filter.mp hn).1)
      exact ⟨(cC, iS), fun r' hr => by cases hr; exact h9⟩
  refine ⟨(fun k => (Classical.choose (h k)).1, fun k => (Classical.choose (h k)).2), fun c q hq => Classical.choose_spec (h c) q hq, fun k q hk => by simp at hk⟩
/-- the arrays' classes -/
theorem gArr (hts : ∀ w ∈ lw_tbl, w.before args s = true) : ∃ dA : Nat → ClassId, ∀ t, ArrOfT s (dA t) (gTy t) ∧ va_RA s (dA t) (gTy t) := by
  have prim : ∀ ft : FieldType, (Cond.arrayClass ft) ∈ lw_tbl → (∀ C, ft ≠ .object C) → ∃ cA, ArrOfT s cA ft ∧ va_RA s cA ft := by
    intro ft hw hne
    obtain ⟨c, k, comp, h1, h2, h3⟩ := Cond.arrayClass_spec (hts _ hw)
    refine ⟨c, fun n z => ⟨fun k h => (by cases h), k, h2, comp, h3⟩, ?_⟩
    cases ft <;> first | exact h1 | exact absurd rfl (hne _)
  have obj : ∀ C : String, (Cond.arrayOver (.object C)) ∈ lw_tbl → ∃ cA, ArrOfT s cA (.object C) ∧ va_RA s cA (.object C) := by
    intro C hw
    obtain ⟨comp, c, k, h1, -, h2, h3, h4⟩ := Cond.arrayOver_spec (hts _ hw)
    exact ⟨c, fun n z => ⟨fun k h => (by cases h), k, h2, comp, h3⟩, k, comp, h2, h3, h1, h4⟩
  have arr : (Cond.arrayOver (.array .int)) ∈ lw_tbl → ∃ cA, ArrOfT s cA (.array .int) ∧ va_RA s cA (.array .int) := by
    intro hw
    obtain ⟨comp, c, k, h1, -, h2, h3, h4⟩ := arrayOverA_spec (hts _ hw)
    exact ⟨c, fun n z => ⟨fun k h => (by cases h), k, h2, comp, h3⟩, h4⟩
  have h : ∀ t, ∃ cA, ArrOfT s cA (gTy t) ∧ va_RA s cA (gTy t) := fun t => match t with
    | 0 => prim .int (List.mem_of_getElem? (i := 245) (by decide +kernel)) (fun C h => by cases h)
    | 1 => prim .boolean (List.mem_of_getElem? (i := 1308) (by decide +kernel)) (fun C h => by cases h)
    | 2 => prim .byte (List.mem_of_getElem? (i := 246) (by decide +kernel)) (fun C h => by cases h)
    | 3 => prim .char (List.mem_of_getElem? (i := 244) (by decide +kernel)) (fun C h => by cases h)
    | 4 => prim .int (List.mem_of_getElem? (i := 245) (by decide +kernel)) (fun C h => by cases h)
    | 5 => prim .long (List.mem_of_getElem? (i := 1657) (by decide +kernel)) (fun C h => by cases h)
    | 6 => arr (List.mem_of_getElem? (i := 270) (by decide +kernel))
    | 7 => obj "PointsTo$Method" (List.mem_of_getElem? (i := 336) (by decide +kernel))
    | 8 => obj "PointsTo$Statement" (List.mem_of_getElem? (i := 338) (by decide +kernel))
    | _ + 9 => arr (List.mem_of_getElem? (i := 270) (by decide +kernel))
  exact ⟨fun t => Classical.choose (h t), fun t => Classical.choose_spec (h t)⟩
end GSTART
