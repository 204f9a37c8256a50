/-! THE START: both constructors, at the law's depth. Printed by wip/whole/gen9k.py -/
def gPreD : Option xH := match xrun (xstepN gNf gLit gMc) gP gMx gHd 4000 1199 16 0 (xent [.ref 0] (gMx 16)) [] [.inr (7, gNf 7)] with
  | some (.inl none, h1) => if h1.length = 376 then (match xrun (xstepN gNf gLit gMc) gP gMx gHd 4000 1199 17 0 (xent [.ref 376] (gMx 17)) [] (h1 ++ [.inr (8, gNf 8)]) with
    | some (.inl none, h2) => if h2.length = 413 then some (h2 ++ [.inl (5, 1, .inr (.inl (fun _ => 0)))]) else none
    | _ => none) else none
  | _ => none
def gPreC : Bool := match gPreD with
  | some h => h.length == 414 && (yLayB gSh gMem 0 h && decide (xsz h ≤ 14111))
  | none => false
set_option maxRecDepth 1000000 in
theorem gPreC_ok : gPreC = true := by decide +kernel
abbrev gOut : xC := .inl (5, 1, .inr (.inl (fun _ => 0)))
theorem gStart {L : Nat} {xs : Nat → Int32} {Q : xO → yM → Nat → Prop} (K : YW (gZ L xs) 218 1200 23 [some (.retAddr 0), some (.ref 0), some (.ref 376), some (.ref 413), some (yI 0), none, none] [] gMem 414 Q) : ∃ r h' m' n', XR (zStp (gZ L xs)) gP gMx gHd 1200 218 0 (xent [.retAddr 0] 7) [] [] (r, h') ∧ yLay (gZ L xs) m' n' h' ∧ Q r m' n' := by
  have hb := gPreC_ok
  unfold gPreC at hb
  split at hb
  · rename_i h hpre
    simp only [Bool.and_eq_true, beq_iff_eq, decide_eq_true_eq] at hb
    obtain ⟨hb1, hb2, hb3⟩ := hb
    unfold gPreD at hpre
    split at hpre
    · rename_i h1 hx1
      split at hpre
      · rename_i hl1
        split at hpre
        · rename_i h2 hx2
          split at hpre
          · rename_i hl2
            cases hpre
            have hx1' := xrun_stp (stp2 := zStp (gZ L xs)) (fun o pc ls st h g hs => xstepN_imp hs) _ _ _ _ _ _ _ _ hx1
            have hx2' := xrun_stp (stp2 := zStp (gZ L xs)) (fun o pc ls st h g hs => xstepN_imp hs) _ _ _ _ _ _ _ _ hx2
            have hlay : yLay (gZ L xs) gMem 414 (h2 ++ [gOut]) := by
              refine ⟨hb1, Nat.le_refl _, hb3, fun a ha => ?_⟩
              have ha : a < 414 := ha
              have hal : a < (h2 ++ [gOut]).length := by rw [hb1]; exact ha
              refine ⟨_, List.getElem?_eq_getElem hal, ?_⟩
              have := yLayB_sound _ 0 hb2 a _ (List.getElem?_eq_getElem hal)
              rw [Nat.zero_add] at this
              exact this
            obtain ⟨r, h', m', n', kx, kl, kq⟩ := K _ hlay
            refine ⟨r, h', m', n', ?_, kl, kq⟩
            refine XR.go (pc' := 3) (ls' := xent [.retAddr 0] 7) (st' := [.ref 0]) (h' := [.inr (7, gNf 7)]) c218_0 rfl ?_
            refine XR.go (pc' := 4) (ls' := xent [.retAddr 0] 7) (st' := [.ref 0, .ref 0]) (h' := [.inr (7, gNf 7)]) c218_3 rfl ?_
            refine XR.call (j := 16) (as := [.ref 0]) (pc' := 7) (st' := [.ref 0]) (v := none) c218_4 ?_ ⟨?_, _, hx1'⟩ ?_
            · simp [zStp, xstep, gZ, km16, xw, Value.category]
            · rw [kn16]; rfl
            refine XR.go (pc' := 8) (ls' := [some (.retAddr 0), some (.ref 0), none, none, none, none, none]) (st' := []) (h' := h1) c218_7 rfl ?_
            refine XR.go (pc' := 11) (ls' := [some (.retAddr 0), some (.ref 0), none, none, none, none, none]) (st' := [.ref 376]) (h' := h1 ++ [.inr (8, gNf 8)]) c218_8 (by rw [← hl1]; rfl) ?_
            refine XR.go (pc' := 12) (ls' := [some (.retAddr 0), some (.ref 0), none, none, none, none, none]) (st' := [.ref 376, .ref 376]) (h' := h1 ++ [.inr (8, gNf 8)]) c218_11 rfl ?_
            refine XR.call (j := 17) (as := [.ref 376]) (pc' := 15) (st' := [.ref 376]) (v := none) c218_12 ?_ ⟨?_, _, hx2'⟩ ?_
            · have e : (h1 ++ [(.inr (8, gNf 8) : xC)])[376]? = some (.inr (8, gNf 8)) := by rw [← hl1]; simp
              simp [zStp, xstep, gZ, km17, xw, Value.category, e]
            · rw [kn17]; rfl
            refine XR.go (pc' := 16) (ls' := [some (.retAddr 0), some (.ref 0), some (.ref 376), none, none, none, none]) (st' := []) (h' := h2) c218_15 rfl ?_
            refine XR.go (pc' := 17) (ls' := [some (.retAddr 0), some (.ref 0), some (.ref 376), none, none, none, none]) (st' := [.int 1]) (h' := h2) c218_16 rfl ?_
            refine XR.go (pc' := 19) (ls' := [some (.retAddr 0), some (.ref 0), some (.ref 376), none, none, none, none]) (st' := [.ref 413]) (h' := h2 ++ [gOut]) c218_17 (by rw [← hl2]; rfl) ?_
            refine XR.go (pc' := 20) (ls' := [some (.retAddr 0), some (.ref 0), some (.ref 376), some (.ref 413), none, none, none]) (st' := []) (h' := h2 ++ [gOut]) c218_19 rfl ?_
            refine XR.go (pc' := 21) (ls' := [some (.retAddr 0), some (.ref 0), some (.ref 376), some (.ref 413), none, none, none]) (st' := [yI 0]) (h' := h2 ++ [gOut]) c218_20 rfl ?_
            refine XR.go (pc' := 23) (ls' := [some (.retAddr 0), some (.ref 0), some (.ref 376), some (.ref 413), some (yI 0), none, none]) (st' := []) (h' := h2 ++ [gOut]) c218_21 rfl ?_
            exact kx
          · cases hpre
        · cases hpre
      · cases hpre
    · cases hpre
  · cases hb
theorem gd0 {l : List (Int × Int)} {q : Nat} (h : l.all (fun x => decide (x.1 ≤ 0 ∧ 0 ≤ x.2)) = true) : (l.getD q (-2147483648, 2147483647)).1 ≤ 0 ∧ 0 ≤ (l.getD q (-2147483648, 2147483647)).2 := by
  rw [List.getD_eq_getElem?_getD]
  cases e : l[q]? with
  | none => simp
  | some x =>
    have := List.all_eq_true.mp h x (List.mem_of_getElem? e)
    simpa using this
theorem gTz0 (a q : Nat) : (gT a q).1 ≤ 0 ∧ 0 ≤ (gT a q).2 := by
  unfold gT
  repeat' split
  all_goals first | exact gd0 (by decide) | decide
theorem gl4 : ∀ q : Nat, -2147483648 ≤ ([-1, 3540595, 6591876, 4262, 14519, 480652, 294, 176741, 24388997, 609900110, 663859] : List Int).getD q 0 ∧ ([-1, 3540595, 6591876, 4262, 14519, 480652, 294, 176741, 24388997, 609900110, 663859] : List Int).getD q 0 ≤ 2147483647 := by
  intro q
  by_cases h : q < 11
  · have : ∀ q, q < 11 → -2147483648 ≤ ([-1, 3540595, 6591876, 4262, 14519, 480652, 294, 176741, 24388997, 609900110, 663859] : List Int).getD q 0 ∧ ([-1, 3540595, 6591876, 4262, 14519, 480652, 294, 176741, 24388997, 609900110, 663859] : List Int).getD q 0 ≤ 2147483647 := by decide
    exact this q h
  · rw [List.getD_eq_getElem?_getD, List.getElem?_eq_none (by simp; omega)]
    decide
theorem tyv {A Q : Nat} {v : Int} (h : (gT A Q).1 ≤ v ∧ v ≤ (gT A Q).2) (q : Nat) : (gT A q).1 ≤ (if q = Q then v else 0) ∧ (if q = Q then v else 0) ≤ (gT A q).2 := by
  by_cases e : q = Q
  · subst e; rw [if_pos rfl]; exact h
  · rw [if_neg e]; exact gTz0 A q
theorem gTy0 : Ty gT gMem := by
  intro a q
  unfold gMem
  split
  · rename_i e
    subst e
    by_cases e5 : q = 5
    · subst e5; decide
    · rw [if_neg e5]; exact tyv (by decide) q
  · split
    · rename_i e; subst e; exact tyv (by decide) q
    · split
      · rename_i e; subst e; exact gl4 q
      · split
        · rename_i e; subst e; exact tyv (by decide) q
        · split
          · rename_i e; subst e; exact tyv (by decide) q
          · split
            · rename_i e; subst e; exact tyv (by decide) q
            · split
              · rename_i e; subst e; exact tyv (by decide) q
              · split
                · rename_i e; subst e; exact tyv (by decide) q
                · exact gTz0 a q
theorem LI0 : LI gMem := by
  have h16 : gMem 256 16 = 0 := rfl
  have h10 : gMem 256 10 = 0 := rfl
  refine ⟨Or.inl ⟨gTy0, rfl, rfl, ⟨RG.nil (by decide) (by decide), EN.nil (by decide), ?_, ?_, ES.nil (by decide), by decide⟩, ?_, Or.inr ⟨rfl, rfl⟩⟩, ⟨gTy0, Or.inl rfl⟩, rfl⟩
  · intro j _ hj
    rw [h16] at hj
    omega
  · have : ∀ k, k < 10 → gMem (256 + 10 + k) 2 + 2 + gMem (256 + 10 + k) 3 ≤ 48 := by decide
    exact this
  · have : ∀ k, k < 10 → gMem (326 + k) 2 + 2 + gMem (326 + k) 3 ≤ 48 := by decide
    exact this
theorem gMem_rg (a q : Nat) : rg (gMem a q) := by
  have h4 := gl4 q
  unfold rg gMem
  repeat' split
  all_goals first | decide | omega
theorem gMem_RM : RM (gMem 2 1, gMem 8 4, gMem 169 4) gMem := ⟨gMem_rg, Or.inl rfl, Or.inr rfl, rfl, rfl, rfl⟩
theorem gPure_ok : gPure := by
  intro L xs hL
  have hY := YW.pw (Q' := fun r _ _ => r = .inl (some (yI 1))) (lw_go (xs := xs) hL L 0 none none gMem 414 (by omega) (by omega) LI0 (by omega)) (fun k => tFL (f := k) (Nat.le_refl k) (show L ≤ 100000 by omega) ⟨by omega, by omega⟩ (rgD rfl) gMem_RM (fun r m' e _ _ n' => by rw [gLawOk e]))
  obtain ⟨r, h', m', n', hx, hl, hq, m2, n2, hq2⟩ := gStart hY
  obtain ⟨n, hn⟩ := hx
  obtain ⟨-, hq⟩ := hq
  subst hq2
  obtain ⟨l1, l2, l3, -⟩ := hl
  have l3 : xsz h' ≤ 11627 + 6 * n' := l3
  refine ⟨n, h', hn, ?_, ?_⟩
  · omega
  · omega

