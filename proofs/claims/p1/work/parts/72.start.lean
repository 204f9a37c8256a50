/-! THE LAW'S START, and a script of four ints -/
abbrev gQ1 : xO → yM → Nat → Prop := fun r _ n => r = .inl (some (yI 1)) ∧ n ≤ 416
theorem s_load {xs : Nat → Int32} {i d pc w b : Nat} {ls : xL} {st : List Value} {m : yM} {n : Nat} {Q : xO → yM → Nat → Prop} {x : Int} (pc' : Nat) (y : Int) (ho : gP i pc = some (.iaload, w, 0, b)) (hp : pc + w = pc') (hx : 0 ≤ x ∧ x < 4) (hy : (xs x.toNat).toInt = y) (k : YW (gZ 4 xs) i d pc' ls (yI y :: st) m n Q) : YW (gZ 4 xs) i d pc ls (yI x :: .retAddr 0 :: st) m n Q := y_script pc' ho hp (by show 4 ≤ 100000; omega) (by show 0 ≤ x ∧ x < 4; exact hx) (y_top y hy k)
abbrev gOut : xC := .inl (5, 1, .inr (.inl (fun _ => 0)))
theorem gStart {L : Nat} {xs : Nat → Int32} {Q : xO → yM → Nat → Prop} (K : YW (gZ L xs) 218 60 23 [some (.retAddr 0), some (.ref 0), some (.ref 376), some (.ref 413), some (yI 0), none, none] [] gMem 414 Q) : ∃ r h' m' n', XR (zStp (gZ L xs)) gP gMx gHd 60 218 0 (xent [.retAddr 0] 7) [] [] (r, h') ∧ yLay (gZ L xs) m' n' h' ∧ Q r m' n' := by
  have hb := gPreB_ok
  unfold gPreB at hb
  split at hb
  · rename_i h hpre
    simp only [Bool.and_eq_true, beq_iff_eq, decide_eq_true_eq] at hb
    obtain ⟨hb1, hb2, hb3⟩ := hb
    unfold gPre at hpre
    split at hpre
    · rename_i h1 hx1
      split at hpre
      · rename_i hl1
        split at hpre
        · rename_i h2 hx2
          split at hpre
          · rename_i hl2
            cases hpre
            have hx1' := xrun_stp (stp2 := zStp (gZ L xs)) (fun o pc ls st h g hs => xstepN_imp hs) _ _ _ _ _ _ _ _ hx1
            have hx2' := xrun_stp (stp2 := zStp (gZ L xs)) (fun o pc ls st h g hs => xstepN_imp hs) _ _ _ _ _ _ _ _ hx2
            have hlay : yLay (gZ L xs) gMem 414 (h2 ++ [gOut]) := by
              refine ⟨hb1, Nat.le_refl _, hb3, fun a ha => ?_⟩
              have ha : a < 414 := ha
              have hal : a < (h2 ++ [gOut]).length := by rw [hb1]; exact ha
              refine ⟨_, List.getElem?_eq_getElem hal, ?_⟩
              have := yLayB_sound _ 0 hb2 a _ (List.getElem?_eq_getElem hal)
              rw [Nat.zero_add] at this
              exact this
            obtain ⟨r, h', m', n', kx, kl, kq⟩ := K _ hlay
            refine ⟨r, h', m', n', ?_, kl, kq⟩
            refine XR.go (pc' := 3) (ls' := xent [.retAddr 0] 7) (st' := [.ref 0]) (h' := [.inr (7, gNf 7)]) c218_0 rfl ?_
            refine XR.go (pc' := 4) (ls' := xent [.retAddr 0] 7) (st' := [.ref 0, .ref 0]) (h' := [.inr (7, gNf 7)]) c218_3 rfl ?_
            refine XR.call (j := 16) (as := [.ref 0]) (pc' := 7) (st' := [.ref 0]) (v := none) c218_4 ?_ ⟨?_, _, hx1'⟩ ?_
            · simp [zStp, xstep, gZ, km16, xw, Value.category]
            · rw [kn16]; rfl
            refine XR.go (pc' := 8) (ls' := [some (.retAddr 0), some (.ref 0), none, none, none, none, none]) (st' := []) (h' := h1) c218_7 rfl ?_
            refine XR.go (pc' := 11) (ls' := [some (.retAddr 0), some (.ref 0), none, none, none, none, none]) (st' := [.ref 376]) (h' := h1 ++ [.inr (8, gNf 8)]) c218_8 (by rw [← hl1]; rfl) ?_
            refine XR.go (pc' := 12) (ls' := [some (.retAddr 0), some (.ref 0), none, none, none, none, none]) (st' := [.ref 376, .ref 376]) (h' := h1 ++ [.inr (8, gNf 8)]) c218_11 rfl ?_
            refine XR.call (j := 17) (as := [.ref 376]) (pc' := 15) (st' := [.ref 376]) (v := none) c218_12 ?_ ⟨?_, _, hx2'⟩ ?_
            · have e : (h1 ++ [(.inr (8, gNf 8) : xC)])[376]? = some (.inr (8, gNf 8)) := by rw [← hl1]; simp
              simp [zStp, xstep, gZ, km17, xw, Value.category, e]
            · rw [kn17]; rfl
            refine XR.go (pc' := 16) (ls' := [some (.retAddr 0), some (.ref 0), some (.ref 376), none, none, none, none]) (st' := []) (h' := h2) c218_15 rfl ?_
            refine XR.go (pc' := 17) (ls' := [some (.retAddr 0), some (.ref 0), some (.ref 376), none, none, none, none]) (st' := [.int 1]) (h' := h2) c218_16 rfl ?_
            refine XR.go (pc' := 19) (ls' := [some (.retAddr 0), some (.ref 0), some (.ref 376), none, none, none, none]) (st' := [.ref 413]) (h' := h2 ++ [gOut]) c218_17 (by rw [← hl2]; rfl) ?_
            refine XR.go (pc' := 20) (ls' := [some (.retAddr 0), some (.ref 0), some (.ref 376), some (.ref 413), none, none, none]) (st' := []) (h' := h2 ++ [gOut]) c218_19 rfl ?_
            refine XR.go (pc' := 21) (ls' := [some (.retAddr 0), some (.ref 0), some (.ref 376), some (.ref 413), none, none, none]) (st' := [yI 0]) (h' := h2 ++ [gOut]) c218_20 rfl ?_
            refine XR.go (pc' := 23) (ls' := [some (.retAddr 0), some (.ref 0), some (.ref 376), some (.ref 413), some (yI 0), none, none]) (st' := []) (h' := h2 ++ [gOut]) c218_21 rfl ?_
            exact kx
          · cases hpre
        · cases hpre
      · cases hpre
    · cases hpre
  · cases hb
