/-! RUNS OF THE PURE MACHINE, without their fuel -/
section XPURE
variable {stp : xI → Nat → xL → List Value → xH → Option xG} {P : Nat → Nat → Option xI} {mx : Nat → Nat} {hd : Nat → Nat → Nat → Option (Option Nat)}
theorem xrun_more : ∀ (n k d i pc : Nat) (ls : xL) (st : List Value) (h : xH) (r : xO × xH), xrun stp P mx hd n d i pc ls st h = some r → xrun stp P mx hd (n + k) d i pc ls st h = some r := by
  intro n
  induction n with
  | zero => intro k d i pc ls st h r hr; cases hr
  | succ n ih =>
    intro k d i pc ls st h r hr
    rw [show n + 1 + k = (n + k) + 1 by omega]
    simp only [xrun] at hr ⊢
    split at hr
    · cases hr
    · rename_i o ho
      split at hr
      · cases hr
      · rename_i pc' ls' st' h1 hs
        exact ih k _ _ _ _ _ _ _ hr
      · exact hr
      · rename_i j as pc' st' hs
        split at hr
        · cases hr
        · rename_i d
          split at hr
          · rename_i hent
            rw [if_pos hent]
            split at hr
            · cases hr
            · rename_i v h1 hc
              rw [ih k _ _ _ _ _ _ _ hc]
              exact ih k _ _ _ _ _ _ _ hr
            · rename_i q a h1 hc
              rw [ih k _ _ _ _ _ _ _ hc]
              split at hr
              · rename_i pq hq
                simp only [hq]
                exact ih k _ _ _ _ _ _ _ hr
              · rename_i hq
                simp only [hq]
                exact hr
              · cases hr
          · cases hr
/-- from here the run of the method i ends so -/
def XR (stp : xI → Nat → xL → List Value → xH → Option xG) (P : Nat → Nat → Option xI) (mx : Nat → Nat) (hd : Nat → Nat → Nat → Option (Option Nat)) (d i pc : Nat) (ls : xL) (st : List Value) (h : xH) (r : xO × xH) : Prop := ∃ n, xrun stp P mx hd n d i pc ls st h = some r
/-- the method j, called with as on h, ends so -/
def XCl (stp : xI → Nat → xL → List Value → xH → Option xG) (P : Nat → Nat → Option xI) (mx : Nat → Nat) (hd : Nat → Nat → Nat → Option (Option Nat)) (d j : Nat) (as : List Value) (h : xH) (r : xO × xH) : Prop := (xent as (mx j)).length = mx j ∧ XR stp P mx hd d j 0 (xent as (mx j)) [] h r
variable {d i j pc pc' : Nat} {ls ls' : xL} {st st' : List Value} {h h' h1 : xH} {r : xO × xH} {o : xI} {as : List Value}
theorem XR.go (ho : P i pc = some o) (hs : stp o pc ls st h = some (.inl (pc', ls', st', h'))) (k : XR stp P mx hd d i pc' ls' st' h' r) : XR stp P mx hd d i pc ls st h r := by
  obtain ⟨n, hn⟩ := k
  refine ⟨n + 1, ?_⟩
  simp only [xrun, ho, hs]
  exact hn
theorem XR.fin (ho : P i pc = some o) (hs : stp o pc ls st h = some (.inr (.inl r))) : XR stp P mx hd d i pc ls st h r := ⟨1, by simp only [xrun, ho, hs]⟩
theorem XR.call (ho : P i pc = some o) (hs : stp o pc ls st h = some (.inr (.inr (j, as, pc', st')))) {v : Option Value} (hc : XCl stp P mx hd d j as h (.inl v, h1)) (k : XR stp P mx hd (d + 1) i pc' ls (v.toList ++ st') h1 r) : XR stp P mx hd (d + 1) i pc ls st h r := by
  obtain ⟨he, n, hn⟩ := hc
  obtain ⟨m, hm⟩ := k
  refine ⟨n + m + 1, ?_⟩
  simp only [xrun, ho, hs]
  rw [if_pos he, xrun_more n m _ _ _ _ _ _ _ hn]
  rw [Nat.add_comm n m]
  exact xrun_more m n _ _ _ _ _ _ _ hm
theorem XR.caught (ho : P i pc = some o) (hs : stp o pc ls st h = some (.inr (.inr (j, as, pc', st')))) {q a pq : Nat} (hc : XCl stp P mx hd d j as h (.inr (q, a), h1)) (hq : hd i pc q = some (some pq)) (k : XR stp P mx hd (d + 1) i pq ls [.ref a] h1 r) : XR stp P mx hd (d + 1) i pc ls st h r := by
  obtain ⟨he, n, hn⟩ := hc
  obtain ⟨m, hm⟩ := k
  refine ⟨n + m + 1, ?_⟩
  simp only [xrun, ho, hs]
  rw [if_pos he, xrun_more n m _ _ _ _ _ _ _ hn]
  simp only [hq]
  rw [Nat.add_comm n m]
  exact xrun_more m n _ _ _ _ _ _ _ hm
theorem XR.out (ho : P i pc = some o) (hs : stp o pc ls st h = some (.inr (.inr (j, as, pc', st')))) {q a : Nat} (hc : XCl stp P mx hd d j as h (.inr (q, a), h1)) (hq : hd i pc q = some none) : XR stp P mx hd (d + 1) i pc ls st h (.inr (q, a), h1) := by
  obtain ⟨he, n, hn⟩ := hc
  refine ⟨n + 1, ?_⟩
  simp only [xrun, ho, hs]
  rw [if_pos he, hn]
  simp only [hq]
end XPURE
