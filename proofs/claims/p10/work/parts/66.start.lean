/-! RUNS THAT DON'T LOOK AT THE SCRIPT; a heap held against a memory by the kernel -/
def xnoS (o : xI) (st : List Value) : Bool := match o.1, st with
  | .iaload, _ :: .retAddr 0 :: _ => false
  | .arraylength, .retAddr 0 :: _ => false
  | _, _ => true
def xstepN (nf : Nat → List Value) (lit : List (List Int32)) (mc : Nat → Option Nat) (o : xI) (pc : Nat) (ls : xL) (st : List Value) (h : xH) : Option xG := if xnoS o st = true then xstep nf 0 (fun _ => 0) lit mc o pc ls st h else none
set_option maxHeartbeats 2000000 in
theorem xstepN_imp {nf : Nat → List Value} {L : Nat} {xs : Nat → Int32} {lit : List (List Int32)} {mc : Nat → Option Nat} {o : xI} {pc : Nat} {ls : xL} {st : List Value} {h : xH} {g : xG} (hs : xstepN nf lit mc o pc ls st h = some g) : xstep nf L xs lit mc o pc ls st h = some g := by
  unfold xstepN at hs
  split at hs
  · rename_i hn
    obtain ⟨ins, w, a, b⟩ := o
    cases ins
    case iaload =>
      rcases st with _ | ⟨v1, _ | ⟨v2, st⟩⟩
      · exact hs
      · cases v1 <;> exact hs
      · cases v1 <;> cases v2 <;> first | exact hs | (rename_i k; cases k <;> first | exact hs | cases hn)
    case arraylength =>
      rcases st with _ | ⟨v1, st⟩
      · exact hs
      · cases v1 <;> first | exact hs | (rename_i k; cases k <;> first | exact hs | cases hn)
    all_goals exact hs
  · cases hs
theorem xrun_stp {stp1 stp2 : xI → Nat → xL → List Value → xH → Option xG} {P : Nat → Nat → Option xI} {mx : Nat → Nat} {hd : Nat → Nat → Nat → Option (Option Nat)} (H : ∀ o pc ls st h g, stp1 o pc ls st h = some g → stp2 o pc ls st h = some g) : ∀ (n d i pc : Nat) (ls : xL) (st : List Value) (h : xH) (r : xO × xH), xrun stp1 P mx hd n d i pc ls st h = some r → xrun stp2 P mx hd n d i pc ls st h = some r := by
  intro n
  induction n with
  | zero => intro d i pc ls st h r hr; cases hr
  | succ n ih =>
    intro d i pc ls st h r hr
    simp only [xrun] at hr ⊢
    split at hr
    · cases hr
    · rename_i o ho
      split at hr
      · cases hr
      · rename_i pc' ls' st' h1 hs
        simp only [H _ _ _ _ _ _ hs]
        exact ih _ _ _ _ _ _ _ hr
      · rename_i r1 hs
        simp only [H _ _ _ _ _ _ hs]
        exact hr
      · rename_i j as pc' st' hs
        simp only [H _ _ _ _ _ _ hs]
        split at hr
        · cases hr
        · rename_i d
          split at hr
          · rename_i hent
            rw [if_pos hent]
            split at hr
            · cases hr
            · rename_i v h1 hc
              rw [ih _ _ _ _ _ _ _ hc]
              exact ih _ _ _ _ _ _ _ hr
            · rename_i q a h1 hc
              rw [ih _ _ _ _ _ _ _ hc]
              split at hr
              · rename_i pq hq
                simp only [hq]
                exact ih _ _ _ _ _ _ _ hr
              · rename_i hq
                simp only [hq]
                exact hr
              · cases hr
          · cases hr
def yCellB (s : ySh) (f : Nat → Int) (c : xC) : Bool := match s, c with
  | .inl (t, k), .inl (t', k', .inl g) => t' == t && k' == k && (List.range k).all (fun j => g j == Int32.ofInt (f j))
  | .inr (.inl k), .inl (t', k', .inr (.inl g)) => t' == 5 && k' == k && (List.range k).all (fun j => g j == Int64.ofInt (f j))
  | .inr (.inr (.inl (t, k, b))), .inl (t', k', .inr (.inr (.inr (.inr g)))) => t' == t && k' == k && (List.range k).all (fun j => g j == some (b + j))
  | .inr (.inr (.inr (ci, sl))), .inr (c', vs) => c' == ci && vs == sl.zipIdx.map (fun p => yslv p.1 (f p.2))
  | _, _ => false
theorem yCellB_sound {s : ySh} {f : Nat → Int} {c : xC} (hc : yCellB s f c = true) : yCell s f c := by
  unfold yCellB at hc
  split at hc
  · simp only [Bool.and_eq_true, beq_iff_eq, List.all_eq_true, List.mem_range] at hc
    obtain ⟨⟨rfl, rfl⟩, h3⟩ := hc
    exact ⟨_, rfl, h3⟩
  · simp only [Bool.and_eq_true, beq_iff_eq, List.all_eq_true, List.mem_range] at hc
    obtain ⟨⟨rfl, rfl⟩, h3⟩ := hc
    exact ⟨_, rfl, h3⟩
  · simp only [Bool.and_eq_true, beq_iff_eq, List.all_eq_true, List.mem_range] at hc
    obtain ⟨⟨rfl, rfl⟩, h3⟩ := hc
    exact ⟨_, rfl, h3⟩
  · simp only [Bool.and_eq_true, beq_iff_eq] at hc
    obtain ⟨rfl, rfl⟩ := hc
    refine ⟨_, rfl, by simp, fun j x hj => ?_⟩
    simp [hj]
  · cases hc
def yLayB (sh : Nat → ySh) (m : yM) : Nat → xH → Bool
  | _, [] => true
  | a, c :: h => yCellB (sh a) (m a) c && yLayB sh m (a + 1) h
theorem yLayB_sound {sh : Nat → ySh} {m : yM} : ∀ (h : xH) (a : Nat), yLayB sh m a h = true → ∀ (k : Nat) (c : xC), h[k]? = some c → yCell (sh (a + k)) (m (a + k)) c := by
  intro h
  induction h with
  | nil => intro a _ k c hk; simp at hk
  | cons c0 h ih =>
    intro a hb k c hk
    simp only [yLayB, Bool.and_eq_true] at hb
    cases k with
    | zero =>
      simp at hk
      subst hk
      exact yCellB_sound hb.1
    | succ k =>
      have := ih (a + 1) hb.2 k c (by simpa using hk)
      rw [show a + (k + 1) = a + 1 + k by omega]
      exact this
