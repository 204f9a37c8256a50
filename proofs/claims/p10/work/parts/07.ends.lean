/-! THE ENDS OF A METHOD -/
/-- what has come about when a method, begun in the state s over the frames below, has ended: r: how; h': the pure heap behind it -/
def XQ (below : List Frame) (s : State) (b base : Nat) (ta : (Nat → Nat) × Option Nat) (dA : Nat → ClassId) (D : va_G) (cl : List vw_C) (n0 z0 : Nat) (r : xO) (h' : xH) (t : State) : Prop :=
  ∃ (o : Outcome) (locs : List Loc), t.status = .running ∧ Ended t below o ∧ s.WarmedH t.vm ∧ s.sameButNew ({ t with vm := s.vm } : State) locs (h'.length - n0) (xsz h' - z0) ∧ t.heap.size = base + h'.length ∧ va_P D cl (xws b base ta dA h') t.heap ∧ va_S (fun q => base ≤ q) s.heap t.heap locs ∧
    (match r with | .inl v => o = .returned (v.map (xv b base ta)) | .inr (_, a) => o = .threw (base + a))
/-- the method's type of result fits the instruction that ends it -/
def xokR (ret : Option FieldType) (o : xI) : Prop := match o with
  | (.ireturn, _, t, _) => ∃ ft ∈ ret.toList, xtc ft = t
  | (.areturn, _, _, _) => ∃ ft ∈ ret.toList, xtc ft = 6
  | (.return_, _, _, _) => ret = none
  | _ => True
section XENDS
variable {p : Program} {l : Launch} {e : Env} {R : Room} {s : State} {m : MethodId} {args : Array Value} {below : List Frame} {meth : Method} {c : Code}
variable {b base : Nat} {ta : (Nat → Nat) × Option Nat} {dA : Nat → ClassId} {D : va_G} {cl : List vw_C} {n0 z0 : Nat} {cc : ByteArray} {pc n : Nat} {ls : xL} {st : List Value} {h h' : xH} {raw : Instr} {x1 x2 : Nat} {r : xO}
variable {Ts : List Cond} {ty : Nat → FieldType} {own : String} {tf : Nat → Nat → Nat} {ini : Bool} {ret : Option FieldType}
variable {nf : Nat → List Value} {L : Nat} {xs : Nat → Int32} {mc : Nat → Option Nat} {lit : List (List Int32)} {ldcs : List (String × Nat × String × Nat)}
theorem W.mono {Q Q' : State → Prop} {H : Heap} {locs : List Loc} {cells slots : Nat} {g : JFrame} (hQ : ∀ t, Q t → Q' t) (k : W p l e R s m args below meth c H locs cells slots Q g) : W p l e R s m args below meth c H locs cells slots Q' g := fun T hT X => by
  obtain ⟨t, a1, b1⟩ := k T hT X
  exact ⟨t, a1, hQ t b1⟩
/-- out of the kit's end of a method that returns -/
theorem xq_of {H : Heap} {locs : List Loc} {v : Option Value} (h2 : H.size = base + h.length) (h3 : va_P D cl (xws b base ta dA h) H) (h4 : va_S (fun q => base ≤ q) s.heap H locs) (t : State)
    (hM : MQ below (fun _ _ o t => o = .returned (v.map (xv b base ta)) ∧ t.heap = H) args s (h.length - n0) (xsz h - z0) (fun q => base ≤ q) t) : XQ below s b base ta dA D cl n0 z0 (.inl v) h t := by
  obtain ⟨o, hr, he, ⟨ho, ht⟩, L9, ⟨-, hW, hS⟩, hL⟩ := hM
  refine ⟨o, L9, hr, he, hW, hS, by rw [ht]; exact h2, by rw [ht]; exact h3, ⟨by rw [ht]; exact h4.1, fun q hq hA => by rw [ht]; exact h4.2.1 q hq hA, hL⟩, ho⟩
theorem xs_ends (F : XF p s m args meth c b base dA D cl Ts ty L xs ta lit ldcs cc own ini) (hret : meth.sig.returnType = ret) (hlocks : meth.locks = false) {o : xI} (ho : o.1 = .ireturn ∨ o.1 = .areturn ∨ o.1 = .return_) (hd : decode cc pc = .ok (raw, o.2.1)) (hok : xok Ts cl own tf nf ty ldcs ini pc raw o) (hokR : xokR ret o) (hs : xstep nf L xs lit mc o pc ls st h = some (.inr (.inl (r, h')))) : XK p l e R s m args below meth c (XQ below s b base ta dA D cl n0 z0 r h') b base ta dA D cl n0 z0 pc ls st h := by
  obtain ⟨hx, hb, hown, hts, hK, hA, hX, hbl, hbs, hini, hTx⟩ := F
  obtain ⟨i1, n1, x1, x2⟩ := o
  rcases ho with ho | ho | ho
  · have ho : i1 = .ireturn := ho
    subst ho
    simp only [xstep] at hs
    obtain ⟨rfl, rfl⟩ := hok
    obtain ⟨ft, hft, htc⟩ := hokR
    have hft : ret = some ft := by simpa using hft
    split at hs
    · rename_i x
      split at hs
      · rename_i hfit
        cases hs
        intro hn hz H locs rl h1 h2 h3 h4
        rw [← htc] at hfit
        have hna := (xfit_of (b := b) (base := base) (ta := ta) hfit).1
        exact W.mono (xq_of (v := some (.int x)) h2 h3 h4) (W.zret hx hb (hret.trans hft) hna (fun t ht hW => ⟨rfl, ht⟩) h4.2.2 hd hlocks)
      · cases hs
    · cases hs
  · have ho : i1 = .areturn := ho
    subst ho
    simp only [xstep] at hs
    obtain ⟨rfl, rfl⟩ := hok
    obtain ⟨ft, hft, htc⟩ := hokR
    have hft : ret = some ft := by simpa using hft
    split at hs
    · rename_i v
      split at hs
      · rename_i hv
        cases hs
        intro hn hz H locs rl h1 h2 h3 h4
        have hrt : (∃ n, ft = .object n) ∨ ∃ t, ft = .array t := by
          cases ft <;> simp [xtc] at htc
          · exact Or.inl ⟨_, rfl⟩
          · exact Or.inr ⟨_, rfl⟩
        obtain ⟨a, ha⟩ := xv_ref (b := b) (base := base) (ta := ta) hv
        refine W.mono (xq_of (args := args) (v := some v) h2 h3 h4) ?_
        show W p l e R s m args below meth c H locs _ _ _ (F0 m pc rl [xv b base ta v])
        exact W.aret hx hb (hret.trans hft) hrt (Or.inr ⟨a, ha⟩) (fun t ht hW => ⟨rfl, ht⟩) h4.2.2 hd hlocks
      · cases hs
    · cases hs
  · have ho : i1 = .return_ := ho
    subst ho
    simp only [xstep] at hs
    obtain ⟨rfl, rfl⟩ := hok
    have hokR : ret = none := hokR
    split at hs
    · cases hs
      intro hn hz H locs rl h1 h2 h3 h4
      exact W.mono (xq_of (v := none) h2 h3 h4) (W.vret hx hb (hret.trans hokR) (fun t ht hW => ⟨rfl, ht⟩) h4.2.2 hd hlocks)
    · cases hs
end XENDS
