/-! WHAT THE PURE MACHINE DOES, THE REAL ONE DOES -/
section XALL
variable {nf : Nat → List Value} {L : Nat} {xs : Nat → Int32} {mc : Nat → Option Nat} {lit : List (List Int32)} {ldcs : List (String × Nat × String × Nat)}
set_option maxHeartbeats 2000000 in
theorem xstep_end {o : xI} {pc : Nat} {ls : xL} {st : List Value} {h h' : xH} {r : xO} (hs : xstep nf L xs lit mc o pc ls st h = some (.inr (.inl (r, h')))) : (h.length ≤ h'.length ∧ xsz h ≤ xsz h') ∧ (∀ k a, r = .inr (k, a) → ∃ fs, h'[a]? = some (.inr (k, fs))) ∧ (o.1 = .ireturn ∨ o.1 = .areturn ∨ o.1 = .return_ ∨ o.1 = .athrow) := by
  have happ : ∀ (cs : List xC), h.length ≤ (h ++ cs).length ∧ xsz h ≤ xsz (h ++ cs) := fun cs => ⟨by rw [List.length_append]; omega, by unfold xsz; rw [List.map_append, List.sum_append]; omega⟩
  obtain ⟨i1, n1, x1, x2⟩ := o
  cases i1 <;> (try (cases hs; done)) <;> simp only [xstep] at hs <;> (try (cases hs; done)) <;> (repeat' (split at hs)) <;> (try (cases hs; done))
  · cases hs
    exact ⟨⟨Nat.le_refl _, Nat.le_refl _⟩, (fun k a h9 => by cases h9), Or.inr (Or.inl rfl)⟩
  · cases hs
    exact ⟨happ _, (fun k a h9 => by cases h9; exact ⟨_, by rw [List.getElem?_append_right (Nat.le_refl _), Nat.sub_self]; rfl⟩), Or.inr (Or.inr (Or.inr rfl))⟩
  · cases hs
    exact ⟨⟨Nat.le_refl _, Nat.le_refl _⟩, (fun k a h9 => by cases h9), Or.inl rfl⟩
  · cases hs
    exact ⟨⟨Nat.le_refl _, Nat.le_refl _⟩, (fun k a h9 => by cases h9), Or.inr (Or.inr (Or.inl rfl))⟩
set_option maxHeartbeats 2000000 in
theorem xstep_call {o : xI} {pc : Nat} {ls : xL} {st : List Value} {h : xH} {q : Nat × List Value × Nat × List Value} (hs : xstep nf L xs lit mc o pc ls st h = some (.inr (.inr q))) : ∃ ix n k kd, o = (.invokeinterface q.1 ix, n, k, kd) := by
  obtain ⟨i1, n1, x1, x2⟩ := o
  cases i1 <;> (try (cases hs; done)) <;> simp only [xstep] at hs <;> (try (cases hs; done)) <;> (repeat' (split at hs)) <;> (try (cases hs; done)) <;> (cases hs; exact ⟨_, _, _, _, rfl⟩)
variable {P : Nat → Nat → Option xI} {mx : Nat → Nat} {hd : Nat → Nat → Nat → Option (Option Nat)}
theorem xrun_keep : ∀ (n d i pc : Nat) (ls : xL) (st : List Value) (h : xH) (r : xO) (h' : xH), xrun (xstep nf L xs lit mc) P mx hd n d i pc ls st h = some (r, h') → (h.length ≤ h'.length ∧ xsz h ≤ xsz h') ∧ ∀ k a, r = .inr (k, a) → ∃ fs, h'[a]? = some (.inr (k, fs)) := by
  intro n
  induction n with
  | zero => intro d i pc ls st h r h' hr; cases hr
  | succ n ih =>
    intro d i pc ls st h r h' hr
    simp only [xrun] at hr
    split at hr
    · cases hr
    · rename_i o ho
      split at hr
      · cases hr
      · rename_i pc' ls' st' h1 hs
        obtain ⟨-, k1, k2⟩ := xstep_keep hs
        obtain ⟨⟨j1, j2⟩, j3⟩ := ih _ _ _ _ _ _ _ _ hr
        exact ⟨⟨Nat.le_trans k1 j1, Nat.le_trans k2 j2⟩, j3⟩
      · rename_i r1 hs
        cases hr
        obtain ⟨k1, k2, -⟩ := xstep_end hs
        exact ⟨k1, k2⟩
      · rename_i j as pc' st' hs
        split at hr
        · cases hr
        · rename_i d
          split at hr
          · split at hr
            · cases hr
            · rename_i v h1 hc
              obtain ⟨⟨j1, j2⟩, -⟩ := ih _ _ _ _ _ _ _ _ hc
              obtain ⟨⟨l1, l2⟩, l3⟩ := ih _ _ _ _ _ _ _ _ hr
              exact ⟨⟨Nat.le_trans j1 l1, Nat.le_trans j2 l2⟩, l3⟩
            · rename_i k a h1 hc
              obtain ⟨⟨j1, j2⟩, j3⟩ := ih _ _ _ _ _ _ _ _ hc
              split at hr
              · obtain ⟨⟨l1, l2⟩, l3⟩ := ih _ _ _ _ _ _ _ _ hr
                exact ⟨⟨Nat.le_trans j1 l1, Nat.le_trans j2 l2⟩, l3⟩
              · cases hr
                exact ⟨⟨j1, j2⟩, j3⟩
              · cases hr
          · cases hr
end XALL
section XGO
variable {p : Program} {l : Launch} {e : Env} {R : Room} {s : State} {m : MethodId} {args : Array Value} {below : List Frame} {meth : Method} {c : Code} {Q : State → Prop}
variable {b base : Nat} {ta : (Nat → Nat) × Option Nat} {dA : Nat → ClassId} {D : va_G} {cl : List vw_C} {n0 z0 : Nat} {cc : ByteArray} {pc pc' : Nat} {ls ls' : xL} {st st' : List Value} {h h' : xH} {raw : Instr} {o : xI}
variable {Ts : List Cond} {ty : Nat → FieldType} {own : String} {tf : Nat → Nat → Nat} {ini : Bool}
variable {nf : Nat → List Value} {L : Nat} {xs : Nat → Int32} {mc : Nat → Option Nat} {lit : List (List Int32)} {ldcs : List (String × Nat × String × Nat)}
set_option maxHeartbeats 4000000 in
/-- every instruction that goes on -/
theorem xs_go (F : XF p s m args meth c b base dA D cl Ts ty L xs ta lit ldcs cc own ini) (G : XG Ts cl tf ty) (hd : decode cc pc = .ok (raw, o.2.1)) (hok : xok Ts cl own tf nf ty ldcs ini pc raw o) (hs : xstep nf L xs lit mc o pc ls st h = some (.inl (pc', ls', st', h'))) (hR : h'.length - n0 ≤ R.cells ∧ xsz h' - z0 ≤ R.slots) (hsz : ls.length = c.maxLocals) (hfr : 1 ≤ R.frames) (hlo : 120 ≤ R.locals)
    (K : XK p l e R s m args below meth c Q b base ta dA D cl n0 z0 pc' ls' st' h') : XK p l e R s m args below meth c Q b base ta dA D cl n0 z0 pc ls st h := by
  obtain ⟨i1, n1, x1, x2⟩ := o
  have hd : decode cc pc = .ok (raw, n1) := hd
  cases i1 with
  | iconst v => exact xs_iconst F G hd hok hs K
  | goto_w v => exact xs_lconst F G hd hok hs K
  | ldc i => exact xs_ldc F G hd hok hs K
  | getstatic i => exact xs_gets F G hd hok hs K
  | saload => exact xs_tval F G hd hok hs K
  | sastore => exact xs_tcod F G hd hok hs K
  | baload => exact xs_tbyt F G hd hok hs K
  | iload i => exact xs_iload F G hd hok hs K
  | lload i => exact xs_lload F G hd hok hs K
  | aload i => exact xs_aload F G hd hok hs K
  | istore i => exact xs_istore F G hd hok hs K
  | astore i => exact xs_astore F G hd hok hs K
  | iinc i k => exact xs_iinc F G hd hok hs K
  | iadd => exact xs_iadd F G hd hok hs K
  | isub => exact xs_isub F G hd hok hs K
  | imul => exact xs_imul F G hd hok hs K
  | idiv => exact xs_idiv F G hd hok hs K
  | irem => exact xs_irem F G hd hok hs K
  | iand => exact xs_iand F G hd hok hs K
  | ior => exact xs_ior F G hd hok hs K
  | ishl => exact xs_ishl F G hd hok hs K
  | ishr => exact xs_ishr F G hd hok hs K
  | ineg => exact xs_ineg F G hd hok hs K
  | land => exact xs_land F G hd hok hs K
  | lor => exact xs_lor F G hd hok hs K
  | lushr => exact xs_lushr F G hd hok hs K
  | lshl => exact xs_lshl F G hd hok hs K
  | lshr => exact xs_lshr F G hd hok hs K
  | lcmp => exact xs_lcmp F G hd hok hs K
  | i2l => exact xs_i2l F G hd hok hs K
  | l2i => exact xs_l2i F G hd hok hs K
  | i2c => exact xs_i2c F G hd hok hs K
  | dup => exact xs_dup F G hd hok hs K
  | dup_x1 => exact xs_dup_x1 F G hd hok hs K
  | dup2 => exact xs_dup2 F G hd hok hs K
  | pop => exact xs_pop F G hd hok hs K
  | goto t => exact xs_goto F G hd hok hs K
  | ifCond cd t => exact xs_if F G hd hok hs K
  | if_icmp cd t => exact xs_icmp F G hd hok hs K
  | tableswitch d lo hi offs => exact xs_table F G hd hok hs K
  | lookupswitch d ps => exact xs_lookup F G hd hok hs K
  | getfield k => exact xs_getf F G hd hok hs K
  | putfield k => exact xs_putf F G hd hok hs hR K
  | iaload => exact xs_iald F G hd hok hs K
  | iastore => exact xs_iast F G hd hok hs hR K
  | laload => exact xs_lald F G hd hok hs K
  | lastore => exact xs_last F G hd hok hs hR K
  | aaload => exact xs_aald F G hd hok hs K
  | aastore => exact xs_aast F G hd hok hs hR K
  | arraylength => exact xs_alen F G hd hok hs K
  | new ci => exact xs_new F G hd hok hs hR K
  | newarray a => exact xs_newa F G hd hok hs hR K
  | anewarray t => exact xs_anewa F G hd hok hs hR K
  | multianewarray t t' => exact xs_manewa F G hd hok hs hR K
  | invokespecial k => exact xs_oinit hsz hfr hlo F G hd hok hs K
  | invokeinterface j ix =>
    exfalso
    simp only [xstep] at hs
    (repeat' (split at hs)) <;> cases hs
  | athrow =>
    exfalso
    simp only [xstep] at hs
    split at hs <;> cases hs
  | ireturn =>
    exfalso
    simp only [xstep] at hs
    (repeat' (split at hs)) <;> cases hs
  | areturn =>
    exfalso
    simp only [xstep] at hs
    (repeat' (split at hs)) <;> cases hs
  | return_ =>
    exfalso
    simp only [xstep] at hs
    (repeat' (split at hs)) <;> cases hs
  | _ => cases hs
end XGO
