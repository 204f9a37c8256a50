/-! THE INSTRUCTIONS THAT CHANGE THE HEAP -/
section XHEAP
variable {p : Program} {l : Launch} {e : Env} {R : Room} {s : State} {m : MethodId} {args : Array Value} {below : List Frame} {meth : Method} {c : Code} {Q : State → Prop}
variable {b base : Nat} {ta : (Nat → Nat) × Option Nat} {dA : Nat → ClassId} {D : va_G} {cl : List vw_C} {n0 z0 : Nat} {cc : ByteArray} {pc pc' n : Nat} {ls ls' : xL} {st st' : List Value} {h h' : xH} {raw : Instr} {x1 x2 : Nat}
variable {Ts : List Cond} {ty : Nat → FieldType} {own : String} {tf : Nat → Nat → Nat} {ini : Bool}
variable {nf : Nat → List Value} {L : Nat} {xs : Nat → Int32} {mc : Nat → Option Nat} {lit : List (List Int32)} {ldcs : List (String × Nat × String × Nat)}
/-- a value that fits a field in the pure machine does in the real one -/
theorem xfit_of {t : FieldType} {v : Value} (h : xfit (xtc t) v = true) : narrow t (xv b base ta v) = xv b base ta v ∧ fits t (xv b base ta v) = true := by
  cases v with
  | int x =>
    cases t <;> simp [xfit, xtc] at h
    · exact h
    · exact h
    · exact ⟨rfl, rfl⟩
    · rcases h with rfl | rfl <;> exact ⟨rfl, rfl⟩
  | long x => cases t <;> simp [xfit, xtc] at h; exact ⟨rfl, rfl⟩
  | null => cases t <;> simp [xfit, xtc] at h <;> exact ⟨rfl, rfl⟩
  | ref k => cases t <;> simp [xfit, xtc] at h <;> exact ⟨rfl, rfl⟩
  | _ => cases h
theorem xat_i {t n a : Nat} {f : Nat → Int32} {H1 : Heap} (h : H1[base + a]? = some (arrV (dA t) n (fun j => .int (f j)))) : va_at D cl (base + a, xtr b base ta dA (.inl (t, n, .inl f))) H1 := h
theorem xat_l {t n a : Nat} {f : Nat → Int64} {H1 : Heap} (h : H1[base + a]? = some (arrV (dA t) n (fun j => .long (f j)))) : va_at D cl (base + a, xtr b base ta dA (.inl (t, n, .inr (.inl f)))) H1 := h
theorem xat_q {t n a : Nat} {f : Nat → Option Nat} {H1 : Heap} (h : H1[base + a]? = some (arrV (dA t) n (fun j => va_rf ((f j).map (base + ·))))) : va_at D cl (base + a, xtr b base ta dA (.inl (t, n, .inr (.inr (.inr (.inr f)))))) H1 := h
/-- behind a change of one cell that keeps its size -/
theorem xk_set {a : Nat} {c0 c1 : xC} {H1 : Heap} {locs1 : List Loc} {rl : Array Slot} (hc : h[a]? = some c0) (he : xcz c1 = xcz c0) (K : XK p l e R s m args below meth c Q b base ta dA D cl n0 z0 pc' ls st (h.set a c1)) (hn : n0 ≤ h.length) (hz : z0 ≤ xsz h) (h1 : xls b base ta ls rl) (h2 : H1.size = base + h.length) (h3 : va_P D cl ((xws b base ta dA h).set a (base + a, xtr b base ta dA c1)) H1) (h4 : va_S (fun q => base ≤ q) s.heap H1 locs1) : W p l e R s m args below meth c H1 locs1 (h.length - n0) (xsz h - z0) Q (F0 m pc' rl (st.map (xv b base ta))) := by
  have K2 := K (by rw [List.length_set]; exact hn) (by rw [xsz_set hc he]; exact hz) H1 locs1 rl h1 (by rw [List.length_set]; exact h2) (by rw [xws_set]; exact h3) h4
  rw [List.length_set, xsz_set hc he] at K2
  exact K2
/-- behind a new cell -/
theorem xk_new {c1 : xC} {H H1 : Heap} {locs1 : List Loc} {rl : Array Slot} {N : Nat} (K : XK p l e R s m args below meth c Q b base ta dA D cl n0 z0 pc' ls (.ref h.length :: st) (h ++ [c1])) (hN : xcz c1 = N) (hn : n0 ≤ h.length) (hz : z0 ≤ xsz h) (h1 : xls b base ta ls rl) (h2 : H.size = base + h.length) (h3 : va_P D cl (xws b base ta dA h) H) (e1 : va_at D cl (base + h.length, xtr b base ta dA c1) H1) (z1 : H1.size = H.size + 1) (o1 : ∀ q, q < H.size → H1[q]? = H[q]?) (h4 : va_S (fun q => base ≤ q) s.heap H locs1) : W p l e R s m args below meth c H1 locs1 (h.length - n0 + 1) (xsz h - z0 + N) Q (F0 m pc' rl (.ref H.size :: st.map (xv b base ta))) := by
  have hP : va_P D cl (xws b base ta dA (h ++ [c1])) H1 := by
    rw [xws_app]
    refine (h3.kept (fun k q hk => o1 q.1 ((h3 k q hk).lt))).app (fun k q hk => ?_)
    have hz : k < 1 := (List.getElem?_eq_some_iff.mp hk).1
    rw [show k = 0 by omega] at hk
    cases hk
    exact e1
  have K2 := K (by simp; omega) (by rw [xsz_app]; omega) H1 locs1 rl h1 (by rw [z1, h2]; simp; omega) hP ⟨by rw [z1]; exact Nat.le_succ_of_le h4.1, fun q hq hA => (o1 q (Nat.lt_of_lt_of_le hq h4.1)).trans (h4.2.1 q hq hA), h4.2.2⟩
  rw [xsz_app, hN] at K2
  have e2 : (h ++ [c1]).length - n0 = h.length - n0 + 1 := by simp; omega
  have e3 : xsz h + N - z0 = xsz h - z0 + N := by omega
  rw [e2, e3] at K2
  rw [h2]
  exact K2
theorem xs_putf {k : Nat} (F : XF p s m args meth c b base dA D cl Ts ty L xs ta lit ldcs cc own ini) (G : XG Ts cl tf ty) (hd : decode cc pc = .ok (raw, n)) (hok : xok Ts cl own tf nf ty ldcs ini pc raw (.putfield k, n, x1, x2)) (hs : xstep nf L xs lit mc (.putfield k, n, x1, x2) pc ls st h = some (.inl (pc', ls', st', h'))) (hR : h'.length - n0 ≤ R.cells ∧ xsz h' - z0 ≤ R.slots) (K : XK p l e R s m args below meth c Q b base ta dA D cl n0 z0 pc' ls' st' h') : XK p l e R s m args below meth c Q b base ta dA D cl n0 z0 pc ls st h := by
  obtain ⟨hx, hb, hown, hts, hK, hA, hX, hbl, hbs, hini, hTx⟩ := F
  obtain ⟨hcl, ty0, ty1, ty2, ty3, ty5, tyR⟩ := G
  simp only [xstep] at hs
  split at hs
  · split at hs
    · rename_i v a st0 _ c0 fs hc
      split at hs
      · rename_i hci
        obtain ⟨hci, hkl, hfit⟩ := hci
        cases hs
        subst hci
        obtain ⟨rfl, ht, ix, hix, r, hr, hk, hw, hfin⟩ := hok
        have hr : cl[c0]? = some r := by simpa using hr
        have hraw : raw = .putfield ix := by
          split at hix
          · rw [List.mem_singleton.mp hix]
          · cases hix
        subst hraw
        obtain ⟨hin, ⟨ty0', hty⟩, hnm⟩ := hcl _ _ hr
        obtain ⟨C, T, N⟩ := r
        rw [ht, ← (hty k hk).2] at hfit
        obtain ⟨hna, hfi⟩ := xfit_of (b := b) (base := base) (ta := ta) hfit
        intro hn hz H locs rl h1 h2 h3 h4
        have he := xws_get (b := b) (base := base) (ta := ta) (dA := dA) hc
        have hap := va_apart (own := own) hts hin ty0' (fun k hk => (hty k hk).1) hnm hK hr
        obtain ⟨r, g1, cell, q1, q2, q3, q4⟩ := h3 a _ he
        have e0 : r = (C, T, N) := Option.some.inj (g1.symm.trans hr)
        subst e0
        obtain ⟨hS, hfc, kC, hkC, hkind⟩ := hK.1 c0 _ hr
        obtain ⟨cf, kf, fi, f, hi, hsl⟩ := hS k hk
        have hlay := hts _ (hin _ (u_in_lay hk))
        unfold u_lay at hlay
        have hst := (u_facts hfc hkC (u_lays hts hin hk) hi).1
        have fin : ∀ (H' : Heap), H'[base + a]? = some (cell.setSlot (D.2 c0 k) (xv b base ta v)) → H'.size = H.size → (∀ q, q ≠ base + a → H'[q]? = H[q]?) → W p l e R s m args below meth c H' (locs ++ [⟨base + a, D.2 c0 k⟩]) (h.length - n0) (xsz h - z0) Q (F0 m (pc + 3) rl (st'.map (xv b base ta))) := by
          intro H' e1 e2 e3
          refine xk_set hc ?_ K hn hz h1 (e2.trans h2) ?_ (h4.put e2 e3 (Nat.le_add_right _ _))
          · simp [xcz]
          · have hl : k < (fs.map (xv b base ta)).length := by rw [List.length_map]; exact hkl
            have := h3.set (xws_D h) he (e := .inr (c0, (fs.map (xv b base ta)).set k (xv b base ta v))) ⟨_, hr, t_OB.to (V := updV (vp_V (fs.map (xv b base ta))) k (xv b base ta v)) ⟨_, e1, q2, q3, t_set q4 hap hk _⟩ (fun j _ => vp_updV_set hl _ j)⟩ e3
            rw [← List.map_set] at this
            exact this
        rcases hfin with hf | ⟨hf, hi9, hdecl⟩
        · rw [if_neg (by rw [hf]; decide)] at hlay
          have h6 := u_store hfc hkC hkind hlay hi (hty k hk).1 hna hfi
          refine W.putK hx hb (f := f) ⟨hown, hts _ hw, ⟨_, _, _, hi⟩, hst⟩ (by rw [q2]; exact h6) q1 q3 (by rw [hsl]; exact k2_hasslot (q4 k hk)) rfl rfl hd fun H' e1 e2 e3 => ?_
          rw [hsl] at e1 ⊢
          exact fin H' e1 e2 e3
        · rw [if_pos hf] at hlay
          have hcf : m.cls = cf := by
            obtain ⟨_, _, c', _, _, _, -, -, hf', -, -, -, hown2, -⟩ := Cond.laysFinal_spec hlay
            have e1 : c' = cf := by have := hi.symm.trans hf'; simp at this; exact this.1.symm
            rw [hdecl] at hown2
            rw [← e1]; exact Option.some.inj (hown.symm.trans hown2)
          have h6 := u_fits hfc hkC hkind (Or.inr hlay) hi (hty k hk).1 hna hfi
          refine W.putFinK hx hb hown (hts _ hw) hi hst hcf (hini hi9) (by rw [q2]; exact h6) q1 q3 (by rw [hsl]; exact k2_hasslot (q4 k hk)) rfl rfl hd fun H' e1 e2 e3 => ?_
          rw [hsl] at e1 ⊢
          exact fin H' e1 e2 e3
      · cases hs
    · cases hs
  · cases hs
theorem xs_iast (F : XF p s m args meth c b base dA D cl Ts ty L xs ta lit ldcs cc own ini) (G : XG Ts cl tf ty) (hd : decode cc pc = .ok (raw, n)) (hok : xok Ts cl own tf nf ty ldcs ini pc raw (.iastore, n, x1, x2)) (hs : xstep nf L xs lit mc (.iastore, n, x1, x2) pc ls st h = some (.inl (pc', ls', st', h'))) (hR : h'.length - n0 ≤ R.cells ∧ xsz h' - z0 ≤ R.slots) (K : XK p l e R s m args below meth c Q b base ta dA D cl n0 z0 pc' ls' st' h') : XK p l e R s m args below meth c Q b base ta dA D cl n0 z0 pc ls st h := by
  obtain ⟨hx, hb, hown, hts, hK, hA, hX, hbl, hbs, hini, hTx⟩ := F
  obtain ⟨hcl, ty0, ty1, ty2, ty3, ty5, tyR⟩ := G
  simp only [xstep] at hs
  obtain ⟨rfl, hraw⟩ := hok
  split at hs
  · split at hs
    · rename_i x i a st0 _ t' n1 f hc
      split at hs
      · rename_i hci
        obtain ⟨rfl, hin⟩ := hci
        cases hs
        intro hn hz H locs rl h1 h2 h3 h4
        have hcell : H[base + a]? = some (arrV (dA t') n1 (fun j => .int (f j))) := h3 a _ (xws_get hc)
        have harr := (hA t').1 n1 (fun j => .int (f j))
        have hi1 : ¬ (i < 0 ∨ (arrV (dA t') n1 (fun j => .int (f j))).slots.size ≤ i.toNatClampNeg) := by rw [arrV_size]; exact xin_of hin
        rcases hraw with ⟨rfl, rfl⟩ | ⟨rfl, rfl⟩ | ⟨rfl, rfl⟩ | ⟨rfl, rfl⟩
        · rw [ty0] at harr
          refine W.iast hx hb hcell harr (fun q => by cases q) hi1 rfl rfl hd fun H1 e1 z1 oq => ?_
          refine xk_set hc ?_ K hn hz h1 (z1.trans h2) (h3.set (xws_D h) (xws_get hc) ?_ oq) (h4.put z1 oq (Nat.le_add_right _ _))
          · rfl
          refine xat_i ?_
          rw [e1, arrV_store]
          congr 2
          funext q
          by_cases hq : q = i.toNatClampNeg
          · subst hq
            simp [updV, upd, vp_nar, narrow]
          · simp [updV, upd, hq]
        · rw [ty3] at harr
          refine W.cast hx hb hcell harr (fun q => by cases q) hi1 rfl rfl hd fun H1 e1 z1 oq => ?_
          refine xk_set hc ?_ K hn hz h1 (z1.trans h2) (h3.set (xws_D h) (xws_get hc) ?_ oq) (h4.put z1 oq (Nat.le_add_right _ _))
          · rfl
          refine xat_i ?_
          rw [e1, arrV_store]
          congr 2
          funext q
          by_cases hq : q = i.toNatClampNeg
          · subst hq
            simp [updV, upd, vp_nar, narrow]
          · simp [updV, upd, hq]
        · rw [ty1] at harr
          refine W.zast hx hb hcell harr (fun q => by cases q) hi1 rfl rfl hd fun H1 e1 z1 oq => ?_
          refine xk_set hc ?_ K hn hz h1 (z1.trans h2) (h3.set (xws_D h) (xws_get hc) ?_ oq) (h4.put z1 oq (Nat.le_add_right _ _))
          · rfl
          refine xat_i ?_
          rw [e1, arrV_store]
          congr 2
          funext q
          by_cases hq : q = i.toNatClampNeg
          · subst hq
            simp [updV, upd, vp_nar, narrow]
          · simp [updV, upd, hq]
        · rw [ty2] at harr
          refine W.bast hx hb hcell harr (fun q => by cases q) hi1 rfl rfl hd fun H1 e1 z1 oq => ?_
          refine xk_set hc ?_ K hn hz h1 (z1.trans h2) (h3.set (xws_D h) (xws_get hc) ?_ oq) (h4.put z1 oq (Nat.le_add_right _ _))
          · rfl
          refine xat_i ?_
          rw [e1, arrV_store]
          congr 2
          funext q
          by_cases hq : q = i.toNatClampNeg
          · subst hq
            simp [updV, upd, vp_nar, narrow]
          · simp [updV, upd, hq]
      · cases hs
    · cases hs
  · cases hs
theorem xs_last (F : XF p s m args meth c b base dA D cl Ts ty L xs ta lit ldcs cc own ini) (G : XG Ts cl tf ty) (hd : decode cc pc = .ok (raw, n)) (hok : xok Ts cl own tf nf ty ldcs ini pc raw (.lastore, n, x1, x2)) (hs : xstep nf L xs lit mc (.lastore, n, x1, x2) pc ls st h = some (.inl (pc', ls', st', h'))) (hR : h'.length - n0 ≤ R.cells ∧ xsz h' - z0 ≤ R.slots) (K : XK p l e R s m args below meth c Q b base ta dA D cl n0 z0 pc' ls' st' h') : XK p l e R s m args below meth c Q b base ta dA D cl n0 z0 pc ls st h := by
  obtain ⟨hx, hb, hown, hts, hK, hA, hX, hbl, hbs, hini, hTx⟩ := F
  obtain ⟨hcl, ty0, ty1, ty2, ty3, ty5, tyR⟩ := G
  simp only [xstep] at hs
  obtain ⟨rfl, rfl⟩ := hok
  split at hs
  · split at hs
    · rename_i x i a st0 _ t' n1 f hc
      split at hs
      · rename_i hci
        obtain ⟨rfl, hin⟩ := hci
        cases hs
        intro hn hz H locs rl h1 h2 h3 h4
        have hcell : H[base + a]? = some (arrV (dA 5) n1 (fun j => .long (f j))) := h3 a _ (xws_get hc)
        have harr := (hA 5).1 n1 (fun j => .long (f j))
        rw [ty5] at harr
        refine W.last hx hb hcell harr (fun q => by cases q) (by rw [arrV_size]; exact xin_of hin) rfl rfl hd fun H1 e1 z1 oq => ?_
        refine xk_set hc ?_ K hn hz h1 (z1.trans h2) (h3.set (xws_D h) (xws_get hc) ?_ oq) (h4.put z1 oq (Nat.le_add_right _ _))
        · rfl
        refine xat_l ?_
        rw [e1, arrV_store]
        congr 2
        funext q
        by_cases hq : q = i.toNatClampNeg
        · subst hq
          simp [updV, vp_updL]
        · simp [updV, vp_updL, hq]
      · cases hs
    · cases hs
  · cases hs
theorem xs_new {ci : Nat} (F : XF p s m args meth c b base dA D cl Ts ty L xs ta lit ldcs cc own ini) (G : XG Ts cl tf ty) (hd : decode cc pc = .ok (raw, n)) (hok : xok Ts cl own tf nf ty ldcs ini pc raw (.new ci, n, x1, x2)) (hs : xstep nf L xs lit mc (.new ci, n, x1, x2) pc ls st h = some (.inl (pc', ls', st', h'))) (hR : h'.length - n0 ≤ R.cells ∧ xsz h' - z0 ≤ R.slots) (K : XK p l e R s m args below meth c Q b base ta dA D cl n0 z0 pc' ls' st' h') : XK p l e R s m args below meth c Q b base ta dA D cl n0 z0 pc ls st h := by
  obtain ⟨hx, hb, hown, hts, hK, hA, hX, hbl, hbs, hini, hTx⟩ := F
  obtain ⟨hcl, ty0, ty1, ty2, ty3, ty5, tyR⟩ := G
  cases hs
  obtain ⟨rfl, rfl, r, hr, hcl1, hins, hini1, hlen, hfl, hdf⟩ := hok
  have hr : cl[ci]? = some r := by simpa using hr
  obtain ⟨hin, ⟨ty0', hty⟩, hnm⟩ := hcl _ _ hr
  obtain ⟨C, T, N⟩ := r
  intro hn hz H locs rl h1 h2 h3 h4
  have hKn := hK.1 ci _ hr
  have hN : xcz (.inr (ci, nf ci)) = N := hlen
  have hc9 : h.length - n0 + 1 ≤ R.cells := by have := hR.1; simp at this; omega
  have hs9 : xsz h - z0 + N ≤ R.slots := by have := hR.2; rw [xsz_app, hN] at this; omega
  refine W.newcK hx hb hown (hts _ hcl1) (hts _ hins) (hts _ hini1) rfl hd hc9 hs9 hKn.2.1 rfl fun H1 kC hkC e1 z1 o1 => ?_
  refine xk_new (N := N) K hN hn hz h1 h2 h3 ?_ z1 o1 h4
  refine ⟨_, hr, ?_⟩
  rw [← h2]
  refine (u_born ty0' hts hin hKn hkC e1 (fun k hk => (hty k hk).1)).to (fun j hj => ?_)
  have e2 := hdf j hj
  rw [(hty j hj).1] at e2
  have e3 : defaultValue (ty0' j) = (nf ci).getD j .null := Option.some.inj e2
  show _ = ((nf ci).map (xv b base ta)).getD j .null
  have e4 : ((nf ci).map (xv b base ta)).getD j .null = xv b base ta ((nf ci).getD j .null) := by
    rw [List.getD_eq_getElem?_getD, List.getD_eq_getElem?_getD, List.getElem?_map]
    cases (nf ci)[j]? <;> rfl
  rw [e4, ← e3]
  have e5 := hfl j hj
  rw [← (hty j hj).2] at e5
  cases hq : ty0' j <;> first | rfl | (rw [hq] at e5; exact absurd rfl e5)
theorem xs_newa {at_ : ArrayType} (F : XF p s m args meth c b base dA D cl Ts ty L xs ta lit ldcs cc own ini) (G : XG Ts cl tf ty) (hd : decode cc pc = .ok (raw, n)) (hok : xok Ts cl own tf nf ty ldcs ini pc raw (.newarray at_, n, x1, x2)) (hs : xstep nf L xs lit mc (.newarray at_, n, x1, x2) pc ls st h = some (.inl (pc', ls', st', h'))) (hR : h'.length - n0 ≤ R.cells ∧ xsz h' - z0 ≤ R.slots) (K : XK p l e R s m args below meth c Q b base ta dA D cl n0 z0 pc' ls' st' h') : XK p l e R s m args below meth c Q b base ta dA D cl n0 z0 pc ls st h := by
  obtain ⟨hx, hb, hown, hts, hK, hA, hX, hbl, hbs, hini, hTx⟩ := F
  obtain ⟨hcl, ty0, ty1, ty2, ty3, ty5, tyR⟩ := G
  simp only [xstep] at hs
  obtain ⟨rfl, rfl, ht6, hty, hw⟩ := hok
  split at hs
  · rename_i k st0
    split at hs
    · cases hs
    · rename_i hk
      have hk0 : ¬ k < 0 := fun q => hk (Or.inl q)
      have hk1 : k.toNatClampNeg ≤ 100000 := Nat.not_lt.mp fun q => hk (Or.inr q)
      have hcb : componentBytes (Op.newarray.typeOf at_) ≤ 8 := by cases at_ <;> decide
      have hby : k.toNatClampNeg * componentBytes (Op.newarray.typeOf at_) ≤ 536870912 := Nat.le_trans (Nat.mul_le_mul hk1 hcb) (by decide)
      have fin : ∀ (a0 : vp_A), a0.1 = k.toNatClampNeg → (∀ cA : ClassId, vp_cell cA a0 = arrV cA k.toNatClampNeg (fun _ => defaultValue (Op.newarray.typeOf at_))) → xtr b base ta dA (.inl (x1, a0)) = .inl (dA x1, a0) → (h ++ [(.inl (x1, a0) : xC)]).length - n0 ≤ R.cells ∧ xsz (h ++ [(.inl (x1, a0) : xC)]) - z0 ≤ R.slots → XK p l e R s m args below meth c Q b base ta dA D cl n0 z0 (pc + 2) ls (.ref h.length :: st0) (h ++ [.inl (x1, a0)]) → XK p l e R s m args below meth c Q b base ta dA D cl n0 z0 pc ls (.int k :: st0) h := by
        intro a0 ha1 ha2 ha3 hR K hn hz H locs rl h1 h2 h3 h4
        have hc9 : h.length - n0 + 1 ≤ R.cells := by have := hR.1; simp at this; omega
        have hs9 : xsz h - z0 + k.toNatClampNeg ≤ R.slots := by have := hR.2; rw [xsz_app] at this; have e9 : xcz (.inl (x1, a0)) = k.toNatClampNeg := ha1; omega
        refine va_newaK hx hb (hts _ hw) rfl hd rfl hk0 rfl hby hc9 hs9 rfl fun H1 cA e1 z1 o1 hAr hNm => ?_
        have hcA : cA = dA x1 := by
          have h9 := (hA x1).2
          rw [hty] at h9
          have h8 : s.vm.findClass ("[" ++ (Op.newarray.typeOf at_).toString) = some (dA x1) := by cases at_ <;> exact h9
          exact Option.some.inj (hNm.symm.trans h8)
        subst hcA
        refine xk_new (N := k.toNatClampNeg) K ha1 hn hz h1 h2 h3 ?_ z1 o1 h4
        show va_at D cl (base + h.length, xtr b base ta dA (.inl (x1, a0))) H1
        rw [ha3, ← h2]
        show H1[H.size]? = some (vp_cell (dA x1) a0)
        rw [ha2]
        exact e1
      split at hs
      · rename_i h5
        cases hs
        subst h5
        refine fin (k.toNatClampNeg, .inr (.inl (fun _ => 0))) rfl (fun cA => ?_) rfl hR K
        rw [← hty, ty5]
        rfl
      · rename_i h5
        split at hs
        · cases hs
          refine fin (k.toNatClampNeg, .inl (fun _ => 0)) rfl (fun cA => ?_) rfl hR K
          have : ∀ t, t = Op.newarray.typeOf at_ → t = .int ∨ t = .boolean ∨ t = .byte ∨ t = .char ∨ t = .short → vp_cell cA (k.toNatClampNeg, .inl (fun _ => 0)) = arrV cA k.toNatClampNeg (fun _ => defaultValue (Op.newarray.typeOf at_)) := by
            rintro t rfl ht
            rcases ht with ht | ht | ht | ht | ht <;> rw [ht] <;> rfl
          refine this _ rfl ?_
          rw [← hty]
          rcases (show x1 = 0 ∨ x1 = 1 ∨ x1 = 2 ∨ x1 = 3 by omega) with rfl | rfl | rfl | rfl
          · exact Or.inl ty0
          · exact Or.inr (Or.inl ty1)
          · exact Or.inr (Or.inr (Or.inl ty2))
          · exact Or.inr (Or.inr (Or.inr (Or.inl ty3)))
        · cases hs
  · cases hs
/-- the outer array of new T[n][m], behind i rows -/
theorem xouter (c1 : ClassId) (N h0 : Nat) : ∀ i : Nat, Jvm.Free.Multi.outerC c1 N h0 i = arrV c1 N (fun j => va_rf (if j < i then some (h0 + 1 + j) else none)) := by
  intro i
  induction i with
  | zero =>
    show ({ cls := c1, slots := Array.replicate N .null, vm := .none } : Cell) = _
    rw [arrV_new]
    rfl
  | succ i ih =>
    show (Jvm.Free.Multi.outerC c1 N h0 i).setSlot i (.ref (h0 + 1 + i)) = _
    rw [ih, arrV_store]
    refine congrArg (arrV c1 N) (funext fun j => ?_)
    by_cases e1 : j = i
    · subst e1
      simp [updV, va_rf]
    · have e2 : j < i + 1 ↔ j < i := by omega
      simp [updV, e1, e2]
theorem xs_anewa {t : Nat} (F : XF p s m args meth c b base dA D cl Ts ty L xs ta lit ldcs cc own ini) (G : XG Ts cl tf ty) (hd : decode cc pc = .ok (raw, n)) (hok : xok Ts cl own tf nf ty ldcs ini pc raw (.anewarray t, n, x1, x2)) (hs : xstep nf L xs lit mc (.anewarray t, n, x1, x2) pc ls st h = some (.inl (pc', ls', st', h'))) (hR : h'.length - n0 ≤ R.cells ∧ xsz h' - z0 ≤ R.slots) (K : XK p l e R s m args below meth c Q b base ta dA D cl n0 z0 pc' ls' st' h') : XK p l e R s m args below meth c Q b base ta dA D cl n0 z0 pc ls st h := by
  obtain ⟨hx, hb, hown, hts, hK, hA, hX, hbl, hbs, hini, hTx⟩ := F
  obtain ⟨hcl, ty0, ty1, ty2, ty3, ty5, tyR⟩ := G
  simp only [xstep] at hs
  obtain ⟨rfl, rfl, hm⟩ := hok
  split at hs
  · rename_i k st0
    split at hs
    · cases hs
    · rename_i hk
      have hk0 : ¬ k < 0 := fun q => hk (Or.inl q)
      have hk1 : k.toNatClampNeg ≤ 100000 := Nat.not_lt.mp fun q => hk (Or.inr q)
      cases hs
      split at hm
      · rename_i C hty
        intro hn hz H locs rl h1 h2 h3 h4
        have hc9 : h.length - n0 + 1 ≤ R.cells := by have := hR.1; simp at this; omega
        have hs9 : xsz h - z0 + k.toNatClampNeg ≤ R.slots := by have := hR.2; rw [xsz_app] at this; have e9 : xcz (.inl (t, k.toNatClampNeg, .inr (.inr (.inr (.inr (fun _ => none)))))) = k.toNatClampNeg := rfl; omega
        refine W.anew hx hb hown (hts _ hm.1) (hts _ hm.2) rfl hd rfl hk0 (by omega) hc9 hs9 fun cA kA comp f1 f2 f3 f4 => ?_
        have hcA : cA = dA t := by
          have h9 := (hA t).2
          rw [hty] at h9
          obtain ⟨_, _, -, -, -, h8⟩ := h9
          exact Option.some.inj (f1.symm.trans h8)
        subst hcA
        refine xk_new (N := k.toNatClampNeg) K rfl hn hz h1 h2 h3 ?_ (by simp) (fun q hq => by rw [Array.getElem?_push, if_neg (Nat.ne_of_lt hq)]) h4
        refine xat_q ?_
        rw [← h2, arrV_new]
        simp [va_rf]
      · cases hm
  · cases hs
theorem xs_aast (F : XF p s m args meth c b base dA D cl Ts ty L xs ta lit ldcs cc own ini) (G : XG Ts cl tf ty) (hd : decode cc pc = .ok (raw, n)) (hok : xok Ts cl own tf nf ty ldcs ini pc raw (.aastore, n, x1, x2)) (hs : xstep nf L xs lit mc (.aastore, n, x1, x2) pc ls st h = some (.inl (pc', ls', st', h'))) (hR : h'.length - n0 ≤ R.cells ∧ xsz h' - z0 ≤ R.slots) (K : XK p l e R s m args below meth c Q b base ta dA D cl n0 z0 pc' ls' st' h') : XK p l e R s m args below meth c Q b base ta dA D cl n0 z0 pc ls st h := by
  obtain ⟨hx, hb, hown, hts, hK, hA, hX, hbl, hbs, hini, hTx⟩ := F
  obtain ⟨hcl, ty0, ty1, ty2, ty3, ty5, tyR⟩ := G
  simp only [xstep] at hs
  obtain ⟨rfl, rfl, hty⟩ := hok
  split at hs
  · split at hs
    · rename_i v i a st0 _ _ t' n1 f c0 fs hc hv
      split at hs
      · rename_i hci
        obtain ⟨rfl, h6, h12, rfl, hin⟩ := hci
        cases hs
        split at hty
        · rename_i r hr
          intro hn hz H locs rl h1 h2 h3 h4
          have hcell : H[base + a]? = some (arrV (dA t') n1 (fun j => va_rf ((f j).map (base + ·)))) := h3 a _ (xws_get hc)
          obtain ⟨r', hr', cellV, g1, g2, g3, -⟩ := h3 v _ (xws_get hv)
          have hcls := (hK.1 c0 r hr).2
          have hra := (hA t').2
          rw [hty] at hra
          obtain ⟨kA, comp, k1, k2, k3, -⟩ := hra
          have hcomp : comp = D.1 c0 := Option.some.inj (k3.symm.trans hcls.1)
          subst hcomp
          obtain ⟨kC, hkC, -⟩ := hcls.2
          refine W.aast hx hb hcell (fun q h => by cases h) (fun h => by cases h) k1 k2 rfl hkC ⟨fun q => xin_of hin (Or.inl q), by rw [arrV_size]; exact xin_lt hin⟩ g1 (fun q h => by rw [g3] at h; cases h) (by rw [g2]; exact hkC) (by rw [g2]; exact va_assign hcls) rfl rfl hd fun H1 e1 z1 oq => ?_
          refine xk_set hc ?_ K hn hz h1 (z1.trans h2) (h3.set (xws_D h) (xws_get hc) ?_ oq) (h4.put z1 oq (Nat.le_add_right _ _))
          · rfl
          refine xat_q ?_
          rw [e1, arrV_store]
          congr 2
          funext q
          by_cases hq : q = i.toNatClampNeg
          · subst hq
            simp [updV, va_up, va_rf]
          · simp [updV, va_up, hq]
        · cases hty
      · cases hs
    · cases hs
  · cases hs
theorem xs_manewa {t t' : Nat} (F : XF p s m args meth c b base dA D cl Ts ty L xs ta lit ldcs cc own ini) (G : XG Ts cl tf ty) (hd : decode cc pc = .ok (raw, n)) (hok : xok Ts cl own tf nf ty ldcs ini pc raw (.multianewarray t t', n, x1, x2)) (hs : xstep nf L xs lit mc (.multianewarray t t', n, x1, x2) pc ls st h = some (.inl (pc', ls', st', h'))) (hR : h'.length - n0 ≤ R.cells ∧ xsz h' - z0 ≤ R.slots) (K : XK p l e R s m args below meth c Q b base ta dA D cl n0 z0 pc' ls' st' h') : XK p l e R s m args below meth c Q b base ta dA D cl n0 z0 pc ls st h := by
  obtain ⟨hx, hb, hown, hts, hK, hA, hX, hbl, hbs, hini, hTx⟩ := F
  obtain ⟨hcl, ty0, ty1, ty2, ty3, ty5, tyR⟩ := G
  simp only [xstep] at hs
  obtain ⟨rfl, rfl, rfl, hty, hw1, hw2, hw3⟩ := hok
  split at hs
  · rename_i k' k st0
    split at hs
    · cases hs
    · rename_i hk
      have hk0 : ¬ k < 0 := fun q => hk (Or.inl q)
      have hk1 : k.toNatClampNeg ≤ 1000 := Nat.not_lt.mp fun q => hk (Or.inr (Or.inl q))
      have hk2 : ¬ k' < 0 := fun q => hk (Or.inr (Or.inr (Or.inl q)))
      have hk3 : k'.toNatClampNeg ≤ 1000 := Nat.not_lt.mp fun q => hk (Or.inr (Or.inr (Or.inr q)))
      cases hs
      intro hn hz H locs rl h1 h2 h3 h4 T hT X
      generalize hN : k.toNatClampNeg = N at *
      generalize hM : k'.toNatClampNeg = M at *
      have hsz : xsz (h ++ ((.inl (t, N, .inr (.inr (.inr (.inr (fun i => if i < N then some (h.length + 1 + i) else none))))) : xC) :: List.replicate N (.inl (0, M, .inl (fun _ => 0))))) = xsz h + N + N * M := by
        simp [xsz, xcz, Nat.add_assoc]
      have hln : (h ++ ((.inl (t, N, .inr (.inr (.inr (.inr (fun i => if i < N then some (h.length + 1 + i) else none))))) : xC) :: List.replicate N (.inl (0, M, .inl (fun _ => 0))))).length = h.length + 1 + N := by
        simp; omega
      have hc9 : h.length - n0 + (1 + N) ≤ R.cells := by have := hR.1; rw [hln] at this; omega
      have hs9 : xsz h - z0 + (N + N * M) ≤ R.slots := by have := hR.2; rw [hsz] at this; omega
      obtain ⟨vm₁, cA, comp, -, fA, fC, -, -, X', step⟩ := X.multianewarray2F hx (ty := .int) hown (hts _ hw1) (hts _ hw2) (hts _ hw3) (g := F0 m pc rl (.int k' :: .int k :: st0.map (xv b base ta))) rfl (by rw [hb]; exact hd) rfl hk0 hk2 (by rw [hN]; omega) (by rw [hM]; show M * 4 ≤ _; omega) (by rw [hM]; omega) rfl rfl (by rw [hN]; exact hc9) (by rw [hN, hM]; exact hs9)
      rw [hN, hM] at X' step
      have hcA : cA = dA t := by
        have h9 := (hA t).2
        rw [hty] at h9
        exact Option.some.inj (fA.symm.trans h9)
      have hcC : comp = dA 0 := by
        have h9 := (hA 0).2
        rw [ty0] at h9
        exact Option.some.inj (fC.symm.trans h9)
      subst hcA
      subst hcC
      have hTh : (T.setVm vm₁).heap = H := hT
      obtain ⟨f1, f2, -, -⟩ := Jvm.Free.Multi.fill_facts (T.setVm vm₁) (dA t) (dA 0) N M (defaultValue .int) N
      have hold : ∀ x : Nat, x < H.size → (Jvm.Free.Multi.fill (T.setVm vm₁) (dA t) (dA 0) N M (defaultValue .int) N).heap[x]? = H[x]? := fun x hx => by
        have := Jvm.Free.Multi.fill_old (T.setVm vm₁) (dA t) (dA 0) N M (defaultValue .int) (a := x) (by rw [hTh]; exact hx) N
        rw [hTh] at this
        exact this
      have hrow : ∀ j : Nat, j < N → (Jvm.Free.Multi.fill (T.setVm vm₁) (dA t) (dA 0) N M (defaultValue .int) N).heap[H.size + 1 + j]? = some (arrV (dA 0) M (fun _ => .int 0)) := fun j hj => by
        have := Jvm.Free.Multi.fill_inner (T.setVm vm₁) (dA t) (dA 0) N M (defaultValue .int) N j hj
        rw [hTh] at this
        rw [this]
        show some ({ cls := dA 0, slots := Array.replicate M (.int 0), vm := .none } : Cell) = _
        rw [arrV_new]
      rw [hTh] at f1 f2
      rw [xouter] at f2
      generalize Jvm.Free.Multi.fill (T.setVm vm₁) (dA t) (dA 0) N M (defaultValue .int) N = F at *
      have K2 := K (by rw [hln]; omega) (by rw [hsz]; omega) F.heap locs rl h1 (by rw [f1, hln, h2]; omega) (fun kk q hq => ?_) ⟨by rw [f1]; have := h4.1; omega, fun q hq hA => (hold q (Nat.lt_of_lt_of_le hq h4.1)).trans (h4.2.1 q hq hA), h4.2.2⟩
      · rw [hln, hsz] at K2
        have e1 : h.length + 1 + N - n0 = h.length - n0 + 1 + N := by omega
        have e2 : xsz h + N + N * M - z0 = xsz h - z0 + N + N * M := by omega
        rw [e1, e2] at K2
        obtain ⟨t1, a1, b1⟩ := K2 F rfl X'
        refine ⟨t1, step t1 ?_, b1⟩
        rw [hT, h2]
        exact a1
      · obtain ⟨c1, hc1, rfl⟩ := xws_inv hq
        by_cases hkk : kk < h.length
        · rw [List.getElem?_append_left hkk] at hc1
          exact (h3 kk _ (xws_get hc1)).kept (hold _ (by show base + kk < _; omega))
        · rw [List.getElem?_append_right (Nat.not_lt.mp hkk)] at hc1
          by_cases hk9 : kk - h.length = 0
          · rw [hk9] at hc1
            cases hc1
            have : kk = h.length := by omega
            subst this
            refine xat_q ?_
            rw [← h2, f2]
            refine congrArg some (congrArg (arrV (dA t) N) (funext fun j => ?_))
            by_cases hj : j < N
            · simp [hj, va_rf, h2, Nat.add_assoc]
            · simp [hj]
          · obtain ⟨jj, hjj⟩ : ∃ jj, kk - h.length = jj + 1 := ⟨kk - h.length - 1, by omega⟩
            rw [hjj, List.getElem?_cons_succ] at hc1
            have hlt : jj < N := by
              have := (List.getElem?_eq_some_iff.mp hc1).1
              simpa using this
            rw [List.getElem?_replicate, if_pos hlt] at hc1
            cases hc1
            refine xat_i ?_
            have e9 : base + kk = H.size + 1 + jj := by omega
            rw [e9]
            exact hrow jj hlt
  · cases hs
end XHEAP
