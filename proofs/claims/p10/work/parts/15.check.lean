/-! CHECKING THE TABLES: each row by the kernel -/
/-- a row of a method's table: its place, the instruction, the linked one -/
def xrow (Ts : List Cond) (cl : List vw_C) (ty : Nat → FieldType) (tf : Nat → Nat → Nat) (nf : Nat → List Value) (mc : Nat → Option Nat) (host : String) (yM : Nat → MethodName) (ldcs : List (String × Nat × String × Nat)) (y : MethodName) (cc : ByteArray) (ret : Option FieldType) (hdl : List (Nat × Nat × Nat × Nat)) (r : Nat × Instr × xI) : Prop :=
  (r.2.2.1 = .athrow ∧ xokT Ts cl y.cls cc r.1 r.2.2 ∧ hdl = []) ∨ (r.2.2.1 ≠ .athrow ∧ decode cc r.1 = .ok (r.2.1, r.2.2.2.1) ∧ xok Ts cl y.cls tf nf ty ldcs (decide (y.name = "<init>")) r.1 r.2.1 r.2.2 ∧ xokR ret r.2.2 ∧ (match r.2.2.1 with | .invokeinterface _ _ => xokC Ts cl y.cls host yM mc r.2.1 r.2.2 | _ => True))
def xokD (Ts : List Cond) (cl : List vw_C) (own : String) (tf : Nat → Nat → Nat) (nf : Nat → List Value) (ty : Nat → FieldType) (ldcs : List (String × Nat × String × Nat)) (ini : Bool) (pc : Nat) (raw : Instr) (o : xI) : Decidable (xok Ts cl own tf nf ty ldcs ini pc raw o) := by
  unfold xok
  split <;> first | infer_instance | (refine @instDecidableAnd _ _ ?_ ?_ <;> first | infer_instance | (refine @instDecidableAnd _ _ ?_ ?_ <;> first | infer_instance | (split <;> infer_instance)))
def xokRD (ret : Option FieldType) (o : xI) : Decidable (xokR ret o) := by
  unfold xokR
  split <;> infer_instance
def xokCD (Ts : List Cond) (cl : List vw_C) (own host : String) (yM : Nat → MethodName) (mc : Nat → Option Nat) (raw : Instr) (o : xI) : Decidable (xokC Ts cl own host yM mc raw o) := by
  unfold xokC
  split <;> first | infer_instance | skip
def xokTD (Ts : List Cond) (cl : List vw_C) (own : String) (cc : ByteArray) (pc : Nat) (o : xI) : Decidable (xokT Ts cl own cc pc o) := by
  unfold xokT
  split <;> infer_instance
def xrowD (Ts : List Cond) (cl : List vw_C) (ty : Nat → FieldType) (tf : Nat → Nat → Nat) (nf : Nat → List Value) (mc : Nat → Option Nat) (host : String) (yM : Nat → MethodName) (ldcs : List (String × Nat × String × Nat)) (y : MethodName) (cc : ByteArray) (ret : Option FieldType) (hdl : List (Nat × Nat × Nat × Nat)) (r : Nat × Instr × xI) : Decidable (xrow Ts cl ty tf nf mc host yM ldcs y cc ret hdl r) := by
  unfold xrow
  have d1 := xokTD Ts cl y.cls cc r.1 r.2.2
  have d2 := xokD Ts cl y.cls tf nf ty ldcs (decide (y.name = "<init>")) r.1 r.2.1 r.2.2
  have d3 := xokRD ret r.2.2
  have d4 : Decidable (match r.2.2.1 with | .invokeinterface _ _ => xokC Ts cl y.cls host yM mc r.2.1 r.2.2 | _ => True) := by
    have d5 := xokCD Ts cl y.cls host yM mc r.2.1 r.2.2
    split <;> infer_instance
  infer_instance
section XMONO
variable {Ts Ts' : List Cond} {cl : List vw_C} {own host : String} {tf : Nat → Nat → Nat} {nf : Nat → List Value} {ty : Nat → FieldType} {ldcs : List (String × Nat × String × Nat)} {ini : Bool} {pc : Nat} {raw : Instr} {o : xI} {yM : Nat → MethodName} {mc : Nat → Option Nat} {cc : ByteArray}
theorem xok_mono (hT : ∀ w ∈ Ts', w ∈ Ts) (h : xok Ts' cl own tf nf ty ldcs ini pc raw o) : xok Ts cl own tf nf ty ldcs ini pc raw o := by
  unfold xok at h ⊢
  split at h <;> try exact h
  · exact ⟨h.1, h.2.1, hT _ h.2.2⟩
  · refine ⟨h.1, h.2.1, ?_⟩
    rcases h.2.2 with ⟨a, q⟩ | ⟨a, q⟩
    · exact Or.inl ⟨a, hT _ q⟩
    · exact Or.inr ⟨a, hT _ q⟩
  · exact ⟨h.1, h.2.1, hT _ h.2.2⟩
  · exact ⟨h.1, h.2.1, hT _ h.2.2⟩
  · obtain ⟨h1, h2, r, hr, h3, h4⟩ := h
    exact ⟨h1, h2, r, hr, h3, hT _ h4⟩
  · obtain ⟨h1, h2, ix, hix, r, hr, h3, h4, h5⟩ := h
    exact ⟨h1, h2, ix, hix, r, hr, h3, hT _ h4, h5⟩
  · obtain ⟨h1, h2, r, hr, h3, h4, h5, h6⟩ := h
    exact ⟨h1, h2, r, hr, hT _ h3, hT _ h4, hT _ h5, h6⟩
  · exact ⟨h.1, h.2.1, h.2.2.1, h.2.2.2.1, hT _ h.2.2.2.2⟩
  · obtain ⟨h1, h2, h3⟩ := h
    refine ⟨h1, h2, ?_⟩
    split at h3
    · exact ⟨hT _ h3.1, hT _ h3.2⟩
    · exact h3
  · obtain ⟨h1, h2, h3, h4, h5, h6, h7⟩ := h
    exact ⟨h1, h2, h3, h4, hT _ h5, hT _ h6, hT _ h7⟩
  · exact ⟨h.1, h.2.1, hT _ h.2.2.1, hT _ h.2.2.2.1, hT _ h.2.2.2.2⟩
theorem xokC_mono (hT : ∀ w ∈ Ts', w ∈ Ts) (h : xokC Ts' cl own host yM mc raw o) : xokC Ts cl own host yM mc raw o := by
  unfold xokC at h ⊢
  split at h <;> try exact h
  obtain ⟨h1, h2, h3, h4⟩ := h
  refine ⟨h1, h2, hT _ h3, ?_⟩
  rcases h4 with ⟨a1, a2, a3, a4, a5, a6⟩ | ⟨a1, a2, a3, a4, a5, a6⟩ | ⟨a1, a2, a3, a4, a5, a6, a7⟩ | ⟨a1, a2, a3, a4, a5, a6, a7⟩
  · exact Or.inl ⟨a1, a2, a3, hT _ a4, hT _ a5, a6⟩
  · exact Or.inr (Or.inl ⟨a1, a2, hT _ a3, hT _ a4, hT _ a5, a6⟩)
  · exact Or.inr (Or.inr (Or.inl ⟨a1, a2, a3, a4, hT _ a5, hT _ a6, a7⟩))
  · exact Or.inr (Or.inr (Or.inr ⟨a1, a2, a3, a4, hT _ a5, hT _ a6, a7⟩))
theorem xokT_mono (hT : ∀ w ∈ Ts', w ∈ Ts) (h : xokT Ts' cl own cc pc o) : xokT Ts cl own cc pc o := by
  unfold xokT at h ⊢
  split at h <;> try exact h
  obtain ⟨h1, h2, h3, h4, r, hr, h5, h6, h7, h8, h9, h10⟩ := h
  exact ⟨h1, h2, h3, h4, r, hr, h5, hT _ h6, hT _ h7, hT _ h8, h9, fun w hw => (h10 w hw).elim (fun q => Or.inl (hT _ q)) Or.inr⟩
/-- a checked table gives what the theorem asks of the code -/
theorem xp_row {y : MethodName} {ret : Option FieldType} {hdl : List (Nat × Nat × Nat × Nat)} {r : Nat × Instr × xI} (hT : ∀ w ∈ Ts', w ∈ Ts) (h : xrow Ts' cl ty tf nf mc host yM ldcs y cc ret hdl r) :
    (r.2.2.1 = .athrow ∧ xokT Ts cl y.cls cc r.1 r.2.2 ∧ hdl = []) ∨ (r.2.2.1 ≠ .athrow ∧ ∃ raw, decode cc r.1 = .ok (raw, r.2.2.2.1) ∧ xok Ts cl y.cls tf nf ty ldcs (decide (y.name = "<init>")) r.1 raw r.2.2 ∧ xokR ret r.2.2 ∧ ((∃ j ix, r.2.2.1 = .invokeinterface j ix) → xokC Ts cl y.cls host yM mc raw r.2.2)) := by
  rcases h with ⟨h1, h2, h3⟩ | ⟨h1, h2, h3, h4, h5⟩
  · exact Or.inl ⟨h1, xokT_mono hT h2, h3⟩
  · refine Or.inr ⟨h1, _, h2, xok_mono hT h3, h4, fun hj => ?_⟩
    obtain ⟨j, ix, hj⟩ := hj
    rw [hj] at h5
    exact xokC_mono hT h5
end XMONO
/-- where a method goes on: ct: the classes of its catch types -/
def xhd (ct : List (Nat × Nat)) (pc k : Nat) : List (Nat × Nat × Nat × Nat) → Option (Option Nat)
  | [] => some none
  | y :: t => if y.1 ≤ pc ∧ pc < y.2.1 then (if ct.lookup y.2.2.2 = some k then some (some y.2.2.1) else (match xhd ct pc k t with | some (some q) => some (some q) | _ => none)) else xhd ct pc k t
theorem xhd_none {ct : List (Nat × Nat)} {pc k : Nat} : ∀ {hdl : List (Nat × Nat × Nat × Nat)}, xhd ct pc k hdl = some none → ∀ y ∈ hdl, ¬ (y.1 ≤ pc ∧ pc < y.2.1) := by
  intro hdl
  induction hdl with
  | nil => intro _ y hy; cases hy
  | cons z t ih =>
    intro h y hy
    unfold xhd at h
    split at h
    · split at h
      · cases h
      · split at h <;> cases h
    · rename_i hz
      rcases List.mem_cons.mp hy with rfl | hy
      · exact hz
      · exact ih h y hy
theorem xhd_some {Ts : List Cond} {own : String} {nc : List (String × String)} {ns : List String} {ct : List (Nat × Nat)} {pc k q : Nat} {X : String} (nm : Nat → String) (hX : nm k = X) (hct : ∀ x ∈ ct, x.1 ≠ 0 ∧ Cond.classLink own x.1 (nm x.2) ∈ Ts ∧ nm x.2 ∈ ns ∧ (x.2 ≠ k → (X, nm x.2) ∈ nc)) :
    ∀ {hdl : List (Nat × Nat × Nat × Nat)}, (∀ y ∈ hdl, ∃ c, ct.lookup y.2.2.2 = some c) → xhd ct pc k hdl = some (some q) → xokH Ts own nc ns pc X q hdl := by
  have hmem : ∀ (ct : List (Nat × Nat)) (a c : Nat), ct.lookup a = some c → (a, c) ∈ ct := by
    intro ct a c
    induction ct with
    | nil => intro h; cases h
    | cons x t ih =>
      intro h
      obtain ⟨x1, x2⟩ := x
      rw [List.lookup_cons] at h
      split at h
      · rename_i hb
        cases h
        have : a = x1 := by simpa using hb
        rw [this]
        exact List.mem_cons_self
      · exact List.mem_cons_of_mem _ (ih h)
  intro hdl
  induction hdl with
  | nil => intro _ h; cases h
  | cons y t ih =>
    intro hl h
    unfold xhd at h
    obtain ⟨c, hc⟩ := hl y List.mem_cons_self
    obtain ⟨c0, c1, c2, c3⟩ := hct _ (hmem _ _ _ hc)
    split at h
    · rename_i hcov
      split at h
      · rename_i hk
        cases h
        rw [hc] at hk
        cases hk
        exact Or.inr ⟨hcov, c0, Or.inl ⟨rfl, by rw [← hX]; exact c1⟩⟩
      · rename_i hk
        split at h
        · rename_i q2 hq
          cases h
          have hne : c ≠ k := fun e => hk (by rw [hc, e])
          exact Or.inr ⟨hcov, c0, Or.inr ⟨⟨nm c, c2, c1, c3 hne⟩, ih (fun z hz => hl z (List.mem_cons_of_mem _ hz)) hq⟩⟩
        · cases h
    · rename_i hcov
      exact Or.inl ⟨hcov, ih (fun z hz => hl z (List.mem_cons_of_mem _ hz)) h⟩
/-- places of words -/
theorem xplaces {big : List Cond} {ws : List Cond} {ps : List Nat} (h : ws.map some = ps.map (fun i => big[i]?)) : ∀ w ∈ ws, w ∈ big := by
  intro w hw
  have h1 : some w ∈ ws.map some := List.mem_map.mpr ⟨w, hw, rfl⟩
  rw [h] at h1
  obtain ⟨i, -, hi⟩ := List.mem_map.mp h1
  exact List.mem_of_getElem? hi
