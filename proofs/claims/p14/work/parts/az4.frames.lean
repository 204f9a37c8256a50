section
/-! FRAMES: what the functions leave as it was. Printed by wip/fn/fr.py -/
def mB {α γ : Type} (x : (α × yM) ⊕ ((α × yM) ⊕ (γ × yM))) : yM := match x with
  | .inl a => a.2
  | .inr (.inl a) => a.2
  | .inr (.inr a) => a.2
def mS {α γ : Type} (x : (α × yM) ⊕ (γ × yM)) : yM := match x with
  | .inl a => a.2
  | .inr a => a.2
def HK {β : Type} (pr : β → yM) (K : yM → Prop) (o : Option β) : Prop := ∀ b, o = some b → K (pr b)
def KP (P : Nat → Nat → Prop) (m0 m : yM) : Prop := ∀ a q, P a q → m a q = m0 a q
section HKS
variable {α β γ : Type} {pr : β → yM} {K : yM → Prop}
theorem HK.soU {m : yM} (h : K m) : HK id K (some m) := fun b' e => by cases e; exact h
theorem HK.soP {r : α} {m : yM} (h : K m) : HK (fun x : α × yM => x.2) K (some (r, m)) := fun b' e => by cases e; exact h
theorem HK.so1 {l : α} {m : yM} (h : K m) : HK (mB (α := α) (γ := γ)) K (some (.inl (l, m))) := fun b' e => by cases e; exact h
theorem HK.so2 {l : α} {m : yM} (h : K m) : HK (mB (α := α) (γ := γ)) K (some (.inr (.inl (l, m)))) := fun b' e => by cases e; exact h
theorem HK.so3 {l : γ} {m : yM} (h : K m) : HK (mB (α := α) (γ := γ)) K (some (.inr (.inr (l, m)))) := fun b' e => by cases e; exact h
theorem HK.no : HK pr K none := fun b' e => by cases e
theorem HK.ite {c : Prop} [Decidable c] {x y : Option β} (h1 : c → HK pr K x) (h2 : ¬ c → HK pr K y) : HK pr K (if c then x else y) := by
  split
  · exact h1 ‹_›
  · exact h2 ‹_›
theorem HK.cI {o : Option (α × yM)} {g : α → yM → Option β} (h1 : HK (fun x : α × yM => x.2) K o) (h2 : ∀ r m, K m → HK pr K (g r m)) : HK pr K (bI o g) := fun b e => by
  obtain ⟨r, m, e1, e2⟩ := bI_e e
  exact h2 r m (h1 _ e1) b e2
theorem HK.cI2 {o : Option (α × yM)} {g : α → yM → Option β} (h2 : ∀ r m, o = some (r, m) → HK pr K (g r m)) : HK pr K (bI o g) := fun b e => by
  obtain ⟨r, m, e1, e2⟩ := bI_e e
  exact h2 r m e1 b e2
theorem HK.cU {o : Option yM} {g : yM → Option β} (h1 : HK id K o) (h2 : ∀ m, K m → HK pr K (g m)) : HK pr K (bU o g) := fun b e => by
  obtain ⟨m, e1, e2⟩ := bU_e e
  exact h2 m (h1 _ e1) b e2
theorem HK.cP {o : Option α} {g : α → Option β} (h2 : ∀ r, o = some r → HK pr K (g r)) : HK pr K (bP o g) := fun b e => by
  obtain ⟨r, e1, e2⟩ := bP_e e
  exact h2 r e1 b e2
theorem HK.cT {o : Option ((α ⊕ Nat) × yM)} {g : α → yM → Option β} {t : Nat → yM → Option β} (h1 : HK (fun x : (α ⊕ Nat) × yM => x.2) K o) (h2 : ∀ r m, K m → HK pr K (g r m)) (h3 : ∀ e m, K m → HK pr K (t e m)) : HK pr K (bT o g t) := fun b e => by
  rcases bT_e e with ⟨r, m, e1, e2⟩ | ⟨r, m, e1, e2⟩
  · exact h2 r m (h1 _ e1) b e2
  · exact h3 r m (h1 _ e1) b e2
theorem HK.cL {o : Option ((α × yM) ⊕ (γ × yM))} {g : α → yM → Option β} {t : γ → yM → Option β} (h1 : HK mS K o) (h2 : ∀ r m, K m → HK pr K (g r m)) (h3 : ∀ r m, K m → HK pr K (t r m)) : HK pr K (bL o g t) := fun b e => by
  rcases bL_e e with ⟨r, m, e1, e2⟩ | ⟨r, m, e1, e2⟩
  · exact h2 r m (h1 _ e1) b e2
  · exact h3 r m (h1 _ e1) b e2
theorem HK.cQ {o : Option (α ⊕ γ)} {g : α → Option β} {t : γ → Option β} (h2 : ∀ l, HK pr K (g l)) (h3 : ∀ r, HK pr K (t r)) : HK pr K (bQ o g t) := fun b e => by
  rcases bQ_e e with ⟨r, e1, e2⟩ | ⟨r, e1, e2⟩
  · exact h2 r b e2
  · exact h3 r b e2
theorem HK.yl {B : α → yM → Option ((α × yM) ⊕ ((α × yM) ⊕ (γ × yM)))} (hB : ∀ l m, K m → HK mB K (B l m)) : ∀ (f : Nat) (l : α) (m : yM), K m → HK mS K (yloop B f l m) := by
  intro f
  induction f with
  | zero => intro l m _ b e; cases e
  | succ f ih =>
    intro l m hm b e
    obtain ⟨f', hf, ⟨l', m', e1, e2⟩ | e1⟩ := yloop_s e
    · cases hf
      exact ih l' m' (hB l m hm _ e1) b e2
    · have h := hB l m hm _ e1
      rcases b with b | b
      · exact h
      · exact h
theorem KP.up {P : Nat → Nat → Prop} {m0 m : yM} {a q : Nat} {v : Int} (h : KP P m0 m) (hn : ¬ P a q) : KP P m0 (yup m a q v) := fun b c hb => by
  rw [yup_ne (by rintro ⟨rfl, rfl⟩; exact hn hb)]
  exact h b c hb
end HKS

section FRan
variable {P : Nat → Nat → Prop} {m0 : yM}

theorem kan_B75_12_5 (hP : ∀ a q, P a q → a < 8 ∨ 169 ≤ a) {f : Nat} {a0 : Nat} {x1 : Int} {x3 : Int} {x2 : Int} (ha0 : ∀ q, ¬ P a0 q) {m : yM} (hm : KP P m0 m) : HK mB (KP P m0) (B75_12_5 f a0 x1 x3 x2 m) := by
  unfold B75_12_5
  repeat' (first
    | (with_reducible assumption)
    | (exact HK.no)
    | (with_reducible refine HK.ite (fun _ => ?_) (fun _ => ?_))
    | (with_reducible refine HK.cU ?_ (fun _ _ => ?_))
    | (with_reducible refine HK.cI ?_ (fun _ _ _ => ?_))
    | (with_reducible refine HK.cP (fun _ _ => ?_))
    | (with_reducible refine HK.cT ?_ (fun _ _ _ => ?_) (fun _ _ _ => ?_))
    | (with_reducible refine HK.cL (HK.yl (fun _ _ _ => ?_) _ _ _ ?_) (fun _ _ _ => ?_) (fun _ _ _ => ?_))
    | (with_reducible refine HK.cQ (fun _ => ?_) (fun _ => ?_))
    | (with_reducible refine HK.soU ?_)
    | (with_reducible refine HK.soP ?_)
    | (with_reducible refine HK.so1 ?_)
    | (with_reducible refine HK.so2 ?_)
    | (with_reducible refine HK.so3 ?_)
    | (with_reducible refine KP.up ?_ ?_)
    | (exact ha0 _)
    | (exact fun h => by have := hP _ _ h; omega)
    | (exact fun q h => by have := hP _ _ h; omega))

theorem kan_F75_12 (hP : ∀ a q, P a q → a < 8 ∨ 169 ≤ a) {f : Nat} {a0 : Nat} {x1 : Int} (ha0 : ∀ q, ¬ P a0 q) {m : yM} (hm : KP P m0 m) : HK id (KP P m0) (F75_12 f a0 x1 m) := by
  unfold F75_12
  repeat' (first
    | (with_reducible assumption)
    | (with_reducible refine kan_B75_12_5 hP ?_ ?_)
    | (exact HK.no)
    | (with_reducible refine HK.ite (fun _ => ?_) (fun _ => ?_))
    | (with_reducible refine HK.cU ?_ (fun _ _ => ?_))
    | (with_reducible refine HK.cI ?_ (fun _ _ _ => ?_))
    | (with_reducible refine HK.cP (fun _ _ => ?_))
    | (with_reducible refine HK.cT ?_ (fun _ _ _ => ?_) (fun _ _ _ => ?_))
    | (with_reducible refine HK.cL (HK.yl (fun _ _ _ => ?_) _ _ _ ?_) (fun _ _ _ => ?_) (fun _ _ _ => ?_))
    | (with_reducible refine HK.cQ (fun _ => ?_) (fun _ => ?_))
    | (with_reducible refine HK.soU ?_)
    | (with_reducible refine HK.soP ?_)
    | (with_reducible refine HK.so1 ?_)
    | (with_reducible refine HK.so2 ?_)
    | (with_reducible refine HK.so3 ?_)
    | (with_reducible refine KP.up ?_ ?_)
    | (exact ha0 _)
    | (exact fun h => by have := hP _ _ h; omega)
    | (exact fun q h => by have := hP _ _ h; omega))

theorem kan_B76_c9_2 (hP : ∀ a q, P a q → a < 8 ∨ 169 ≤ a) {f : Nat} {x1 : Int} {m : yM} (hm : KP P m0 m) : HK mB (KP P m0) (B76_c9_2 f x1 m) := by
  unfold B76_c9_2
  repeat' (first
    | (with_reducible assumption)
    | (with_reducible refine kan_F75_12 hP ?_ ?_)
    | (exact HK.no)
    | (with_reducible refine HK.ite (fun _ => ?_) (fun _ => ?_))
    | (with_reducible refine HK.cU ?_ (fun _ _ => ?_))
    | (with_reducible refine HK.cI ?_ (fun _ _ _ => ?_))
    | (with_reducible refine HK.cP (fun _ _ => ?_))
    | (with_reducible refine HK.cT ?_ (fun _ _ _ => ?_) (fun _ _ _ => ?_))
    | (with_reducible refine HK.cL (HK.yl (fun _ _ _ => ?_) _ _ _ ?_) (fun _ _ _ => ?_) (fun _ _ _ => ?_))
    | (with_reducible refine HK.cQ (fun _ => ?_) (fun _ => ?_))
    | (with_reducible refine HK.soU ?_)
    | (with_reducible refine HK.soP ?_)
    | (with_reducible refine HK.so1 ?_)
    | (with_reducible refine HK.so2 ?_)
    | (with_reducible refine HK.so3 ?_)
    | (with_reducible refine KP.up ?_ ?_)
    | (exact fun h => by have := hP _ _ h; omega)
    | (exact fun q h => by have := hP _ _ h; omega))

theorem kan_F76_c9 (hP : ∀ a q, P a q → a < 8 ∨ 169 ≤ a) {f : Nat} {m : yM} (hm : KP P m0 m) : HK id (KP P m0) (F76_c9 f m) := by
  unfold F76_c9
  repeat' (first
    | (with_reducible assumption)
    | (with_reducible refine kan_B76_c9_2 hP ?_)
    | (exact HK.no)
    | (with_reducible refine HK.ite (fun _ => ?_) (fun _ => ?_))
    | (with_reducible refine HK.cU ?_ (fun _ _ => ?_))
    | (with_reducible refine HK.cI ?_ (fun _ _ _ => ?_))
    | (with_reducible refine HK.cP (fun _ _ => ?_))
    | (with_reducible refine HK.cT ?_ (fun _ _ _ => ?_) (fun _ _ _ => ?_))
    | (with_reducible refine HK.cL (HK.yl (fun _ _ _ => ?_) _ _ _ ?_) (fun _ _ _ => ?_) (fun _ _ _ => ?_))
    | (with_reducible refine HK.cQ (fun _ => ?_) (fun _ => ?_))
    | (with_reducible refine HK.soU ?_)
    | (with_reducible refine HK.soP ?_)
    | (with_reducible refine HK.so1 ?_)
    | (with_reducible refine HK.so2 ?_)
    | (with_reducible refine HK.so3 ?_)
    | (with_reducible refine KP.up ?_ ?_)
    | (exact fun h => by have := hP _ _ h; omega)
    | (exact fun q h => by have := hP _ _ h; omega))

theorem kan_B75_10_5 (hP : ∀ a q, P a q → a < 8 ∨ 169 ≤ a) {f : Nat} {a0 : Nat} {x1 : Int} {x3 : Int} {x2 : Int} (ha0 : ∀ q, ¬ P a0 q) {m : yM} (hm : KP P m0 m) : HK mB (KP P m0) (B75_10_5 f a0 x1 x3 x2 m) := by
  unfold B75_10_5
  repeat' (first
    | (with_reducible assumption)
    | (exact HK.no)
    | (with_reducible refine HK.ite (fun _ => ?_) (fun _ => ?_))
    | (with_reducible refine HK.cU ?_ (fun _ _ => ?_))
    | (with_reducible refine HK.cI ?_ (fun _ _ _ => ?_))
    | (with_reducible refine HK.cP (fun _ _ => ?_))
    | (with_reducible refine HK.cT ?_ (fun _ _ _ => ?_) (fun _ _ _ => ?_))
    | (with_reducible refine HK.cL (HK.yl (fun _ _ _ => ?_) _ _ _ ?_) (fun _ _ _ => ?_) (fun _ _ _ => ?_))
    | (with_reducible refine HK.cQ (fun _ => ?_) (fun _ => ?_))
    | (with_reducible refine HK.soU ?_)
    | (with_reducible refine HK.soP ?_)
    | (with_reducible refine HK.so1 ?_)
    | (with_reducible refine HK.so2 ?_)
    | (with_reducible refine HK.so3 ?_)
    | (with_reducible refine KP.up ?_ ?_)
    | (exact ha0 _)
    | (exact fun h => by have := hP _ _ h; omega)
    | (exact fun q h => by have := hP _ _ h; omega))

theorem kan_F75_10 (hP : ∀ a q, P a q → a < 8 ∨ 169 ≤ a) {f : Nat} {a0 : Nat} {x1 : Int} (ha0 : ∀ q, ¬ P a0 q) {m : yM} (hm : KP P m0 m) : HK id (KP P m0) (F75_10 f a0 x1 m) := by
  unfold F75_10
  repeat' (first
    | (with_reducible assumption)
    | (with_reducible refine kan_B75_10_5 hP ?_ ?_)
    | (exact HK.no)
    | (with_reducible refine HK.ite (fun _ => ?_) (fun _ => ?_))
    | (with_reducible refine HK.cU ?_ (fun _ _ => ?_))
    | (with_reducible refine HK.cI ?_ (fun _ _ _ => ?_))
    | (with_reducible refine HK.cP (fun _ _ => ?_))
    | (with_reducible refine HK.cT ?_ (fun _ _ _ => ?_) (fun _ _ _ => ?_))
    | (with_reducible refine HK.cL (HK.yl (fun _ _ _ => ?_) _ _ _ ?_) (fun _ _ _ => ?_) (fun _ _ _ => ?_))
    | (with_reducible refine HK.cQ (fun _ => ?_) (fun _ => ?_))
    | (with_reducible refine HK.soU ?_)
    | (with_reducible refine HK.soP ?_)
    | (with_reducible refine HK.so1 ?_)
    | (with_reducible refine HK.so2 ?_)
    | (with_reducible refine HK.so3 ?_)
    | (with_reducible refine KP.up ?_ ?_)
    | (exact ha0 _)
    | (exact fun h => by have := hP _ _ h; omega)
    | (exact fun q h => by have := hP _ _ h; omega))

theorem kan_B76_c58_2 (hP : ∀ a q, P a q → a < 8 ∨ 169 ≤ a) {f : Nat} {x1 : Int} {m : yM} (hm : KP P m0 m) : HK mB (KP P m0) (B76_c58_2 f x1 m) := by
  unfold B76_c58_2
  repeat' (first
    | (with_reducible assumption)
    | (with_reducible refine kan_F75_10 hP ?_ ?_)
    | (exact HK.no)
    | (with_reducible refine HK.ite (fun _ => ?_) (fun _ => ?_))
    | (with_reducible refine HK.cU ?_ (fun _ _ => ?_))
    | (with_reducible refine HK.cI ?_ (fun _ _ _ => ?_))
    | (with_reducible refine HK.cP (fun _ _ => ?_))
    | (with_reducible refine HK.cT ?_ (fun _ _ _ => ?_) (fun _ _ _ => ?_))
    | (with_reducible refine HK.cL (HK.yl (fun _ _ _ => ?_) _ _ _ ?_) (fun _ _ _ => ?_) (fun _ _ _ => ?_))
    | (with_reducible refine HK.cQ (fun _ => ?_) (fun _ => ?_))
    | (with_reducible refine HK.soU ?_)
    | (with_reducible refine HK.soP ?_)
    | (with_reducible refine HK.so1 ?_)
    | (with_reducible refine HK.so2 ?_)
    | (with_reducible refine HK.so3 ?_)
    | (with_reducible refine KP.up ?_ ?_)
    | (exact fun h => by have := hP _ _ h; omega)
    | (exact fun q h => by have := hP _ _ h; omega))

theorem kan_F76_c58 (hP : ∀ a q, P a q → a < 8 ∨ 169 ≤ a) {f : Nat} {m : yM} (hm : KP P m0 m) : HK id (KP P m0) (F76_c58 f m) := by
  unfold F76_c58
  repeat' (first
    | (with_reducible assumption)
    | (with_reducible refine kan_B76_c58_2 hP ?_)
    | (exact HK.no)
    | (with_reducible refine HK.ite (fun _ => ?_) (fun _ => ?_))
    | (with_reducible refine HK.cU ?_ (fun _ _ => ?_))
    | (with_reducible refine HK.cI ?_ (fun _ _ _ => ?_))
    | (with_reducible refine HK.cP (fun _ _ => ?_))
    | (with_reducible refine HK.cT ?_ (fun _ _ _ => ?_) (fun _ _ _ => ?_))
    | (with_reducible refine HK.cL (HK.yl (fun _ _ _ => ?_) _ _ _ ?_) (fun _ _ _ => ?_) (fun _ _ _ => ?_))
    | (with_reducible refine HK.cQ (fun _ => ?_) (fun _ => ?_))
    | (with_reducible refine HK.soU ?_)
    | (with_reducible refine HK.soP ?_)
    | (with_reducible refine HK.so1 ?_)
    | (with_reducible refine HK.so2 ?_)
    | (with_reducible refine HK.so3 ?_)
    | (with_reducible refine KP.up ?_ ?_)
    | (exact fun h => by have := hP _ _ h; omega)
    | (exact fun q h => by have := hP _ _ h; omega))

theorem kan_B76_c72_2 (hP : ∀ a q, P a q → a < 8 ∨ 169 ≤ a) {f : Nat} {x1 : Int} {m : yM} (hm : KP P m0 m) : HK mB (KP P m0) (B76_c72_2 f x1 m) := by
  unfold B76_c72_2
  repeat' (first
    | (with_reducible assumption)
    | (with_reducible refine kan_F75_12 hP ?_ ?_)
    | (exact HK.no)
    | (with_reducible refine HK.ite (fun _ => ?_) (fun _ => ?_))
    | (with_reducible refine HK.cU ?_ (fun _ _ => ?_))
    | (with_reducible refine HK.cI ?_ (fun _ _ _ => ?_))
    | (with_reducible refine HK.cP (fun _ _ => ?_))
    | (with_reducible refine HK.cT ?_ (fun _ _ _ => ?_) (fun _ _ _ => ?_))
    | (with_reducible refine HK.cL (HK.yl (fun _ _ _ => ?_) _ _ _ ?_) (fun _ _ _ => ?_) (fun _ _ _ => ?_))
    | (with_reducible refine HK.cQ (fun _ => ?_) (fun _ => ?_))
    | (with_reducible refine HK.soU ?_)
    | (with_reducible refine HK.soP ?_)
    | (with_reducible refine HK.so1 ?_)
    | (with_reducible refine HK.so2 ?_)
    | (with_reducible refine HK.so3 ?_)
    | (with_reducible refine KP.up ?_ ?_)
    | (exact fun h => by have := hP _ _ h; omega)
    | (exact fun q h => by have := hP _ _ h; omega))

theorem kan_F76_c72 (hP : ∀ a q, P a q → a < 8 ∨ 169 ≤ a) {f : Nat} {m : yM} (hm : KP P m0 m) : HK id (KP P m0) (F76_c72 f m) := by
  unfold F76_c72
  repeat' (first
    | (with_reducible assumption)
    | (with_reducible refine kan_B76_c72_2 hP ?_)
    | (exact HK.no)
    | (with_reducible refine HK.ite (fun _ => ?_) (fun _ => ?_))
    | (with_reducible refine HK.cU ?_ (fun _ _ => ?_))
    | (with_reducible refine HK.cI ?_ (fun _ _ _ => ?_))
    | (with_reducible refine HK.cP (fun _ _ => ?_))
    | (with_reducible refine HK.cT ?_ (fun _ _ _ => ?_) (fun _ _ _ => ?_))
    | (with_reducible refine HK.cL (HK.yl (fun _ _ _ => ?_) _ _ _ ?_) (fun _ _ _ => ?_) (fun _ _ _ => ?_))
    | (with_reducible refine HK.cQ (fun _ => ?_) (fun _ => ?_))
    | (with_reducible refine HK.soU ?_)
    | (with_reducible refine HK.soP ?_)
    | (with_reducible refine HK.so1 ?_)
    | (with_reducible refine HK.so2 ?_)
    | (with_reducible refine HK.so3 ?_)
    | (with_reducible refine KP.up ?_ ?_)
    | (exact fun h => by have := hP _ _ h; omega)
    | (exact fun q h => by have := hP _ _ h; omega))

theorem kan_F77 (hP : ∀ a q, P a q → a < 8 ∨ 169 ≤ a) {f : Nat} {m : yM} (hm : KP P m0 m) : HK id (KP P m0) (F77 f m) := by
  unfold F77
  repeat' (first
    | (with_reducible assumption)
    | (with_reducible refine kan_F76_c9 hP ?_)
    | (with_reducible refine kan_F76_c58 hP ?_)
    | (with_reducible refine kan_F76_c72 hP ?_)
    | (with_reducible refine kan_F75_10 hP ?_ ?_)
    | (exact HK.no)
    | (with_reducible refine HK.ite (fun _ => ?_) (fun _ => ?_))
    | (with_reducible refine HK.cU ?_ (fun _ _ => ?_))
    | (with_reducible refine HK.cI ?_ (fun _ _ _ => ?_))
    | (with_reducible refine HK.cP (fun _ _ => ?_))
    | (with_reducible refine HK.cT ?_ (fun _ _ _ => ?_) (fun _ _ _ => ?_))
    | (with_reducible refine HK.cL (HK.yl (fun _ _ _ => ?_) _ _ _ ?_) (fun _ _ _ => ?_) (fun _ _ _ => ?_))
    | (with_reducible refine HK.cQ (fun _ => ?_) (fun _ => ?_))
    | (with_reducible refine HK.soU ?_)
    | (with_reducible refine HK.soP ?_)
    | (with_reducible refine HK.so1 ?_)
    | (with_reducible refine HK.so2 ?_)
    | (with_reducible refine HK.so3 ?_)
    | (with_reducible refine KP.up ?_ ?_)
    | (exact fun h => by have := hP _ _ h; omega)
    | (exact fun q h => by have := hP _ _ h; omega))

theorem kan_F79_12 (hP : ∀ a q, P a q → a < 8 ∨ 169 ≤ a) {f : Nat} {a1 : Nat} {x2 : Int} (ha1 : ∀ q, ¬ P a1 q) {m : yM} (hm : KP P m0 m) : HK id (KP P m0) (F79_12 f a1 x2 m) := by
  unfold F79_12
  repeat' (first
    | (with_reducible assumption)
    | (exact HK.no)
    | (with_reducible refine HK.ite (fun _ => ?_) (fun _ => ?_))
    | (with_reducible refine HK.cU ?_ (fun _ _ => ?_))
    | (with_reducible refine HK.cI ?_ (fun _ _ _ => ?_))
    | (with_reducible refine HK.cP (fun _ _ => ?_))
    | (with_reducible refine HK.cT ?_ (fun _ _ _ => ?_) (fun _ _ _ => ?_))
    | (with_reducible refine HK.cL (HK.yl (fun _ _ _ => ?_) _ _ _ ?_) (fun _ _ _ => ?_) (fun _ _ _ => ?_))
    | (with_reducible refine HK.cQ (fun _ => ?_) (fun _ => ?_))
    | (with_reducible refine HK.soU ?_)
    | (with_reducible refine HK.soP ?_)
    | (with_reducible refine HK.so1 ?_)
    | (with_reducible refine HK.so2 ?_)
    | (with_reducible refine HK.so3 ?_)
    | (with_reducible refine KP.up ?_ ?_)
    | (exact ha1 _)
    | (exact fun h => by have := hP _ _ h; omega)
    | (exact fun q h => by have := hP _ _ h; omega))

theorem kan_J80_12_12_29 (hP : ∀ a q, P a q → a < 8 ∨ 169 ≤ a) {f : Nat} {A : Nat} {a1 : Nat} {a2 : Nat} {x3 : Int} {m : yM} (hm : KP P m0 m) : HK mB (KP P m0) (J80_12_12_29 f A a1 a2 x3 m) := by
  unfold J80_12_12_29
  repeat' (first
    | (with_reducible assumption)
    | (exact HK.no)
    | (with_reducible refine HK.ite (fun _ => ?_) (fun _ => ?_))
    | (with_reducible refine HK.cU ?_ (fun _ _ => ?_))
    | (with_reducible refine HK.cI ?_ (fun _ _ _ => ?_))
    | (with_reducible refine HK.cP (fun _ _ => ?_))
    | (with_reducible refine HK.cT ?_ (fun _ _ _ => ?_) (fun _ _ _ => ?_))
    | (with_reducible refine HK.cL (HK.yl (fun _ _ _ => ?_) _ _ _ ?_) (fun _ _ _ => ?_) (fun _ _ _ => ?_))
    | (with_reducible refine HK.cQ (fun _ => ?_) (fun _ => ?_))
    | (with_reducible refine HK.soU ?_)
    | (with_reducible refine HK.soP ?_)
    | (with_reducible refine HK.so1 ?_)
    | (with_reducible refine HK.so2 ?_)
    | (with_reducible refine HK.so3 ?_)
    | (with_reducible refine KP.up ?_ ?_)
    | (exact fun h => by have := hP _ _ h; omega)
    | (exact fun q h => by have := hP _ _ h; omega))

theorem kan_B80_12_12_2 (hP : ∀ a q, P a q → a < 8 ∨ 169 ≤ a) {f : Nat} {A : Nat} {a1 : Nat} {a2 : Nat} {x3 : Int} (ha2 : ∀ q, ¬ P a2 q) {m : yM} (hm : KP P m0 m) : HK mB (KP P m0) (B80_12_12_2 f A a1 a2 x3 m) := by
  unfold B80_12_12_2
  repeat' (first
    | (with_reducible assumption)
    | (with_reducible refine kan_J80_12_12_29 hP ?_)
    | (with_reducible refine kan_F79_12 hP ?_ ?_)
    | (exact HK.no)
    | (with_reducible refine HK.ite (fun _ => ?_) (fun _ => ?_))
    | (with_reducible refine HK.cU ?_ (fun _ _ => ?_))
    | (with_reducible refine HK.cI ?_ (fun _ _ _ => ?_))
    | (with_reducible refine HK.cP (fun _ _ => ?_))
    | (with_reducible refine HK.cT ?_ (fun _ _ _ => ?_) (fun _ _ _ => ?_))
    | (with_reducible refine HK.cL (HK.yl (fun _ _ _ => ?_) _ _ _ ?_) (fun _ _ _ => ?_) (fun _ _ _ => ?_))
    | (with_reducible refine HK.cQ (fun _ => ?_) (fun _ => ?_))
    | (with_reducible refine HK.soU ?_)
    | (with_reducible refine HK.soP ?_)
    | (with_reducible refine HK.so1 ?_)
    | (with_reducible refine HK.so2 ?_)
    | (with_reducible refine HK.so3 ?_)
    | (with_reducible refine KP.up ?_ ?_)
    | (exact ha2 _)
    | (exact fun h => by have := hP _ _ h; omega)
    | (exact fun q h => by have := hP _ _ h; omega))

theorem kan_F80_12_12 (hP : ∀ a q, P a q → a < 8 ∨ 169 ≤ a) {f : Nat} {A : Nat} {a1 : Nat} {a2 : Nat} (ha2 : ∀ q, ¬ P a2 q) {m : yM} (hm : KP P m0 m) : HK id (KP P m0) (F80_12_12 f A a1 a2 m) := by
  unfold F80_12_12
  repeat' (first
    | (with_reducible assumption)
    | (with_reducible refine kan_B80_12_12_2 hP ?_ ?_)
    | (exact HK.no)
    | (with_reducible refine HK.ite (fun _ => ?_) (fun _ => ?_))
    | (with_reducible refine HK.cU ?_ (fun _ _ => ?_))
    | (with_reducible refine HK.cI ?_ (fun _ _ _ => ?_))
    | (with_reducible refine HK.cP (fun _ _ => ?_))
    | (with_reducible refine HK.cT ?_ (fun _ _ _ => ?_) (fun _ _ _ => ?_))
    | (with_reducible refine HK.cL (HK.yl (fun _ _ _ => ?_) _ _ _ ?_) (fun _ _ _ => ?_) (fun _ _ _ => ?_))
    | (with_reducible refine HK.cQ (fun _ => ?_) (fun _ => ?_))
    | (with_reducible refine HK.soU ?_)
    | (with_reducible refine HK.soP ?_)
    | (with_reducible refine HK.so1 ?_)
    | (with_reducible refine HK.so2 ?_)
    | (with_reducible refine HK.so3 ?_)
    | (with_reducible refine KP.up ?_ ?_)
    | (exact ha2 _)
    | (exact fun h => by have := hP _ _ h; omega)
    | (exact fun q h => by have := hP _ _ h; omega))

theorem kan_J85_76 (hP : ∀ a q, P a q → a < 8 ∨ 169 ≤ a) {f : Nat} {A : Nat} {a1 : Nat} {x2 : Int} {m : yM} (hm : KP P m0 m) : HK mB (KP P m0) (J85_76 f A a1 x2 m) := by
  unfold J85_76
  repeat' (first
    | (with_reducible assumption)
    | (exact HK.no)
    | (with_reducible refine HK.ite (fun _ => ?_) (fun _ => ?_))
    | (with_reducible refine HK.cU ?_ (fun _ _ => ?_))
    | (with_reducible refine HK.cI ?_ (fun _ _ _ => ?_))
    | (with_reducible refine HK.cP (fun _ _ => ?_))
    | (with_reducible refine HK.cT ?_ (fun _ _ _ => ?_) (fun _ _ _ => ?_))
    | (with_reducible refine HK.cL (HK.yl (fun _ _ _ => ?_) _ _ _ ?_) (fun _ _ _ => ?_) (fun _ _ _ => ?_))
    | (with_reducible refine HK.cQ (fun _ => ?_) (fun _ => ?_))
    | (with_reducible refine HK.soU ?_)
    | (with_reducible refine HK.soP ?_)
    | (with_reducible refine HK.so1 ?_)
    | (with_reducible refine HK.so2 ?_)
    | (with_reducible refine HK.so3 ?_)
    | (with_reducible refine KP.up ?_ ?_)
    | (exact fun h => by have := hP _ _ h; omega)
    | (exact fun q h => by have := hP _ _ h; omega))

theorem kan_B85_2 (hP : ∀ a q, P a q → a < 8 ∨ 169 ≤ a) {f : Nat} {A : Nat} {a1 : Nat} {x2 : Int} {m : yM} (hm : KP P m0 m) : HK mB (KP P m0) (B85_2 f A a1 x2 m) := by
  unfold B85_2
  repeat' (first
    | (with_reducible assumption)
    | (with_reducible refine kan_J85_76 hP ?_)
    | (with_reducible refine kan_F80_12_12 hP ?_ ?_)
    | (exact HK.no)
    | (with_reducible refine HK.ite (fun _ => ?_) (fun _ => ?_))
    | (with_reducible refine HK.cU ?_ (fun _ _ => ?_))
    | (with_reducible refine HK.cI ?_ (fun _ _ _ => ?_))
    | (with_reducible refine HK.cP (fun _ _ => ?_))
    | (with_reducible refine HK.cT ?_ (fun _ _ _ => ?_) (fun _ _ _ => ?_))
    | (with_reducible refine HK.cL (HK.yl (fun _ _ _ => ?_) _ _ _ ?_) (fun _ _ _ => ?_) (fun _ _ _ => ?_))
    | (with_reducible refine HK.cQ (fun _ => ?_) (fun _ => ?_))
    | (with_reducible refine HK.soU ?_)
    | (with_reducible refine HK.soP ?_)
    | (with_reducible refine HK.so1 ?_)
    | (with_reducible refine HK.so2 ?_)
    | (with_reducible refine HK.so3 ?_)
    | (with_reducible refine KP.up ?_ ?_)
    | (exact fun h => by have := hP _ _ h; omega)
    | (exact fun q h => by have := hP _ _ h; omega))

theorem kan_F85 (hP : ∀ a q, P a q → a < 8 ∨ 169 ≤ a) {f : Nat} {A : Nat} {a1 : Nat} {m : yM} (hm : KP P m0 m) : HK id (KP P m0) (F85 f A a1 m) := by
  unfold F85
  repeat' (first
    | (with_reducible assumption)
    | (with_reducible refine kan_B85_2 hP ?_)
    | (exact HK.no)
    | (with_reducible refine HK.ite (fun _ => ?_) (fun _ => ?_))
    | (with_reducible refine HK.cU ?_ (fun _ _ => ?_))
    | (with_reducible refine HK.cI ?_ (fun _ _ _ => ?_))
    | (with_reducible refine HK.cP (fun _ _ => ?_))
    | (with_reducible refine HK.cT ?_ (fun _ _ _ => ?_) (fun _ _ _ => ?_))
    | (with_reducible refine HK.cL (HK.yl (fun _ _ _ => ?_) _ _ _ ?_) (fun _ _ _ => ?_) (fun _ _ _ => ?_))
    | (with_reducible refine HK.cQ (fun _ => ?_) (fun _ => ?_))
    | (with_reducible refine HK.soU ?_)
    | (with_reducible refine HK.soP ?_)
    | (with_reducible refine HK.so1 ?_)
    | (with_reducible refine HK.so2 ?_)
    | (with_reducible refine HK.so3 ?_)
    | (with_reducible refine KP.up ?_ ?_)
    | (exact fun h => by have := hP _ _ h; omega)
    | (exact fun q h => by have := hP _ _ h; omega))

theorem kan_F79_10 (hP : ∀ a q, P a q → a < 8 ∨ 169 ≤ a) {f : Nat} {a1 : Nat} {x2 : Int} (ha1 : ∀ q, ¬ P a1 q) {m : yM} (hm : KP P m0 m) : HK id (KP P m0) (F79_10 f a1 x2 m) := by
  unfold F79_10
  repeat' (first
    | (with_reducible assumption)
    | (exact HK.no)
    | (with_reducible refine HK.ite (fun _ => ?_) (fun _ => ?_))
    | (with_reducible refine HK.cU ?_ (fun _ _ => ?_))
    | (with_reducible refine HK.cI ?_ (fun _ _ _ => ?_))
    | (with_reducible refine HK.cP (fun _ _ => ?_))
    | (with_reducible refine HK.cT ?_ (fun _ _ _ => ?_) (fun _ _ _ => ?_))
    | (with_reducible refine HK.cL (HK.yl (fun _ _ _ => ?_) _ _ _ ?_) (fun _ _ _ => ?_) (fun _ _ _ => ?_))
    | (with_reducible refine HK.cQ (fun _ => ?_) (fun _ => ?_))
    | (with_reducible refine HK.soU ?_)
    | (with_reducible refine HK.soP ?_)
    | (with_reducible refine HK.so1 ?_)
    | (with_reducible refine HK.so2 ?_)
    | (with_reducible refine HK.so3 ?_)
    | (with_reducible refine KP.up ?_ ?_)
    | (exact ha1 _)
    | (exact fun h => by have := hP _ _ h; omega)
    | (exact fun q h => by have := hP _ _ h; omega))

theorem kan_J86_106 (hP : ∀ a q, P a q → a < 8 ∨ 169 ≤ a) {f : Nat} {A : Nat} {a1 : Nat} {x2 : Int} {m : yM} (hm : KP P m0 m) : HK mB (KP P m0) (J86_106 f A a1 x2 m) := by
  unfold J86_106
  repeat' (first
    | (with_reducible assumption)
    | (exact HK.no)
    | (with_reducible refine HK.ite (fun _ => ?_) (fun _ => ?_))
    | (with_reducible refine HK.cU ?_ (fun _ _ => ?_))
    | (with_reducible refine HK.cI ?_ (fun _ _ _ => ?_))
    | (with_reducible refine HK.cP (fun _ _ => ?_))
    | (with_reducible refine HK.cT ?_ (fun _ _ _ => ?_) (fun _ _ _ => ?_))
    | (with_reducible refine HK.cL (HK.yl (fun _ _ _ => ?_) _ _ _ ?_) (fun _ _ _ => ?_) (fun _ _ _ => ?_))
    | (with_reducible refine HK.cQ (fun _ => ?_) (fun _ => ?_))
    | (with_reducible refine HK.soU ?_)
    | (with_reducible refine HK.soP ?_)
    | (with_reducible refine HK.so1 ?_)
    | (with_reducible refine HK.so2 ?_)
    | (with_reducible refine HK.so3 ?_)
    | (with_reducible refine KP.up ?_ ?_)
    | (exact fun h => by have := hP _ _ h; omega)
    | (exact fun q h => by have := hP _ _ h; omega))

theorem kan_B86_2 (hP : ∀ a q, P a q → a < 8 ∨ 169 ≤ a) {f : Nat} {A : Nat} {a1 : Nat} {x2 : Int} {m : yM} (hm : KP P m0 m) : HK mB (KP P m0) (B86_2 f A a1 x2 m) := by
  unfold B86_2
  repeat' (first
    | (with_reducible assumption)
    | (with_reducible refine kan_J86_106 hP ?_)
    | (with_reducible refine kan_F79_10 hP ?_ ?_)
    | (with_reducible refine kan_F79_12 hP ?_ ?_)
    | (exact HK.no)
    | (with_reducible refine HK.ite (fun _ => ?_) (fun _ => ?_))
    | (with_reducible refine HK.cU ?_ (fun _ _ => ?_))
    | (with_reducible refine HK.cI ?_ (fun _ _ _ => ?_))
    | (with_reducible refine HK.cP (fun _ _ => ?_))
    | (with_reducible refine HK.cT ?_ (fun _ _ _ => ?_) (fun _ _ _ => ?_))
    | (with_reducible refine HK.cL (HK.yl (fun _ _ _ => ?_) _ _ _ ?_) (fun _ _ _ => ?_) (fun _ _ _ => ?_))
    | (with_reducible refine HK.cQ (fun _ => ?_) (fun _ => ?_))
    | (with_reducible refine HK.soU ?_)
    | (with_reducible refine HK.soP ?_)
    | (with_reducible refine HK.so1 ?_)
    | (with_reducible refine HK.so2 ?_)
    | (with_reducible refine HK.so3 ?_)
    | (with_reducible refine KP.up ?_ ?_)
    | (exact fun h => by have := hP _ _ h; omega)
    | (exact fun q h => by have := hP _ _ h; omega))

theorem kan_F86 (hP : ∀ a q, P a q → a < 8 ∨ 169 ≤ a) {f : Nat} {A : Nat} {a1 : Nat} {m : yM} (hm : KP P m0 m) : HK id (KP P m0) (F86 f A a1 m) := by
  unfold F86
  repeat' (first
    | (with_reducible assumption)
    | (with_reducible refine kan_B86_2 hP ?_)
    | (exact HK.no)
    | (with_reducible refine HK.ite (fun _ => ?_) (fun _ => ?_))
    | (with_reducible refine HK.cU ?_ (fun _ _ => ?_))
    | (with_reducible refine HK.cI ?_ (fun _ _ _ => ?_))
    | (with_reducible refine HK.cP (fun _ _ => ?_))
    | (with_reducible refine HK.cT ?_ (fun _ _ _ => ?_) (fun _ _ _ => ?_))
    | (with_reducible refine HK.cL (HK.yl (fun _ _ _ => ?_) _ _ _ ?_) (fun _ _ _ => ?_) (fun _ _ _ => ?_))
    | (with_reducible refine HK.cQ (fun _ => ?_) (fun _ => ?_))
    | (with_reducible refine HK.soU ?_)
    | (with_reducible refine HK.soP ?_)
    | (with_reducible refine HK.so1 ?_)
    | (with_reducible refine HK.so2 ?_)
    | (with_reducible refine HK.so3 ?_)
    | (with_reducible refine KP.up ?_ ?_)
    | (exact fun h => by have := hP _ _ h; omega)
    | (exact fun q h => by have := hP _ _ h; omega))

theorem kan_J88_61 (hP : ∀ a q, P a q → a < 8 ∨ 169 ≤ a) {f : Nat} {A : Nat} {a1 : Nat} {a2 : Nat} {m : yM} (hm : KP P m0 m) : HK id (KP P m0) (J88_61 f A a1 a2 m) := by
  unfold J88_61
  repeat' (first
    | (with_reducible assumption)
    | (with_reducible refine kan_F80_12_12 hP ?_ ?_)
    | (exact HK.no)
    | (with_reducible refine HK.ite (fun _ => ?_) (fun _ => ?_))
    | (with_reducible refine HK.cU ?_ (fun _ _ => ?_))
    | (with_reducible refine HK.cI ?_ (fun _ _ _ => ?_))
    | (with_reducible refine HK.cP (fun _ _ => ?_))
    | (with_reducible refine HK.cT ?_ (fun _ _ _ => ?_) (fun _ _ _ => ?_))
    | (with_reducible refine HK.cL (HK.yl (fun _ _ _ => ?_) _ _ _ ?_) (fun _ _ _ => ?_) (fun _ _ _ => ?_))
    | (with_reducible refine HK.cQ (fun _ => ?_) (fun _ => ?_))
    | (with_reducible refine HK.soU ?_)
    | (with_reducible refine HK.soP ?_)
    | (with_reducible refine HK.so1 ?_)
    | (with_reducible refine HK.so2 ?_)
    | (with_reducible refine HK.so3 ?_)
    | (with_reducible refine KP.up ?_ ?_)
    | (exact fun h => by have := hP _ _ h; omega)
    | (exact fun q h => by have := hP _ _ h; omega))

theorem kan_J88_30 (hP : ∀ a q, P a q → a < 8 ∨ 169 ≤ a) {f : Nat} {A : Nat} {a1 : Nat} {a2 : Nat} {m : yM} (hm : KP P m0 m) : HK id (KP P m0) (J88_30 f A a1 a2 m) := by
  unfold J88_30
  repeat' (first
    | (with_reducible assumption)
    | (with_reducible refine kan_F80_12_12 hP ?_ ?_)
    | (with_reducible refine kan_J88_61 hP ?_)
    | (exact HK.no)
    | (with_reducible refine HK.ite (fun _ => ?_) (fun _ => ?_))
    | (with_reducible refine HK.cU ?_ (fun _ _ => ?_))
    | (with_reducible refine HK.cI ?_ (fun _ _ _ => ?_))
    | (with_reducible refine HK.cP (fun _ _ => ?_))
    | (with_reducible refine HK.cT ?_ (fun _ _ _ => ?_) (fun _ _ _ => ?_))
    | (with_reducible refine HK.cL (HK.yl (fun _ _ _ => ?_) _ _ _ ?_) (fun _ _ _ => ?_) (fun _ _ _ => ?_))
    | (with_reducible refine HK.cQ (fun _ => ?_) (fun _ => ?_))
    | (with_reducible refine HK.soU ?_)
    | (with_reducible refine HK.soP ?_)
    | (with_reducible refine HK.so1 ?_)
    | (with_reducible refine HK.so2 ?_)
    | (with_reducible refine HK.so3 ?_)
    | (with_reducible refine KP.up ?_ ?_)
    | (exact fun h => by have := hP _ _ h; omega)
    | (exact fun q h => by have := hP _ _ h; omega))

theorem kan_F88 (hP : ∀ a q, P a q → a < 8 ∨ 169 ≤ a) {f : Nat} {A : Nat} {a1 : Nat} {a2 : Nat} {m : yM} (hm : KP P m0 m) : HK id (KP P m0) (F88 f A a1 a2 m) := by
  unfold F88
  repeat' (first
    | (with_reducible assumption)
    | (with_reducible refine kan_F80_12_12 hP ?_ ?_)
    | (with_reducible refine kan_J88_30 hP ?_)
    | (exact HK.no)
    | (with_reducible refine HK.ite (fun _ => ?_) (fun _ => ?_))
    | (with_reducible refine HK.cU ?_ (fun _ _ => ?_))
    | (with_reducible refine HK.cI ?_ (fun _ _ _ => ?_))
    | (with_reducible refine HK.cP (fun _ _ => ?_))
    | (with_reducible refine HK.cT ?_ (fun _ _ _ => ?_) (fun _ _ _ => ?_))
    | (with_reducible refine HK.cL (HK.yl (fun _ _ _ => ?_) _ _ _ ?_) (fun _ _ _ => ?_) (fun _ _ _ => ?_))
    | (with_reducible refine HK.cQ (fun _ => ?_) (fun _ => ?_))
    | (with_reducible refine HK.soU ?_)
    | (with_reducible refine HK.soP ?_)
    | (with_reducible refine HK.so1 ?_)
    | (with_reducible refine HK.so2 ?_)
    | (with_reducible refine HK.so3 ?_)
    | (with_reducible refine KP.up ?_ ?_)
    | (exact fun h => by have := hP _ _ h; omega)
    | (exact fun q h => by have := hP _ _ h; omega))

theorem kan_J89_45 (hP : ∀ a q, P a q → a < 8 ∨ 169 ≤ a) {f : Nat} {A : Nat} {a1 : Nat} {x2 : Int} {m : yM} (hm : KP P m0 m) : HK mB (KP P m0) (J89_45 f A a1 x2 m) := by
  unfold J89_45
  repeat' (first
    | (with_reducible assumption)
    | (exact HK.no)
    | (with_reducible refine HK.ite (fun _ => ?_) (fun _ => ?_))
    | (with_reducible refine HK.cU ?_ (fun _ _ => ?_))
    | (with_reducible refine HK.cI ?_ (fun _ _ _ => ?_))
    | (with_reducible refine HK.cP (fun _ _ => ?_))
    | (with_reducible refine HK.cT ?_ (fun _ _ _ => ?_) (fun _ _ _ => ?_))
    | (with_reducible refine HK.cL (HK.yl (fun _ _ _ => ?_) _ _ _ ?_) (fun _ _ _ => ?_) (fun _ _ _ => ?_))
    | (with_reducible refine HK.cQ (fun _ => ?_) (fun _ => ?_))
    | (with_reducible refine HK.soU ?_)
    | (with_reducible refine HK.soP ?_)
    | (with_reducible refine HK.so1 ?_)
    | (with_reducible refine HK.so2 ?_)
    | (with_reducible refine HK.so3 ?_)
    | (with_reducible refine KP.up ?_ ?_)
    | (exact fun h => by have := hP _ _ h; omega)
    | (exact fun q h => by have := hP _ _ h; omega))

theorem kan_B89_2 (hP : ∀ a q, P a q → a < 8 ∨ 169 ≤ a) {f : Nat} {A : Nat} {a1 : Nat} {x2 : Int} {m : yM} (hm : KP P m0 m) : HK mB (KP P m0) (B89_2 f A a1 x2 m) := by
  unfold B89_2
  repeat' (first
    | (with_reducible assumption)
    | (with_reducible refine kan_J89_45 hP ?_)
    | (with_reducible refine kan_F88 hP ?_)
    | (exact HK.no)
    | (with_reducible refine HK.ite (fun _ => ?_) (fun _ => ?_))
    | (with_reducible refine HK.cU ?_ (fun _ _ => ?_))
    | (with_reducible refine HK.cI ?_ (fun _ _ _ => ?_))
    | (with_reducible refine HK.cP (fun _ _ => ?_))
    | (with_reducible refine HK.cT ?_ (fun _ _ _ => ?_) (fun _ _ _ => ?_))
    | (with_reducible refine HK.cL (HK.yl (fun _ _ _ => ?_) _ _ _ ?_) (fun _ _ _ => ?_) (fun _ _ _ => ?_))
    | (with_reducible refine HK.cQ (fun _ => ?_) (fun _ => ?_))
    | (with_reducible refine HK.soU ?_)
    | (with_reducible refine HK.soP ?_)
    | (with_reducible refine HK.so1 ?_)
    | (with_reducible refine HK.so2 ?_)
    | (with_reducible refine HK.so3 ?_)
    | (with_reducible refine KP.up ?_ ?_)
    | (exact fun h => by have := hP _ _ h; omega)
    | (exact fun q h => by have := hP _ _ h; omega))

theorem kan_F89 (hP : ∀ a q, P a q → a < 8 ∨ 169 ≤ a) {f : Nat} {A : Nat} {a1 : Nat} {m : yM} (hm : KP P m0 m) : HK id (KP P m0) (F89 f A a1 m) := by
  unfold F89
  repeat' (first
    | (with_reducible assumption)
    | (with_reducible refine kan_B89_2 hP ?_)
    | (exact HK.no)
    | (with_reducible refine HK.ite (fun _ => ?_) (fun _ => ?_))
    | (with_reducible refine HK.cU ?_ (fun _ _ => ?_))
    | (with_reducible refine HK.cI ?_ (fun _ _ _ => ?_))
    | (with_reducible refine HK.cP (fun _ _ => ?_))
    | (with_reducible refine HK.cT ?_ (fun _ _ _ => ?_) (fun _ _ _ => ?_))
    | (with_reducible refine HK.cL (HK.yl (fun _ _ _ => ?_) _ _ _ ?_) (fun _ _ _ => ?_) (fun _ _ _ => ?_))
    | (with_reducible refine HK.cQ (fun _ => ?_) (fun _ => ?_))
    | (with_reducible refine HK.soU ?_)
    | (with_reducible refine HK.soP ?_)
    | (with_reducible refine HK.so1 ?_)
    | (with_reducible refine HK.so2 ?_)
    | (with_reducible refine HK.so3 ?_)
    | (with_reducible refine KP.up ?_ ?_)
    | (exact fun h => by have := hP _ _ h; omega)
    | (exact fun q h => by have := hP _ _ h; omega))

theorem kan_J82_68 (hP : ∀ a q, P a q → a < 8 ∨ 169 ≤ a) {f : Nat} {A : Nat} {a1 : Nat} {x2 : Int} {m : yM} (hm : KP P m0 m) : HK mB (KP P m0) (J82_68 f A a1 x2 m) := by
  unfold J82_68
  repeat' (first
    | (with_reducible assumption)
    | (exact HK.no)
    | (with_reducible refine HK.ite (fun _ => ?_) (fun _ => ?_))
    | (with_reducible refine HK.cU ?_ (fun _ _ => ?_))
    | (with_reducible refine HK.cI ?_ (fun _ _ _ => ?_))
    | (with_reducible refine HK.cP (fun _ _ => ?_))
    | (with_reducible refine HK.cT ?_ (fun _ _ _ => ?_) (fun _ _ _ => ?_))
    | (with_reducible refine HK.cL (HK.yl (fun _ _ _ => ?_) _ _ _ ?_) (fun _ _ _ => ?_) (fun _ _ _ => ?_))
    | (with_reducible refine HK.cQ (fun _ => ?_) (fun _ => ?_))
    | (with_reducible refine HK.soU ?_)
    | (with_reducible refine HK.soP ?_)
    | (with_reducible refine HK.so1 ?_)
    | (with_reducible refine HK.so2 ?_)
    | (with_reducible refine HK.so3 ?_)
    | (with_reducible refine KP.up ?_ ?_)
    | (exact fun h => by have := hP _ _ h; omega)
    | (exact fun q h => by have := hP _ _ h; omega))

theorem kan_B82_2 (hP : ∀ a q, P a q → a < 8 ∨ 169 ≤ a) {f : Nat} {A : Nat} {a1 : Nat} {x2 : Int} {m : yM} (hm : KP P m0 m) : HK mB (KP P m0) (B82_2 f A a1 x2 m) := by
  unfold B82_2
  repeat' (first
    | (with_reducible assumption)
    | (with_reducible refine kan_J82_68 hP ?_)
    | (with_reducible refine kan_F79_12 hP ?_ ?_)
    | (exact HK.no)
    | (with_reducible refine HK.ite (fun _ => ?_) (fun _ => ?_))
    | (with_reducible refine HK.cU ?_ (fun _ _ => ?_))
    | (with_reducible refine HK.cI ?_ (fun _ _ _ => ?_))
    | (with_reducible refine HK.cP (fun _ _ => ?_))
    | (with_reducible refine HK.cT ?_ (fun _ _ _ => ?_) (fun _ _ _ => ?_))
    | (with_reducible refine HK.cL (HK.yl (fun _ _ _ => ?_) _ _ _ ?_) (fun _ _ _ => ?_) (fun _ _ _ => ?_))
    | (with_reducible refine HK.cQ (fun _ => ?_) (fun _ => ?_))
    | (with_reducible refine HK.soU ?_)
    | (with_reducible refine HK.soP ?_)
    | (with_reducible refine HK.so1 ?_)
    | (with_reducible refine HK.so2 ?_)
    | (with_reducible refine HK.so3 ?_)
    | (with_reducible refine KP.up ?_ ?_)
    | (exact fun h => by have := hP _ _ h; omega)
    | (exact fun q h => by have := hP _ _ h; omega))

theorem kan_F82 (hP : ∀ a q, P a q → a < 8 ∨ 169 ≤ a) {f : Nat} {A : Nat} {a1 : Nat} {m : yM} (hm : KP P m0 m) : HK id (KP P m0) (F82 f A a1 m) := by
  unfold F82
  repeat' (first
    | (with_reducible assumption)
    | (with_reducible refine kan_B82_2 hP ?_)
    | (exact HK.no)
    | (with_reducible refine HK.ite (fun _ => ?_) (fun _ => ?_))
    | (with_reducible refine HK.cU ?_ (fun _ _ => ?_))
    | (with_reducible refine HK.cI ?_ (fun _ _ _ => ?_))
    | (with_reducible refine HK.cP (fun _ _ => ?_))
    | (with_reducible refine HK.cT ?_ (fun _ _ _ => ?_) (fun _ _ _ => ?_))
    | (with_reducible refine HK.cL (HK.yl (fun _ _ _ => ?_) _ _ _ ?_) (fun _ _ _ => ?_) (fun _ _ _ => ?_))
    | (with_reducible refine HK.cQ (fun _ => ?_) (fun _ => ?_))
    | (with_reducible refine HK.soU ?_)
    | (with_reducible refine HK.soP ?_)
    | (with_reducible refine HK.so1 ?_)
    | (with_reducible refine HK.so2 ?_)
    | (with_reducible refine HK.so3 ?_)
    | (with_reducible refine KP.up ?_ ?_)
    | (exact fun h => by have := hP _ _ h; omega)
    | (exact fun q h => by have := hP _ _ h; omega))

theorem kan_J84_61 (hP : ∀ a q, P a q → a < 8 ∨ 169 ≤ a) {f : Nat} {A : Nat} {a1 : Nat} {x2 : Int} {m : yM} (hm : KP P m0 m) : HK mB (KP P m0) (J84_61 f A a1 x2 m) := by
  unfold J84_61
  repeat' (first
    | (with_reducible assumption)
    | (exact HK.no)
    | (with_reducible refine HK.ite (fun _ => ?_) (fun _ => ?_))
    | (with_reducible refine HK.cU ?_ (fun _ _ => ?_))
    | (with_reducible refine HK.cI ?_ (fun _ _ _ => ?_))
    | (with_reducible refine HK.cP (fun _ _ => ?_))
    | (with_reducible refine HK.cT ?_ (fun _ _ _ => ?_) (fun _ _ _ => ?_))
    | (with_reducible refine HK.cL (HK.yl (fun _ _ _ => ?_) _ _ _ ?_) (fun _ _ _ => ?_) (fun _ _ _ => ?_))
    | (with_reducible refine HK.cQ (fun _ => ?_) (fun _ => ?_))
    | (with_reducible refine HK.soU ?_)
    | (with_reducible refine HK.soP ?_)
    | (with_reducible refine HK.so1 ?_)
    | (with_reducible refine HK.so2 ?_)
    | (with_reducible refine HK.so3 ?_)
    | (with_reducible refine KP.up ?_ ?_)
    | (exact fun h => by have := hP _ _ h; omega)
    | (exact fun q h => by have := hP _ _ h; omega))

theorem kan_B84_2 (hP : ∀ a q, P a q → a < 8 ∨ 169 ≤ a) {f : Nat} {A : Nat} {a1 : Nat} {x2 : Int} {m : yM} (hm : KP P m0 m) : HK mB (KP P m0) (B84_2 f A a1 x2 m) := by
  unfold B84_2
  repeat' (first
    | (with_reducible assumption)
    | (with_reducible refine kan_J84_61 hP ?_)
    | (with_reducible refine kan_F80_12_12 hP ?_ ?_)
    | (exact HK.no)
    | (with_reducible refine HK.ite (fun _ => ?_) (fun _ => ?_))
    | (with_reducible refine HK.cU ?_ (fun _ _ => ?_))
    | (with_reducible refine HK.cI ?_ (fun _ _ _ => ?_))
    | (with_reducible refine HK.cP (fun _ _ => ?_))
    | (with_reducible refine HK.cT ?_ (fun _ _ _ => ?_) (fun _ _ _ => ?_))
    | (with_reducible refine HK.cL (HK.yl (fun _ _ _ => ?_) _ _ _ ?_) (fun _ _ _ => ?_) (fun _ _ _ => ?_))
    | (with_reducible refine HK.cQ (fun _ => ?_) (fun _ => ?_))
    | (with_reducible refine HK.soU ?_)
    | (with_reducible refine HK.soP ?_)
    | (with_reducible refine HK.so1 ?_)
    | (with_reducible refine HK.so2 ?_)
    | (with_reducible refine HK.so3 ?_)
    | (with_reducible refine KP.up ?_ ?_)
    | (exact fun h => by have := hP _ _ h; omega)
    | (exact fun q h => by have := hP _ _ h; omega))

theorem kan_F84 (hP : ∀ a q, P a q → a < 8 ∨ 169 ≤ a) {f : Nat} {A : Nat} {a1 : Nat} {m : yM} (hm : KP P m0 m) : HK id (KP P m0) (F84 f A a1 m) := by
  unfold F84
  repeat' (first
    | (with_reducible assumption)
    | (with_reducible refine kan_B84_2 hP ?_)
    | (exact HK.no)
    | (with_reducible refine HK.ite (fun _ => ?_) (fun _ => ?_))
    | (with_reducible refine HK.cU ?_ (fun _ _ => ?_))
    | (with_reducible refine HK.cI ?_ (fun _ _ _ => ?_))
    | (with_reducible refine HK.cP (fun _ _ => ?_))
    | (with_reducible refine HK.cT ?_ (fun _ _ _ => ?_) (fun _ _ _ => ?_))
    | (with_reducible refine HK.cL (HK.yl (fun _ _ _ => ?_) _ _ _ ?_) (fun _ _ _ => ?_) (fun _ _ _ => ?_))
    | (with_reducible refine HK.cQ (fun _ => ?_) (fun _ => ?_))
    | (with_reducible refine HK.soU ?_)
    | (with_reducible refine HK.soP ?_)
    | (with_reducible refine HK.so1 ?_)
    | (with_reducible refine HK.so2 ?_)
    | (with_reducible refine HK.so3 ?_)
    | (with_reducible refine KP.up ?_ ?_)
    | (exact fun h => by have := hP _ _ h; omega)
    | (exact fun q h => by have := hP _ _ h; omega))

theorem kan_F90 (hP : ∀ a q, P a q → a < 8 ∨ 169 ≤ a) {f : Nat} {A : Nat} {a1 : Nat} {m : yM} (hm : KP P m0 m) : HK id (KP P m0) (F90 f A a1 m) := by
  unfold F90
  repeat' (first
    | (with_reducible assumption)
    | (with_reducible refine kan_F80_12_12 hP ?_ ?_)
    | (with_reducible refine kan_F85 hP ?_)
    | (with_reducible refine kan_F86 hP ?_)
    | (with_reducible refine kan_F89 hP ?_)
    | (with_reducible refine kan_F79_12 hP ?_ ?_)
    | (with_reducible refine kan_F82 hP ?_)
    | (with_reducible refine kan_F84 hP ?_)
    | (exact HK.no)
    | (with_reducible refine HK.ite (fun _ => ?_) (fun _ => ?_))
    | (with_reducible refine HK.cU ?_ (fun _ _ => ?_))
    | (with_reducible refine HK.cI ?_ (fun _ _ _ => ?_))
    | (with_reducible refine HK.cP (fun _ _ => ?_))
    | (with_reducible refine HK.cT ?_ (fun _ _ _ => ?_) (fun _ _ _ => ?_))
    | (with_reducible refine HK.cL (HK.yl (fun _ _ _ => ?_) _ _ _ ?_) (fun _ _ _ => ?_) (fun _ _ _ => ?_))
    | (with_reducible refine HK.cQ (fun _ => ?_) (fun _ => ?_))
    | (with_reducible refine HK.soU ?_)
    | (with_reducible refine HK.soP ?_)
    | (with_reducible refine HK.so1 ?_)
    | (with_reducible refine HK.so2 ?_)
    | (with_reducible refine HK.so3 ?_)
    | (with_reducible refine KP.up ?_ ?_)
    | (exact fun h => by have := hP _ _ h; omega)
    | (exact fun q h => by have := hP _ _ h; omega))

theorem kan_J91_130 (hP : ∀ a q, P a q → a < 8 ∨ 169 ≤ a) {f : Nat} {A : Nat} {x2 : Int} {m : yM} (hm : KP P m0 m) : HK mB (KP P m0) (J91_130 f A x2 m) := by
  unfold J91_130
  repeat' (first
    | (with_reducible assumption)
    | (exact HK.no)
    | (with_reducible refine HK.ite (fun _ => ?_) (fun _ => ?_))
    | (with_reducible refine HK.cU ?_ (fun _ _ => ?_))
    | (with_reducible refine HK.cI ?_ (fun _ _ _ => ?_))
    | (with_reducible refine HK.cP (fun _ _ => ?_))
    | (with_reducible refine HK.cT ?_ (fun _ _ _ => ?_) (fun _ _ _ => ?_))
    | (with_reducible refine HK.cL (HK.yl (fun _ _ _ => ?_) _ _ _ ?_) (fun _ _ _ => ?_) (fun _ _ _ => ?_))
    | (with_reducible refine HK.cQ (fun _ => ?_) (fun _ => ?_))
    | (with_reducible refine HK.soU ?_)
    | (with_reducible refine HK.soP ?_)
    | (with_reducible refine HK.so1 ?_)
    | (with_reducible refine HK.so2 ?_)
    | (with_reducible refine HK.so3 ?_)
    | (with_reducible refine KP.up ?_ ?_)
    | (exact fun h => by have := hP _ _ h; omega)
    | (exact fun q h => by have := hP _ _ h; omega))

theorem kan_B91_88 (hP : ∀ a q, P a q → a < 8 ∨ 169 ≤ a) {f : Nat} {A : Nat} {x2 : Int} {m : yM} (hm : KP P m0 m) : HK mB (KP P m0) (B91_88 f A x2 m) := by
  unfold B91_88
  repeat' (first
    | (with_reducible assumption)
    | (with_reducible refine kan_J91_130 hP ?_)
    | (with_reducible refine kan_F90 hP ?_)
    | (exact HK.no)
    | (with_reducible refine HK.ite (fun _ => ?_) (fun _ => ?_))
    | (with_reducible refine HK.cU ?_ (fun _ _ => ?_))
    | (with_reducible refine HK.cI ?_ (fun _ _ _ => ?_))
    | (with_reducible refine HK.cP (fun _ _ => ?_))
    | (with_reducible refine HK.cT ?_ (fun _ _ _ => ?_) (fun _ _ _ => ?_))
    | (with_reducible refine HK.cL (HK.yl (fun _ _ _ => ?_) _ _ _ ?_) (fun _ _ _ => ?_) (fun _ _ _ => ?_))
    | (with_reducible refine HK.cQ (fun _ => ?_) (fun _ => ?_))
    | (with_reducible refine HK.soU ?_)
    | (with_reducible refine HK.soP ?_)
    | (with_reducible refine HK.so1 ?_)
    | (with_reducible refine HK.so2 ?_)
    | (with_reducible refine HK.so3 ?_)
    | (with_reducible refine KP.up ?_ ?_)
    | (exact fun h => by have := hP _ _ h; omega)
    | (exact fun q h => by have := hP _ _ h; omega))

theorem kan_B91_65 (hP : ∀ a q, P a q → a < 8 ∨ 169 ≤ a) {f : Nat} {A : Nat} {m : yM} (hm : KP P m0 m) : HK mB (KP P m0) (B91_65 f A m) := by
  unfold B91_65
  repeat' (first
    | (with_reducible assumption)
    | (with_reducible refine kan_B91_88 hP ?_)
    | (exact HK.no)
    | (with_reducible refine HK.ite (fun _ => ?_) (fun _ => ?_))
    | (with_reducible refine HK.cU ?_ (fun _ _ => ?_))
    | (with_reducible refine HK.cI ?_ (fun _ _ _ => ?_))
    | (with_reducible refine HK.cP (fun _ _ => ?_))
    | (with_reducible refine HK.cT ?_ (fun _ _ _ => ?_) (fun _ _ _ => ?_))
    | (with_reducible refine HK.cL (HK.yl (fun _ _ _ => ?_) _ _ _ ?_) (fun _ _ _ => ?_) (fun _ _ _ => ?_))
    | (with_reducible refine HK.cQ (fun _ => ?_) (fun _ => ?_))
    | (with_reducible refine HK.soU ?_)
    | (with_reducible refine HK.soP ?_)
    | (with_reducible refine HK.so1 ?_)
    | (with_reducible refine HK.so2 ?_)
    | (with_reducible refine HK.so3 ?_)
    | (with_reducible refine KP.up ?_ ?_)
    | (exact fun h => by have := hP _ _ h; omega)
    | (exact fun q h => by have := hP _ _ h; omega))

theorem kan_F91 (hP : ∀ a q, P a q → a < 8 ∨ 169 ≤ a) {f : Nat} {A : Nat} {m : yM} (hm : KP P m0 m) : HK id (KP P m0) (F91 f A m) := by
  unfold F91
  repeat' (first
    | (with_reducible assumption)
    | (with_reducible refine kan_F77 hP ?_)
    | (with_reducible refine kan_B91_65 hP ?_)
    | (exact HK.no)
    | (with_reducible refine HK.ite (fun _ => ?_) (fun _ => ?_))
    | (with_reducible refine HK.cU ?_ (fun _ _ => ?_))
    | (with_reducible refine HK.cI ?_ (fun _ _ _ => ?_))
    | (with_reducible refine HK.cP (fun _ _ => ?_))
    | (with_reducible refine HK.cT ?_ (fun _ _ _ => ?_) (fun _ _ _ => ?_))
    | (with_reducible refine HK.cL (HK.yl (fun _ _ _ => ?_) _ _ _ ?_) (fun _ _ _ => ?_) (fun _ _ _ => ?_))
    | (with_reducible refine HK.cQ (fun _ => ?_) (fun _ => ?_))
    | (with_reducible refine HK.soU ?_)
    | (with_reducible refine HK.soP ?_)
    | (with_reducible refine HK.so1 ?_)
    | (with_reducible refine HK.so2 ?_)
    | (with_reducible refine HK.so3 ?_)
    | (with_reducible refine KP.up ?_ ?_)
    | (exact fun h => by have := hP _ _ h; omega)
    | (exact fun q h => by have := hP _ _ h; omega))

end FRan

section FRsn
variable {P : Nat → Nat → Prop} {m0 : yM}

theorem ksn_B75_12_5 (hP : ∀ a q, P a q → a < 169 ∨ 256 ≤ a) {f : Nat} {a0 : Nat} {x1 : Int} {x3 : Int} {x2 : Int} (ha0 : ∀ q, ¬ P a0 q) {m : yM} (hm : KP P m0 m) : HK mB (KP P m0) (B75_12_5 f a0 x1 x3 x2 m) := by
  unfold B75_12_5
  repeat' (first
    | (with_reducible assumption)
    | (exact HK.no)
    | (with_reducible refine HK.ite (fun _ => ?_) (fun _ => ?_))
    | (with_reducible refine HK.cU ?_ (fun _ _ => ?_))
    | (with_reducible refine HK.cI ?_ (fun _ _ _ => ?_))
    | (with_reducible refine HK.cP (fun _ _ => ?_))
    | (with_reducible refine HK.cT ?_ (fun _ _ _ => ?_) (fun _ _ _ => ?_))
    | (with_reducible refine HK.cL (HK.yl (fun _ _ _ => ?_) _ _ _ ?_) (fun _ _ _ => ?_) (fun _ _ _ => ?_))
    | (with_reducible refine HK.cQ (fun _ => ?_) (fun _ => ?_))
    | (with_reducible refine HK.soU ?_)
    | (with_reducible refine HK.soP ?_)
    | (with_reducible refine HK.so1 ?_)
    | (with_reducible refine HK.so2 ?_)
    | (with_reducible refine HK.so3 ?_)
    | (with_reducible refine KP.up ?_ ?_)
    | (exact ha0 _)
    | (exact fun h => by have := hP _ _ h; omega)
    | (exact fun q h => by have := hP _ _ h; omega))

theorem ksn_F75_12 (hP : ∀ a q, P a q → a < 169 ∨ 256 ≤ a) {f : Nat} {a0 : Nat} {x1 : Int} (ha0 : ∀ q, ¬ P a0 q) {m : yM} (hm : KP P m0 m) : HK id (KP P m0) (F75_12 f a0 x1 m) := by
  unfold F75_12
  repeat' (first
    | (with_reducible assumption)
    | (with_reducible refine ksn_B75_12_5 hP ?_ ?_)
    | (exact HK.no)
    | (with_reducible refine HK.ite (fun _ => ?_) (fun _ => ?_))
    | (with_reducible refine HK.cU ?_ (fun _ _ => ?_))
    | (with_reducible refine HK.cI ?_ (fun _ _ _ => ?_))
    | (with_reducible refine HK.cP (fun _ _ => ?_))
    | (with_reducible refine HK.cT ?_ (fun _ _ _ => ?_) (fun _ _ _ => ?_))
    | (with_reducible refine HK.cL (HK.yl (fun _ _ _ => ?_) _ _ _ ?_) (fun _ _ _ => ?_) (fun _ _ _ => ?_))
    | (with_reducible refine HK.cQ (fun _ => ?_) (fun _ => ?_))
    | (with_reducible refine HK.soU ?_)
    | (with_reducible refine HK.soP ?_)
    | (with_reducible refine HK.so1 ?_)
    | (with_reducible refine HK.so2 ?_)
    | (with_reducible refine HK.so3 ?_)
    | (with_reducible refine KP.up ?_ ?_)
    | (exact ha0 _)
    | (exact fun h => by have := hP _ _ h; omega)
    | (exact fun q h => by have := hP _ _ h; omega))

theorem ksn_B92_2 (hP : ∀ a q, P a q → a < 169 ∨ 256 ≤ a) {f : Nat} {x1 : Int} {m : yM} (hm : KP P m0 m) : HK mB (KP P m0) (B92_2 f x1 m) := by
  unfold B92_2
  repeat' (first
    | (with_reducible assumption)
    | (with_reducible refine ksn_F75_12 hP ?_ ?_)
    | (exact HK.no)
    | (with_reducible refine HK.ite (fun _ => ?_) (fun _ => ?_))
    | (with_reducible refine HK.cU ?_ (fun _ _ => ?_))
    | (with_reducible refine HK.cI ?_ (fun _ _ _ => ?_))
    | (with_reducible refine HK.cP (fun _ _ => ?_))
    | (with_reducible refine HK.cT ?_ (fun _ _ _ => ?_) (fun _ _ _ => ?_))
    | (with_reducible refine HK.cL (HK.yl (fun _ _ _ => ?_) _ _ _ ?_) (fun _ _ _ => ?_) (fun _ _ _ => ?_))
    | (with_reducible refine HK.cQ (fun _ => ?_) (fun _ => ?_))
    | (with_reducible refine HK.soU ?_)
    | (with_reducible refine HK.soP ?_)
    | (with_reducible refine HK.so1 ?_)
    | (with_reducible refine HK.so2 ?_)
    | (with_reducible refine HK.so3 ?_)
    | (with_reducible refine KP.up ?_ ?_)
    | (exact fun h => by have := hP _ _ h; omega)
    | (exact fun q h => by have := hP _ _ h; omega))

theorem ksn_F92 (hP : ∀ a q, P a q → a < 169 ∨ 256 ≤ a) {f : Nat} {m : yM} (hm : KP P m0 m) : HK id (KP P m0) (F92 f m) := by
  unfold F92
  repeat' (first
    | (with_reducible assumption)
    | (with_reducible refine ksn_B92_2 hP ?_)
    | (exact HK.no)
    | (with_reducible refine HK.ite (fun _ => ?_) (fun _ => ?_))
    | (with_reducible refine HK.cU ?_ (fun _ _ => ?_))
    | (with_reducible refine HK.cI ?_ (fun _ _ _ => ?_))
    | (with_reducible refine HK.cP (fun _ _ => ?_))
    | (with_reducible refine HK.cT ?_ (fun _ _ _ => ?_) (fun _ _ _ => ?_))
    | (with_reducible refine HK.cL (HK.yl (fun _ _ _ => ?_) _ _ _ ?_) (fun _ _ _ => ?_) (fun _ _ _ => ?_))
    | (with_reducible refine HK.cQ (fun _ => ?_) (fun _ => ?_))
    | (with_reducible refine HK.soU ?_)
    | (with_reducible refine HK.soP ?_)
    | (with_reducible refine HK.so1 ?_)
    | (with_reducible refine HK.so2 ?_)
    | (with_reducible refine HK.so3 ?_)
    | (with_reducible refine KP.up ?_ ?_)
    | (exact fun h => by have := hP _ _ h; omega)
    | (exact fun q h => by have := hP _ _ h; omega))

end FRsn

section FRru
variable {P : Nat → Nat → Prop} {m0 : yM}

theorem kru_B75_12_5 (hP : ∀ a q, P a q → a < 169 ∨ (256 ≤ a ∧ a ≠ 413)) {f : Nat} {a0 : Nat} {x1 : Int} {x3 : Int} {x2 : Int} (ha0 : ∀ q, ¬ P a0 q) {m : yM} (hm : KP P m0 m) : HK mB (KP P m0) (B75_12_5 f a0 x1 x3 x2 m) := by
  unfold B75_12_5
  repeat' (first
    | (with_reducible assumption)
    | (exact HK.no)
    | (with_reducible refine HK.ite (fun _ => ?_) (fun _ => ?_))
    | (with_reducible refine HK.cU ?_ (fun _ _ => ?_))
    | (with_reducible refine HK.cI ?_ (fun _ _ _ => ?_))
    | (with_reducible refine HK.cP (fun _ _ => ?_))
    | (with_reducible refine HK.cT ?_ (fun _ _ _ => ?_) (fun _ _ _ => ?_))
    | (with_reducible refine HK.cL (HK.yl (fun _ _ _ => ?_) _ _ _ ?_) (fun _ _ _ => ?_) (fun _ _ _ => ?_))
    | (with_reducible refine HK.cQ (fun _ => ?_) (fun _ => ?_))
    | (with_reducible refine HK.soU ?_)
    | (with_reducible refine HK.soP ?_)
    | (with_reducible refine HK.so1 ?_)
    | (with_reducible refine HK.so2 ?_)
    | (with_reducible refine HK.so3 ?_)
    | (with_reducible refine KP.up ?_ ?_)
    | (exact ha0 _)
    | (exact fun h => by have := hP _ _ h; omega)
    | (exact fun q h => by have := hP _ _ h; omega))

theorem kru_F75_12 (hP : ∀ a q, P a q → a < 169 ∨ (256 ≤ a ∧ a ≠ 413)) {f : Nat} {a0 : Nat} {x1 : Int} (ha0 : ∀ q, ¬ P a0 q) {m : yM} (hm : KP P m0 m) : HK id (KP P m0) (F75_12 f a0 x1 m) := by
  unfold F75_12
  repeat' (first
    | (with_reducible assumption)
    | (with_reducible refine kru_B75_12_5 hP ?_ ?_)
    | (exact HK.no)
    | (with_reducible refine HK.ite (fun _ => ?_) (fun _ => ?_))
    | (with_reducible refine HK.cU ?_ (fun _ _ => ?_))
    | (with_reducible refine HK.cI ?_ (fun _ _ _ => ?_))
    | (with_reducible refine HK.cP (fun _ _ => ?_))
    | (with_reducible refine HK.cT ?_ (fun _ _ _ => ?_) (fun _ _ _ => ?_))
    | (with_reducible refine HK.cL (HK.yl (fun _ _ _ => ?_) _ _ _ ?_) (fun _ _ _ => ?_) (fun _ _ _ => ?_))
    | (with_reducible refine HK.cQ (fun _ => ?_) (fun _ => ?_))
    | (with_reducible refine HK.soU ?_)
    | (with_reducible refine HK.soP ?_)
    | (with_reducible refine HK.so1 ?_)
    | (with_reducible refine HK.so2 ?_)
    | (with_reducible refine HK.so3 ?_)
    | (with_reducible refine KP.up ?_ ?_)
    | (exact ha0 _)
    | (exact fun h => by have := hP _ _ h; omega)
    | (exact fun q h => by have := hP _ _ h; omega))

theorem kru_B92_2 (hP : ∀ a q, P a q → a < 169 ∨ (256 ≤ a ∧ a ≠ 413)) {f : Nat} {x1 : Int} {m : yM} (hm : KP P m0 m) : HK mB (KP P m0) (B92_2 f x1 m) := by
  unfold B92_2
  repeat' (first
    | (with_reducible assumption)
    | (with_reducible refine kru_F75_12 hP ?_ ?_)
    | (exact HK.no)
    | (with_reducible refine HK.ite (fun _ => ?_) (fun _ => ?_))
    | (with_reducible refine HK.cU ?_ (fun _ _ => ?_))
    | (with_reducible refine HK.cI ?_ (fun _ _ _ => ?_))
    | (with_reducible refine HK.cP (fun _ _ => ?_))
    | (with_reducible refine HK.cT ?_ (fun _ _ _ => ?_) (fun _ _ _ => ?_))
    | (with_reducible refine HK.cL (HK.yl (fun _ _ _ => ?_) _ _ _ ?_) (fun _ _ _ => ?_) (fun _ _ _ => ?_))
    | (with_reducible refine HK.cQ (fun _ => ?_) (fun _ => ?_))
    | (with_reducible refine HK.soU ?_)
    | (with_reducible refine HK.soP ?_)
    | (with_reducible refine HK.so1 ?_)
    | (with_reducible refine HK.so2 ?_)
    | (with_reducible refine HK.so3 ?_)
    | (with_reducible refine KP.up ?_ ?_)
    | (exact fun h => by have := hP _ _ h; omega)
    | (exact fun q h => by have := hP _ _ h; omega))

theorem kru_F92 (hP : ∀ a q, P a q → a < 169 ∨ (256 ≤ a ∧ a ≠ 413)) {f : Nat} {m : yM} (hm : KP P m0 m) : HK id (KP P m0) (F92 f m) := by
  unfold F92
  repeat' (first
    | (with_reducible assumption)
    | (with_reducible refine kru_B92_2 hP ?_)
    | (exact HK.no)
    | (with_reducible refine HK.ite (fun _ => ?_) (fun _ => ?_))
    | (with_reducible refine HK.cU ?_ (fun _ _ => ?_))
    | (with_reducible refine HK.cI ?_ (fun _ _ _ => ?_))
    | (with_reducible refine HK.cP (fun _ _ => ?_))
    | (with_reducible refine HK.cT ?_ (fun _ _ _ => ?_) (fun _ _ _ => ?_))
    | (with_reducible refine HK.cL (HK.yl (fun _ _ _ => ?_) _ _ _ ?_) (fun _ _ _ => ?_) (fun _ _ _ => ?_))
    | (with_reducible refine HK.cQ (fun _ => ?_) (fun _ => ?_))
    | (with_reducible refine HK.soU ?_)
    | (with_reducible refine HK.soP ?_)
    | (with_reducible refine HK.so1 ?_)
    | (with_reducible refine HK.so2 ?_)
    | (with_reducible refine HK.so3 ?_)
    | (with_reducible refine KP.up ?_ ?_)
    | (exact fun h => by have := hP _ _ h; omega)
    | (exact fun q h => by have := hP _ _ h; omega))

theorem kru_B75_8_5 (hP : ∀ a q, P a q → a < 169 ∨ (256 ≤ a ∧ a ≠ 413)) {f : Nat} {a0 : Nat} {x1 : Int} {x3 : Int} {x2 : Int} (ha0 : ∀ q, ¬ P a0 q) {m : yM} (hm : KP P m0 m) : HK mB (KP P m0) (B75_8_5 f a0 x1 x3 x2 m) := by
  unfold B75_8_5
  repeat' (first
    | (with_reducible assumption)
    | (exact HK.no)
    | (with_reducible refine HK.ite (fun _ => ?_) (fun _ => ?_))
    | (with_reducible refine HK.cU ?_ (fun _ _ => ?_))
    | (with_reducible refine HK.cI ?_ (fun _ _ _ => ?_))
    | (with_reducible refine HK.cP (fun _ _ => ?_))
    | (with_reducible refine HK.cT ?_ (fun _ _ _ => ?_) (fun _ _ _ => ?_))
    | (with_reducible refine HK.cL (HK.yl (fun _ _ _ => ?_) _ _ _ ?_) (fun _ _ _ => ?_) (fun _ _ _ => ?_))
    | (with_reducible refine HK.cQ (fun _ => ?_) (fun _ => ?_))
    | (with_reducible refine HK.soU ?_)
    | (with_reducible refine HK.soP ?_)
    | (with_reducible refine HK.so1 ?_)
    | (with_reducible refine HK.so2 ?_)
    | (with_reducible refine HK.so3 ?_)
    | (with_reducible refine KP.up ?_ ?_)
    | (exact ha0 _)
    | (exact fun h => by have := hP _ _ h; omega)
    | (exact fun q h => by have := hP _ _ h; omega))

theorem kru_F75_8 (hP : ∀ a q, P a q → a < 169 ∨ (256 ≤ a ∧ a ≠ 413)) {f : Nat} {a0 : Nat} {x1 : Int} (ha0 : ∀ q, ¬ P a0 q) {m : yM} (hm : KP P m0 m) : HK id (KP P m0) (F75_8 f a0 x1 m) := by
  unfold F75_8
  repeat' (first
    | (with_reducible assumption)
    | (with_reducible refine kru_B75_8_5 hP ?_ ?_)
    | (exact HK.no)
    | (with_reducible refine HK.ite (fun _ => ?_) (fun _ => ?_))
    | (with_reducible refine HK.cU ?_ (fun _ _ => ?_))
    | (with_reducible refine HK.cI ?_ (fun _ _ _ => ?_))
    | (with_reducible refine HK.cP (fun _ _ => ?_))
    | (with_reducible refine HK.cT ?_ (fun _ _ _ => ?_) (fun _ _ _ => ?_))
    | (with_reducible refine HK.cL (HK.yl (fun _ _ _ => ?_) _ _ _ ?_) (fun _ _ _ => ?_) (fun _ _ _ => ?_))
    | (with_reducible refine HK.cQ (fun _ => ?_) (fun _ => ?_))
    | (with_reducible refine HK.soU ?_)
    | (with_reducible refine HK.soP ?_)
    | (with_reducible refine HK.so1 ?_)
    | (with_reducible refine HK.so2 ?_)
    | (with_reducible refine HK.so3 ?_)
    | (with_reducible refine KP.up ?_ ?_)
    | (exact ha0 _)
    | (exact fun h => by have := hP _ _ h; omega)
    | (exact fun q h => by have := hP _ _ h; omega))

theorem kru_F186 (hP : ∀ a q, P a q → a < 169 ∨ (256 ≤ a ∧ a ≠ 413)) {f : Nat} {x1 : Int} {m : yM} (hm : KP P m0 m) : HK (fun x => x.2) (KP P m0) (F186 f x1 m) := by
  unfold F186
  repeat' (first
    | (with_reducible assumption)
    | (with_reducible refine kru_F75_8 hP ?_ ?_)
    | (exact HK.no)
    | (with_reducible refine HK.ite (fun _ => ?_) (fun _ => ?_))
    | (with_reducible refine HK.cU ?_ (fun _ _ => ?_))
    | (with_reducible refine HK.cI ?_ (fun _ _ _ => ?_))
    | (with_reducible refine HK.cP (fun _ _ => ?_))
    | (with_reducible refine HK.cT ?_ (fun _ _ _ => ?_) (fun _ _ _ => ?_))
    | (with_reducible refine HK.cL (HK.yl (fun _ _ _ => ?_) _ _ _ ?_) (fun _ _ _ => ?_) (fun _ _ _ => ?_))
    | (with_reducible refine HK.cQ (fun _ => ?_) (fun _ => ?_))
    | (with_reducible refine HK.soU ?_)
    | (with_reducible refine HK.soP ?_)
    | (with_reducible refine HK.so1 ?_)
    | (with_reducible refine HK.so2 ?_)
    | (with_reducible refine HK.so3 ?_)
    | (with_reducible refine KP.up ?_ ?_)
    | (exact fun h => by have := hP _ _ h; omega)
    | (exact fun q h => by have := hP _ _ h; omega))

theorem kru_B75_48_5 (hP : ∀ a q, P a q → a < 169 ∨ (256 ≤ a ∧ a ≠ 413)) {f : Nat} {a0 : Nat} {x1 : Int} {x3 : Int} {x2 : Int} (ha0 : ∀ q, ¬ P a0 q) {m : yM} (hm : KP P m0 m) : HK mB (KP P m0) (B75_48_5 f a0 x1 x3 x2 m) := by
  unfold B75_48_5
  repeat' (first
    | (with_reducible assumption)
    | (exact HK.no)
    | (with_reducible refine HK.ite (fun _ => ?_) (fun _ => ?_))
    | (with_reducible refine HK.cU ?_ (fun _ _ => ?_))
    | (with_reducible refine HK.cI ?_ (fun _ _ _ => ?_))
    | (with_reducible refine HK.cP (fun _ _ => ?_))
    | (with_reducible refine HK.cT ?_ (fun _ _ _ => ?_) (fun _ _ _ => ?_))
    | (with_reducible refine HK.cL (HK.yl (fun _ _ _ => ?_) _ _ _ ?_) (fun _ _ _ => ?_) (fun _ _ _ => ?_))
    | (with_reducible refine HK.cQ (fun _ => ?_) (fun _ => ?_))
    | (with_reducible refine HK.soU ?_)
    | (with_reducible refine HK.soP ?_)
    | (with_reducible refine HK.so1 ?_)
    | (with_reducible refine HK.so2 ?_)
    | (with_reducible refine HK.so3 ?_)
    | (with_reducible refine KP.up ?_ ?_)
    | (exact ha0 _)
    | (exact fun h => by have := hP _ _ h; omega)
    | (exact fun q h => by have := hP _ _ h; omega))

theorem kru_F75_48 (hP : ∀ a q, P a q → a < 169 ∨ (256 ≤ a ∧ a ≠ 413)) {f : Nat} {a0 : Nat} {x1 : Int} (ha0 : ∀ q, ¬ P a0 q) {m : yM} (hm : KP P m0 m) : HK id (KP P m0) (F75_48 f a0 x1 m) := by
  unfold F75_48
  repeat' (first
    | (with_reducible assumption)
    | (with_reducible refine kru_B75_48_5 hP ?_ ?_)
    | (exact HK.no)
    | (with_reducible refine HK.ite (fun _ => ?_) (fun _ => ?_))
    | (with_reducible refine HK.cU ?_ (fun _ _ => ?_))
    | (with_reducible refine HK.cI ?_ (fun _ _ _ => ?_))
    | (with_reducible refine HK.cP (fun _ _ => ?_))
    | (with_reducible refine HK.cT ?_ (fun _ _ _ => ?_) (fun _ _ _ => ?_))
    | (with_reducible refine HK.cL (HK.yl (fun _ _ _ => ?_) _ _ _ ?_) (fun _ _ _ => ?_) (fun _ _ _ => ?_))
    | (with_reducible refine HK.cQ (fun _ => ?_) (fun _ => ?_))
    | (with_reducible refine HK.soU ?_)
    | (with_reducible refine HK.soP ?_)
    | (with_reducible refine HK.so1 ?_)
    | (with_reducible refine HK.so2 ?_)
    | (with_reducible refine HK.so3 ?_)
    | (with_reducible refine KP.up ?_ ?_)
    | (exact ha0 _)
    | (exact fun h => by have := hP _ _ h; omega)
    | (exact fun q h => by have := hP _ _ h; omega))

theorem kru_F187 (hP : ∀ a q, P a q → a < 169 ∨ (256 ≤ a ∧ a ≠ 413)) {f : Nat} {x1 : Int} {m : yM} (hm : KP P m0 m) : HK (fun x => x.2) (KP P m0) (F187 f x1 m) := by
  unfold F187
  repeat' (first
    | (with_reducible assumption)
    | (with_reducible refine kru_F75_48 hP ?_ ?_)
    | (exact HK.no)
    | (with_reducible refine HK.ite (fun _ => ?_) (fun _ => ?_))
    | (with_reducible refine HK.cU ?_ (fun _ _ => ?_))
    | (with_reducible refine HK.cI ?_ (fun _ _ _ => ?_))
    | (with_reducible refine HK.cP (fun _ _ => ?_))
    | (with_reducible refine HK.cT ?_ (fun _ _ _ => ?_) (fun _ _ _ => ?_))
    | (with_reducible refine HK.cL (HK.yl (fun _ _ _ => ?_) _ _ _ ?_) (fun _ _ _ => ?_) (fun _ _ _ => ?_))
    | (with_reducible refine HK.cQ (fun _ => ?_) (fun _ => ?_))
    | (with_reducible refine HK.soU ?_)
    | (with_reducible refine HK.soP ?_)
    | (with_reducible refine HK.so1 ?_)
    | (with_reducible refine HK.so2 ?_)
    | (with_reducible refine HK.so3 ?_)
    | (with_reducible refine KP.up ?_ ?_)
    | (exact fun h => by have := hP _ _ h; omega)
    | (exact fun q h => by have := hP _ _ h; omega))

theorem kru_F188_48 (hP : ∀ a q, P a q → a < 169 ∨ (256 ≤ a ∧ a ≠ 413)) {f : Nat} {a1 : Nat} {x2 : Int} {x3 : Int} (ha1 : ∀ q, ¬ P a1 q) {m : yM} (hm : KP P m0 m) : HK id (KP P m0) (F188_48 f a1 x2 x3 m) := by
  unfold F188_48
  repeat' (first
    | (with_reducible assumption)
    | (exact HK.no)
    | (with_reducible refine HK.ite (fun _ => ?_) (fun _ => ?_))
    | (with_reducible refine HK.cU ?_ (fun _ _ => ?_))
    | (with_reducible refine HK.cI ?_ (fun _ _ _ => ?_))
    | (with_reducible refine HK.cP (fun _ _ => ?_))
    | (with_reducible refine HK.cT ?_ (fun _ _ _ => ?_) (fun _ _ _ => ?_))
    | (with_reducible refine HK.cL (HK.yl (fun _ _ _ => ?_) _ _ _ ?_) (fun _ _ _ => ?_) (fun _ _ _ => ?_))
    | (with_reducible refine HK.cQ (fun _ => ?_) (fun _ => ?_))
    | (with_reducible refine HK.soU ?_)
    | (with_reducible refine HK.soP ?_)
    | (with_reducible refine HK.so1 ?_)
    | (with_reducible refine HK.so2 ?_)
    | (with_reducible refine HK.so3 ?_)
    | (with_reducible refine KP.up ?_ ?_)
    | (exact ha1 _)
    | (exact fun h => by have := hP _ _ h; omega)
    | (exact fun q h => by have := hP _ _ h; omega))

theorem kru_F189 (hP : ∀ a q, P a q → a < 169 ∨ (256 ≤ a ∧ a ≠ 413)) {f : Nat} {m : yM} (hm : KP P m0 m) : HK (fun x => x.2) (KP P m0) (F189 f m) := by
  unfold F189
  repeat' (first
    | (with_reducible assumption)
    | (exact HK.no)
    | (with_reducible refine HK.ite (fun _ => ?_) (fun _ => ?_))
    | (with_reducible refine HK.cU ?_ (fun _ _ => ?_))
    | (with_reducible refine HK.cI ?_ (fun _ _ _ => ?_))
    | (with_reducible refine HK.cP (fun _ _ => ?_))
    | (with_reducible refine HK.cT ?_ (fun _ _ _ => ?_) (fun _ _ _ => ?_))
    | (with_reducible refine HK.cL (HK.yl (fun _ _ _ => ?_) _ _ _ ?_) (fun _ _ _ => ?_) (fun _ _ _ => ?_))
    | (with_reducible refine HK.cQ (fun _ => ?_) (fun _ => ?_))
    | (with_reducible refine HK.soU ?_)
    | (with_reducible refine HK.soP ?_)
    | (with_reducible refine HK.so1 ?_)
    | (with_reducible refine HK.so2 ?_)
    | (with_reducible refine HK.so3 ?_)
    | (with_reducible refine KP.up ?_ ?_)
    | (exact fun h => by have := hP _ _ h; omega)
    | (exact fun q h => by have := hP _ _ h; omega))

theorem kru_B190_13 (hP : ∀ a q, P a q → a < 169 ∨ (256 ≤ a ∧ a ≠ 413)) {f : Nat} {rc : Int → Int → Int → yM → Option ((Int ⊕ Nat) × yM)} {A : Nat} {x1 : Int} {x2 : Int} {a3 : Nat} {x4 : Int} (hrc : ∀ y0 y1 y2 m, KP P m0 m → HK (fun x => x.2) (KP P m0) (rc y0 y1 y2 m)) {m : yM} (hm : KP P m0 m) : HK mB (KP P m0) (B190_13 f rc A x1 x2 a3 x4 m) := by
  unfold B190_13
  repeat' (first
    | (with_reducible assumption)
    | (with_reducible refine kru_F189 hP ?_)
    | (with_reducible refine hrc _ _ _ _ ?_)
    | (exact HK.no)
    | (with_reducible refine HK.ite (fun _ => ?_) (fun _ => ?_))
    | (with_reducible refine HK.cU ?_ (fun _ _ => ?_))
    | (with_reducible refine HK.cI ?_ (fun _ _ _ => ?_))
    | (with_reducible refine HK.cP (fun _ _ => ?_))
    | (with_reducible refine HK.cT ?_ (fun _ _ _ => ?_) (fun _ _ _ => ?_))
    | (with_reducible refine HK.cL (HK.yl (fun _ _ _ => ?_) _ _ _ ?_) (fun _ _ _ => ?_) (fun _ _ _ => ?_))
    | (with_reducible refine HK.cQ (fun _ => ?_) (fun _ => ?_))
    | (with_reducible refine HK.soU ?_)
    | (with_reducible refine HK.soP ?_)
    | (with_reducible refine HK.so1 ?_)
    | (with_reducible refine HK.so2 ?_)
    | (with_reducible refine HK.so3 ?_)
    | (with_reducible refine KP.up ?_ ?_)
    | (exact fun h => by have := hP _ _ h; omega)
    | (exact fun q h => by have := hP _ _ h; omega))

theorem kru_F190 (hP : ∀ a q, P a q → a < 169 ∨ (256 ≤ a ∧ a ≠ 413)) {f : Nat} {rc : Int → Int → Int → yM → Option ((Int ⊕ Nat) × yM)} {A : Nat} {x1 : Int} {x2 : Int} (hrc : ∀ y0 y1 y2 m, KP P m0 m → HK (fun x => x.2) (KP P m0) (rc y0 y1 y2 m)) {m : yM} (hm : KP P m0 m) : HK (fun x => x.2) (KP P m0) (F190 f rc A x1 x2 m) := by
  unfold F190
  repeat' (first
    | (with_reducible assumption)
    | (with_reducible refine kru_B190_13 hP hrc ?_)
    | (with_reducible refine hrc _ _ _ _ ?_)
    | (exact HK.no)
    | (with_reducible refine HK.ite (fun _ => ?_) (fun _ => ?_))
    | (with_reducible refine HK.cU ?_ (fun _ _ => ?_))
    | (with_reducible refine HK.cI ?_ (fun _ _ _ => ?_))
    | (with_reducible refine HK.cP (fun _ _ => ?_))
    | (with_reducible refine HK.cT ?_ (fun _ _ _ => ?_) (fun _ _ _ => ?_))
    | (with_reducible refine HK.cL (HK.yl (fun _ _ _ => ?_) _ _ _ ?_) (fun _ _ _ => ?_) (fun _ _ _ => ?_))
    | (with_reducible refine HK.cQ (fun _ => ?_) (fun _ => ?_))
    | (with_reducible refine HK.soU ?_)
    | (with_reducible refine HK.soP ?_)
    | (with_reducible refine HK.so1 ?_)
    | (with_reducible refine HK.so2 ?_)
    | (with_reducible refine HK.so3 ?_)
    | (with_reducible refine KP.up ?_ ?_)
    | (exact fun h => by have := hP _ _ h; omega)
    | (exact fun q h => by have := hP _ _ h; omega))

theorem kru_F191 (hP : ∀ a q, P a q → a < 169 ∨ (256 ≤ a ∧ a ≠ 413)) {f : Nat} {A : Nat} {x1 : Int} {m : yM} (hm : KP P m0 m) : HK (fun x => x.2) (KP P m0) (F191 f A x1 m) := by
  unfold F191
  repeat' (first
    | (with_reducible assumption)
    | (exact HK.no)
    | (with_reducible refine HK.ite (fun _ => ?_) (fun _ => ?_))
    | (with_reducible refine HK.cU ?_ (fun _ _ => ?_))
    | (with_reducible refine HK.cI ?_ (fun _ _ _ => ?_))
    | (with_reducible refine HK.cP (fun _ _ => ?_))
    | (with_reducible refine HK.cT ?_ (fun _ _ _ => ?_) (fun _ _ _ => ?_))
    | (with_reducible refine HK.cL (HK.yl (fun _ _ _ => ?_) _ _ _ ?_) (fun _ _ _ => ?_) (fun _ _ _ => ?_))
    | (with_reducible refine HK.cQ (fun _ => ?_) (fun _ => ?_))
    | (with_reducible refine HK.soU ?_)
    | (with_reducible refine HK.soP ?_)
    | (with_reducible refine HK.so1 ?_)
    | (with_reducible refine HK.so2 ?_)
    | (with_reducible refine HK.so3 ?_)
    | (with_reducible refine KP.up ?_ ?_)
    | (exact fun h => by have := hP _ _ h; omega)
    | (exact fun q h => by have := hP _ _ h; omega))

theorem kru_F192 (hP : ∀ a q, P a q → a < 169 ∨ (256 ≤ a ∧ a ≠ 413)) {f : Nat} {A : Nat} {x1 : Int} {x2 : Int} {m : yM} (hm : KP P m0 m) : HK (fun x => x.2) (KP P m0) (F192 f A x1 x2 m) := by
  unfold F192
  repeat' (first
    | (with_reducible assumption)
    | (with_reducible refine kru_F191 hP ?_)
    | (exact HK.no)
    | (with_reducible refine HK.ite (fun _ => ?_) (fun _ => ?_))
    | (with_reducible refine HK.cU ?_ (fun _ _ => ?_))
    | (with_reducible refine HK.cI ?_ (fun _ _ _ => ?_))
    | (with_reducible refine HK.cP (fun _ _ => ?_))
    | (with_reducible refine HK.cT ?_ (fun _ _ _ => ?_) (fun _ _ _ => ?_))
    | (with_reducible refine HK.cL (HK.yl (fun _ _ _ => ?_) _ _ _ ?_) (fun _ _ _ => ?_) (fun _ _ _ => ?_))
    | (with_reducible refine HK.cQ (fun _ => ?_) (fun _ => ?_))
    | (with_reducible refine HK.soU ?_)
    | (with_reducible refine HK.soP ?_)
    | (with_reducible refine HK.so1 ?_)
    | (with_reducible refine HK.so2 ?_)
    | (with_reducible refine HK.so3 ?_)
    | (with_reducible refine KP.up ?_ ?_)
    | (exact fun h => by have := hP _ _ h; omega)
    | (exact fun q h => by have := hP _ _ h; omega))

theorem kru_J193_137 (hP : ∀ a q, P a q → a < 169 ∨ (256 ≤ a ∧ a ≠ 413)) {f : Nat} {rc : Int → Int → Int → yM → Option ((Int ⊕ Nat) × yM)} {A : Nat} {a1 : Nat} {x2 : Int} {a3 : Nat} {a6 : Nat} {a7 : Nat} (ha3 : ∀ q, ¬ P a3 q) (hrc : ∀ y0 y1 y2 m, KP P m0 m → HK (fun x => x.2) (KP P m0) (rc y0 y1 y2 m)) {m : yM} (hm : KP P m0 m) : HK (fun x => x.2) (KP P m0) (J193_137 f rc A a1 x2 a3 a6 a7 m) := by
  unfold J193_137
  repeat' (first
    | (with_reducible assumption)
    | (with_reducible refine kru_F188_48 hP ?_ ?_)
    | (with_reducible refine hrc _ _ _ _ ?_)
    | (exact HK.no)
    | (with_reducible refine HK.ite (fun _ => ?_) (fun _ => ?_))
    | (with_reducible refine HK.cU ?_ (fun _ _ => ?_))
    | (with_reducible refine HK.cI ?_ (fun _ _ _ => ?_))
    | (with_reducible refine HK.cP (fun _ _ => ?_))
    | (with_reducible refine HK.cT ?_ (fun _ _ _ => ?_) (fun _ _ _ => ?_))
    | (with_reducible refine HK.cL (HK.yl (fun _ _ _ => ?_) _ _ _ ?_) (fun _ _ _ => ?_) (fun _ _ _ => ?_))
    | (with_reducible refine HK.cQ (fun _ => ?_) (fun _ => ?_))
    | (with_reducible refine HK.soU ?_)
    | (with_reducible refine HK.soP ?_)
    | (with_reducible refine HK.so1 ?_)
    | (with_reducible refine HK.so2 ?_)
    | (with_reducible refine HK.so3 ?_)
    | (with_reducible refine KP.up ?_ ?_)
    | (exact ha3 _)
    | (exact fun h => by have := hP _ _ h; omega)
    | (exact fun q h => by have := hP _ _ h; omega))

theorem kru_J193_111 (hP : ∀ a q, P a q → a < 169 ∨ (256 ≤ a ∧ a ≠ 413)) {f : Nat} {rc : Int → Int → Int → yM → Option ((Int ⊕ Nat) × yM)} {A : Nat} {a1 : Nat} {x2 : Int} {a3 : Nat} {a6 : Nat} {a7 : Nat} (ha3 : ∀ q, ¬ P a3 q) (ha7 : ∀ q, ¬ P a7 q) (hrc : ∀ y0 y1 y2 m, KP P m0 m → HK (fun x => x.2) (KP P m0) (rc y0 y1 y2 m)) {m : yM} (hm : KP P m0 m) : HK (fun x => x.2) (KP P m0) (J193_111 f rc A a1 x2 a3 a6 a7 m) := by
  unfold J193_111
  repeat' (first
    | (with_reducible assumption)
    | (with_reducible refine kru_F188_48 hP ?_ ?_)
    | (with_reducible refine kru_J193_137 hP ?_ hrc ?_)
    | (with_reducible refine hrc _ _ _ _ ?_)
    | (exact HK.no)
    | (with_reducible refine HK.ite (fun _ => ?_) (fun _ => ?_))
    | (with_reducible refine HK.cU ?_ (fun _ _ => ?_))
    | (with_reducible refine HK.cI ?_ (fun _ _ _ => ?_))
    | (with_reducible refine HK.cP (fun _ _ => ?_))
    | (with_reducible refine HK.cT ?_ (fun _ _ _ => ?_) (fun _ _ _ => ?_))
    | (with_reducible refine HK.cL (HK.yl (fun _ _ _ => ?_) _ _ _ ?_) (fun _ _ _ => ?_) (fun _ _ _ => ?_))
    | (with_reducible refine HK.cQ (fun _ => ?_) (fun _ => ?_))
    | (with_reducible refine HK.soU ?_)
    | (with_reducible refine HK.soP ?_)
    | (with_reducible refine HK.so1 ?_)
    | (with_reducible refine HK.so2 ?_)
    | (with_reducible refine HK.so3 ?_)
    | (with_reducible refine KP.up ?_ ?_)
    | (exact ha3 _)
    | (exact ha7 _)
    | (exact fun h => by have := hP _ _ h; omega)
    | (exact fun q h => by have := hP _ _ h; omega))

theorem kru_F193 (hP : ∀ a q, P a q → a < 169 ∨ (256 ≤ a ∧ a ≠ 413)) {f : Nat} {rc : Int → Int → Int → yM → Option ((Int ⊕ Nat) × yM)} {A : Nat} {a1 : Nat} {x2 : Int} (hrc : ∀ y0 y1 y2 m, KP P m0 m → HK (fun x => x.2) (KP P m0) (rc y0 y1 y2 m)) {m : yM} (hm : KP P m0 m) : HK (fun x => x.2) (KP P m0) (F193 f rc A a1 x2 m) := by
  unfold F193
  repeat' (first
    | (with_reducible assumption)
    | (with_reducible refine kru_F191 hP ?_)
    | (with_reducible refine kru_F187 hP ?_)
    | (with_reducible refine kru_F188_48 hP ?_ ?_)
    | (with_reducible refine kru_J193_111 hP ?_ ?_ hrc ?_)
    | (with_reducible refine hrc _ _ _ _ ?_)
    | (exact HK.no)
    | (with_reducible refine HK.ite (fun _ => ?_) (fun _ => ?_))
    | (with_reducible refine HK.cU ?_ (fun _ _ => ?_))
    | (with_reducible refine HK.cI ?_ (fun _ _ _ => ?_))
    | (with_reducible refine HK.cP (fun _ _ => ?_))
    | (with_reducible refine HK.cT ?_ (fun _ _ _ => ?_) (fun _ _ _ => ?_))
    | (with_reducible refine HK.cL (HK.yl (fun _ _ _ => ?_) _ _ _ ?_) (fun _ _ _ => ?_) (fun _ _ _ => ?_))
    | (with_reducible refine HK.cQ (fun _ => ?_) (fun _ => ?_))
    | (with_reducible refine HK.soU ?_)
    | (with_reducible refine HK.soP ?_)
    | (with_reducible refine HK.so1 ?_)
    | (with_reducible refine HK.so2 ?_)
    | (with_reducible refine HK.so3 ?_)
    | (with_reducible refine KP.up ?_ ?_)
    | (exact fun h => by have := hP _ _ h; omega)
    | (exact fun q h => by have := hP _ _ h; omega))

theorem kru_F194 (hP : ∀ a q, P a q → a < 169 ∨ (256 ≤ a ∧ a ≠ 413)) {f : Nat} {A : Nat} {x1 : Int} {x2 : Int} {m : yM} (hm : KP P m0 m) : HK (fun x => x.2) (KP P m0) (F194 f A x1 x2 m) := by
  unfold F194
  repeat' (first
    | (with_reducible assumption)
    | (with_reducible refine kru_F191 hP ?_)
    | (exact HK.no)
    | (with_reducible refine HK.ite (fun _ => ?_) (fun _ => ?_))
    | (with_reducible refine HK.cU ?_ (fun _ _ => ?_))
    | (with_reducible refine HK.cI ?_ (fun _ _ _ => ?_))
    | (with_reducible refine HK.cP (fun _ _ => ?_))
    | (with_reducible refine HK.cT ?_ (fun _ _ _ => ?_) (fun _ _ _ => ?_))
    | (with_reducible refine HK.cL (HK.yl (fun _ _ _ => ?_) _ _ _ ?_) (fun _ _ _ => ?_) (fun _ _ _ => ?_))
    | (with_reducible refine HK.cQ (fun _ => ?_) (fun _ => ?_))
    | (with_reducible refine HK.soU ?_)
    | (with_reducible refine HK.soP ?_)
    | (with_reducible refine HK.so1 ?_)
    | (with_reducible refine HK.so2 ?_)
    | (with_reducible refine HK.so3 ?_)
    | (with_reducible refine KP.up ?_ ?_)
    | (exact fun h => by have := hP _ _ h; omega)
    | (exact fun q h => by have := hP _ _ h; omega))

theorem kru_F195_48 (hP : ∀ a q, P a q → a < 169 ∨ (256 ≤ a ∧ a ≠ 413)) {f : Nat} {A : Nat} {a1 : Nat} {a2 : Nat} {m : yM} (hm : KP P m0 m) : HK (fun x => x.2) (KP P m0) (F195_48 f A a1 a2 m) := by
  unfold F195_48
  repeat' (first
    | (with_reducible assumption)
    | (with_reducible refine kru_F186 hP ?_)
    | (with_reducible refine kru_F194 hP ?_)
    | (with_reducible refine kru_F192 hP ?_)
    | (exact HK.no)
    | (with_reducible refine HK.ite (fun _ => ?_) (fun _ => ?_))
    | (with_reducible refine HK.cU ?_ (fun _ _ => ?_))
    | (with_reducible refine HK.cI ?_ (fun _ _ _ => ?_))
    | (with_reducible refine HK.cP (fun _ _ => ?_))
    | (with_reducible refine HK.cT ?_ (fun _ _ _ => ?_) (fun _ _ _ => ?_))
    | (with_reducible refine HK.cL (HK.yl (fun _ _ _ => ?_) _ _ _ ?_) (fun _ _ _ => ?_) (fun _ _ _ => ?_))
    | (with_reducible refine HK.cQ (fun _ => ?_) (fun _ => ?_))
    | (with_reducible refine HK.soU ?_)
    | (with_reducible refine HK.soP ?_)
    | (with_reducible refine HK.so1 ?_)
    | (with_reducible refine HK.so2 ?_)
    | (with_reducible refine HK.so3 ?_)
    | (with_reducible refine KP.up ?_ ?_)
    | (exact fun h => by have := hP _ _ h; omega)
    | (exact fun q h => by have := hP _ _ h; omega))

theorem kru_F196 (hP : ∀ a q, P a q → a < 169 ∨ (256 ≤ a ∧ a ≠ 413)) {f : Nat} {rc : Int → Int → Int → yM → Option ((Int ⊕ Nat) × yM)} {A : Nat} {x1 : Int} {x2 : Int} (hrc : ∀ y0 y1 y2 m, KP P m0 m → HK (fun x => x.2) (KP P m0) (rc y0 y1 y2 m)) {m : yM} (hm : KP P m0 m) : HK (fun x => x.2) (KP P m0) (F196 f rc A x1 x2 m) := by
  unfold F196
  repeat' (first
    | (with_reducible assumption)
    | (with_reducible refine kru_F189 hP ?_)
    | (with_reducible refine kru_F190 hP hrc ?_)
    | (with_reducible refine kru_F188_48 hP ?_ ?_)
    | (with_reducible refine kru_F192 hP ?_)
    | (with_reducible refine kru_F193 hP hrc ?_)
    | (with_reducible refine kru_F195_48 hP ?_)
    | (with_reducible refine hrc _ _ _ _ ?_)
    | (exact HK.no)
    | (with_reducible refine HK.ite (fun _ => ?_) (fun _ => ?_))
    | (with_reducible refine HK.cU ?_ (fun _ _ => ?_))
    | (with_reducible refine HK.cI ?_ (fun _ _ _ => ?_))
    | (with_reducible refine HK.cP (fun _ _ => ?_))
    | (with_reducible refine HK.cT ?_ (fun _ _ _ => ?_) (fun _ _ _ => ?_))
    | (with_reducible refine HK.cL (HK.yl (fun _ _ _ => ?_) _ _ _ ?_) (fun _ _ _ => ?_) (fun _ _ _ => ?_))
    | (with_reducible refine HK.cQ (fun _ => ?_) (fun _ => ?_))
    | (with_reducible refine HK.soU ?_)
    | (with_reducible refine HK.soP ?_)
    | (with_reducible refine HK.so1 ?_)
    | (with_reducible refine HK.so2 ?_)
    | (with_reducible refine HK.so3 ?_)
    | (with_reducible refine KP.up ?_ ?_)
    | (exact fun h => by have := hP _ _ h; omega)
    | (exact fun q h => by have := hP _ _ h; omega))

theorem kru_B197_6 (hP : ∀ a q, P a q → a < 169 ∨ (256 ≤ a ∧ a ≠ 413)) {f : Nat} {rc : Int → Int → Int → yM → Option ((Int ⊕ Nat) × yM)} {A : Nat} {x2 : Int} {x3 : Int} {x4 : Int} {x5 : Int} (hrc : ∀ y0 y1 y2 m, KP P m0 m → HK (fun x => x.2) (KP P m0) (rc y0 y1 y2 m)) {m : yM} (hm : KP P m0 m) : HK mB (KP P m0) (B197_6 f rc A x2 x3 x4 x5 m) := by
  unfold B197_6
  repeat' (first
    | (with_reducible assumption)
    | (with_reducible refine kru_F196 hP hrc ?_)
    | (with_reducible refine hrc _ _ _ _ ?_)
    | (exact HK.no)
    | (with_reducible refine HK.ite (fun _ => ?_) (fun _ => ?_))
    | (with_reducible refine HK.cU ?_ (fun _ _ => ?_))
    | (with_reducible refine HK.cI ?_ (fun _ _ _ => ?_))
    | (with_reducible refine HK.cP (fun _ _ => ?_))
    | (with_reducible refine HK.cT ?_ (fun _ _ _ => ?_) (fun _ _ _ => ?_))
    | (with_reducible refine HK.cL (HK.yl (fun _ _ _ => ?_) _ _ _ ?_) (fun _ _ _ => ?_) (fun _ _ _ => ?_))
    | (with_reducible refine HK.cQ (fun _ => ?_) (fun _ => ?_))
    | (with_reducible refine HK.soU ?_)
    | (with_reducible refine HK.soP ?_)
    | (with_reducible refine HK.so1 ?_)
    | (with_reducible refine HK.so2 ?_)
    | (with_reducible refine HK.so3 ?_)
    | (with_reducible refine KP.up ?_ ?_)
    | (exact fun h => by have := hP _ _ h; omega)
    | (exact fun q h => by have := hP _ _ h; omega))

theorem kru_G197 (hP : ∀ a q, P a q → a < 169 ∨ (256 ≤ a ∧ a ≠ 413)) {f : Nat} {rc : Int → Int → Int → yM → Option ((Int ⊕ Nat) × yM)} {A : Nat} {x1 : Int} {x2 : Int} {x3 : Int} (hrc : ∀ y0 y1 y2 m, KP P m0 m → HK (fun x => x.2) (KP P m0) (rc y0 y1 y2 m)) {m : yM} (hm : KP P m0 m) : HK (fun x => x.2) (KP P m0) (G197 f rc A x1 x2 x3 m) := by
  unfold G197
  repeat' (first
    | (with_reducible assumption)
    | (with_reducible refine kru_B197_6 hP hrc ?_)
    | (with_reducible refine hrc _ _ _ _ ?_)
    | (exact HK.no)
    | (with_reducible refine HK.ite (fun _ => ?_) (fun _ => ?_))
    | (with_reducible refine HK.cU ?_ (fun _ _ => ?_))
    | (with_reducible refine HK.cI ?_ (fun _ _ _ => ?_))
    | (with_reducible refine HK.cP (fun _ _ => ?_))
    | (with_reducible refine HK.cT ?_ (fun _ _ _ => ?_) (fun _ _ _ => ?_))
    | (with_reducible refine HK.cL (HK.yl (fun _ _ _ => ?_) _ _ _ ?_) (fun _ _ _ => ?_) (fun _ _ _ => ?_))
    | (with_reducible refine HK.cQ (fun _ => ?_) (fun _ => ?_))
    | (with_reducible refine HK.soU ?_)
    | (with_reducible refine HK.soP ?_)
    | (with_reducible refine HK.so1 ?_)
    | (with_reducible refine HK.so2 ?_)
    | (with_reducible refine HK.so3 ?_)
    | (with_reducible refine KP.up ?_ ?_)
    | (exact fun h => by have := hP _ _ h; omega)
    | (exact fun q h => by have := hP _ _ h; omega))

theorem kru_F197 (hP : ∀ a q, P a q → a < 169 ∨ (256 ≤ a ∧ a ≠ 413)) {f A : Nat} : ∀ (g : Nat) (x0 x1 x2 : Int) (m : yM), KP P m0 m → HK (fun x => x.2) (KP P m0) (F197 f A g x0 x1 x2 m) := by
  intro g
  induction g with
  | zero => intro x0 x1 x2 m _ b e; cases e
  | succ g ih => intro x0 x1 x2 m hm; exact kru_G197 hP (fun x0 x1 x2 m hm => ih x0 x1 x2 m hm) hm

theorem kru_F198 (hP : ∀ a q, P a q → a < 169 ∨ (256 ≤ a ∧ a ≠ 413)) {f : Nat} {A : Nat} {m : yM} (hm : KP P m0 m) : HK (fun x => x.2) (KP P m0) (F198 f A m) := by
  unfold F198
  repeat' (first
    | (with_reducible assumption)
    | (with_reducible refine kru_F92 hP ?_)
    | (with_reducible refine kru_F186 hP ?_)
    | (with_reducible refine kru_F187 hP ?_)
    | (with_reducible refine kru_F188_48 hP ?_ ?_)
    | (with_reducible refine kru_F197 hP _ _ _ _ _ ?_)
    | (exact HK.no)
    | (with_reducible refine HK.ite (fun _ => ?_) (fun _ => ?_))
    | (with_reducible refine HK.cU ?_ (fun _ _ => ?_))
    | (with_reducible refine HK.cI ?_ (fun _ _ _ => ?_))
    | (with_reducible refine HK.cP (fun _ _ => ?_))
    | (with_reducible refine HK.cT ?_ (fun _ _ _ => ?_) (fun _ _ _ => ?_))
    | (with_reducible refine HK.cL (HK.yl (fun _ _ _ => ?_) _ _ _ ?_) (fun _ _ _ => ?_) (fun _ _ _ => ?_))
    | (with_reducible refine HK.cQ (fun _ => ?_) (fun _ => ?_))
    | (with_reducible refine HK.soU ?_)
    | (with_reducible refine HK.soP ?_)
    | (with_reducible refine HK.so1 ?_)
    | (with_reducible refine HK.so2 ?_)
    | (with_reducible refine HK.so3 ?_)
    | (with_reducible refine KP.up ?_ ?_)
    | (exact fun h => by have := hP _ _ h; omega)
    | (exact fun q h => by have := hP _ _ h; omega))

theorem kru_F199 (hP : ∀ a q, P a q → a < 169 ∨ (256 ≤ a ∧ a ≠ 413)) {f : Nat} {m : yM} (hm : KP P m0 m) : HK (fun x => x.2) (KP P m0) (F199 f m) := by
  unfold F199
  repeat' (first
    | (with_reducible assumption)
    | (with_reducible refine kru_F198 hP ?_)
    | (exact HK.no)
    | (with_reducible refine HK.ite (fun _ => ?_) (fun _ => ?_))
    | (with_reducible refine HK.cU ?_ (fun _ _ => ?_))
    | (with_reducible refine HK.cI ?_ (fun _ _ _ => ?_))
    | (with_reducible refine HK.cP (fun _ _ => ?_))
    | (with_reducible refine HK.cT ?_ (fun _ _ _ => ?_) (fun _ _ _ => ?_))
    | (with_reducible refine HK.cL (HK.yl (fun _ _ _ => ?_) _ _ _ ?_) (fun _ _ _ => ?_) (fun _ _ _ => ?_))
    | (with_reducible refine HK.cQ (fun _ => ?_) (fun _ => ?_))
    | (with_reducible refine HK.soU ?_)
    | (with_reducible refine HK.soP ?_)
    | (with_reducible refine HK.so1 ?_)
    | (with_reducible refine HK.so2 ?_)
    | (with_reducible refine HK.so3 ?_)
    | (with_reducible refine KP.up ?_ ?_)
    | (exact fun h => by have := hP _ _ h; omega)
    | (exact fun q h => by have := hP _ _ h; omega))

theorem kru_F200 (hP : ∀ a q, P a q → a < 169 ∨ (256 ≤ a ∧ a ≠ 413)) {f : Nat} {m : yM} (hm : KP P m0 m) : HK (fun x => x.2) (KP P m0) (F200 f m) := by
  unfold F200
  repeat' (first
    | (with_reducible assumption)
    | (with_reducible refine kru_F199 hP ?_)
    | (exact HK.no)
    | (with_reducible refine HK.ite (fun _ => ?_) (fun _ => ?_))
    | (with_reducible refine HK.cU ?_ (fun _ _ => ?_))
    | (with_reducible refine HK.cI ?_ (fun _ _ _ => ?_))
    | (with_reducible refine HK.cP (fun _ _ => ?_))
    | (with_reducible refine HK.cT ?_ (fun _ _ _ => ?_) (fun _ _ _ => ?_))
    | (with_reducible refine HK.cL (HK.yl (fun _ _ _ => ?_) _ _ _ ?_) (fun _ _ _ => ?_) (fun _ _ _ => ?_))
    | (with_reducible refine HK.cQ (fun _ => ?_) (fun _ => ?_))
    | (with_reducible refine HK.soU ?_)
    | (with_reducible refine HK.soP ?_)
    | (with_reducible refine HK.so1 ?_)
    | (with_reducible refine HK.so2 ?_)
    | (with_reducible refine HK.so3 ?_)
    | (with_reducible refine KP.up ?_ ?_)
    | (exact fun h => by have := hP _ _ h; omega)
    | (exact fun q h => by have := hP _ _ h; omega))

end FRru

section FRcq
variable {P : Nat → Nat → Prop} {m0 : yM}

theorem kcq_J158_16 (hP : ∀ a q, P a q → a ≠ 413) {f : Nat} {m : yM} (hm : KP P m0 m) : HK (fun x => x.2) (KP P m0) (J158_16 f m) := by
  unfold J158_16
  repeat' (first
    | (with_reducible assumption)
    | (exact HK.no)
    | (with_reducible refine HK.ite (fun _ => ?_) (fun _ => ?_))
    | (with_reducible refine HK.cU ?_ (fun _ _ => ?_))
    | (with_reducible refine HK.cI ?_ (fun _ _ _ => ?_))
    | (with_reducible refine HK.cP (fun _ _ => ?_))
    | (with_reducible refine HK.cT ?_ (fun _ _ _ => ?_) (fun _ _ _ => ?_))
    | (with_reducible refine HK.cL (HK.yl (fun _ _ _ => ?_) _ _ _ ?_) (fun _ _ _ => ?_) (fun _ _ _ => ?_))
    | (with_reducible refine HK.cQ (fun _ => ?_) (fun _ => ?_))
    | (with_reducible refine HK.soU ?_)
    | (with_reducible refine HK.soP ?_)
    | (with_reducible refine HK.so1 ?_)
    | (with_reducible refine HK.so2 ?_)
    | (with_reducible refine HK.so3 ?_)
    | (with_reducible refine KP.up ?_ ?_)
    | (exact fun h => by have := hP _ _ h; omega)
    | (exact fun q h => by have := hP _ _ h; omega))

theorem kcq_F158 (hP : ∀ a q, P a q → a ≠ 413) {f : Nat} {x1 : Int} {x2 : Int} {m : yM} (hm : KP P m0 m) : HK (fun x => x.2) (KP P m0) (F158 f x1 x2 m) := by
  unfold F158
  repeat' (first
    | (with_reducible assumption)
    | (with_reducible refine kcq_J158_16 hP ?_)
    | (exact HK.no)
    | (with_reducible refine HK.ite (fun _ => ?_) (fun _ => ?_))
    | (with_reducible refine HK.cU ?_ (fun _ _ => ?_))
    | (with_reducible refine HK.cI ?_ (fun _ _ _ => ?_))
    | (with_reducible refine HK.cP (fun _ _ => ?_))
    | (with_reducible refine HK.cT ?_ (fun _ _ _ => ?_) (fun _ _ _ => ?_))
    | (with_reducible refine HK.cL (HK.yl (fun _ _ _ => ?_) _ _ _ ?_) (fun _ _ _ => ?_) (fun _ _ _ => ?_))
    | (with_reducible refine HK.cQ (fun _ => ?_) (fun _ => ?_))
    | (with_reducible refine HK.soU ?_)
    | (with_reducible refine HK.soP ?_)
    | (with_reducible refine HK.so1 ?_)
    | (with_reducible refine HK.so2 ?_)
    | (with_reducible refine HK.so3 ?_)
    | (with_reducible refine KP.up ?_ ?_)
    | (exact fun h => by have := hP _ _ h; omega)
    | (exact fun q h => by have := hP _ _ h; omega))

theorem kcq_F159 (hP : ∀ a q, P a q → a ≠ 413) {f : Nat} {x1 : Int} {x2 : Int} {m : yM} (hm : KP P m0 m) : HK (fun x => x.2) (KP P m0) (F159 f x1 x2 m) := by
  unfold F159
  repeat' (first
    | (with_reducible assumption)
    | (with_reducible refine kcq_F158 hP ?_)
    | (exact HK.no)
    | (with_reducible refine HK.ite (fun _ => ?_) (fun _ => ?_))
    | (with_reducible refine HK.cU ?_ (fun _ _ => ?_))
    | (with_reducible refine HK.cI ?_ (fun _ _ _ => ?_))
    | (with_reducible refine HK.cP (fun _ _ => ?_))
    | (with_reducible refine HK.cT ?_ (fun _ _ _ => ?_) (fun _ _ _ => ?_))
    | (with_reducible refine HK.cL (HK.yl (fun _ _ _ => ?_) _ _ _ ?_) (fun _ _ _ => ?_) (fun _ _ _ => ?_))
    | (with_reducible refine HK.cQ (fun _ => ?_) (fun _ => ?_))
    | (with_reducible refine HK.soU ?_)
    | (with_reducible refine HK.soP ?_)
    | (with_reducible refine HK.so1 ?_)
    | (with_reducible refine HK.so2 ?_)
    | (with_reducible refine HK.so3 ?_)
    | (with_reducible refine KP.up ?_ ?_)
    | (exact fun h => by have := hP _ _ h; omega)
    | (exact fun q h => by have := hP _ _ h; omega))

theorem kcq_J164_30 (hP : ∀ a q, P a q → a ≠ 413) {f : Nat} {m : yM} (hm : KP P m0 m) : HK (fun x => x.2) (KP P m0) (J164_30 f m) := by
  unfold J164_30
  repeat' (first
    | (with_reducible assumption)
    | (exact HK.no)
    | (with_reducible refine HK.ite (fun _ => ?_) (fun _ => ?_))
    | (with_reducible refine HK.cU ?_ (fun _ _ => ?_))
    | (with_reducible refine HK.cI ?_ (fun _ _ _ => ?_))
    | (with_reducible refine HK.cP (fun _ _ => ?_))
    | (with_reducible refine HK.cT ?_ (fun _ _ _ => ?_) (fun _ _ _ => ?_))
    | (with_reducible refine HK.cL (HK.yl (fun _ _ _ => ?_) _ _ _ ?_) (fun _ _ _ => ?_) (fun _ _ _ => ?_))
    | (with_reducible refine HK.cQ (fun _ => ?_) (fun _ => ?_))
    | (with_reducible refine HK.soU ?_)
    | (with_reducible refine HK.soP ?_)
    | (with_reducible refine HK.so1 ?_)
    | (with_reducible refine HK.so2 ?_)
    | (with_reducible refine HK.so3 ?_)
    | (with_reducible refine KP.up ?_ ?_)
    | (exact fun h => by have := hP _ _ h; omega)
    | (exact fun q h => by have := hP _ _ h; omega))

theorem kcq_F164 (hP : ∀ a q, P a q → a ≠ 413) {f : Nat} {x1 : Int} {x2 : Int} {x3 : Int} {m : yM} (hm : KP P m0 m) : HK (fun x => x.2) (KP P m0) (F164 f x1 x2 x3 m) := by
  unfold F164
  repeat' (first
    | (with_reducible assumption)
    | (with_reducible refine kcq_J164_30 hP ?_)
    | (exact HK.no)
    | (with_reducible refine HK.ite (fun _ => ?_) (fun _ => ?_))
    | (with_reducible refine HK.cU ?_ (fun _ _ => ?_))
    | (with_reducible refine HK.cI ?_ (fun _ _ _ => ?_))
    | (with_reducible refine HK.cP (fun _ _ => ?_))
    | (with_reducible refine HK.cT ?_ (fun _ _ _ => ?_) (fun _ _ _ => ?_))
    | (with_reducible refine HK.cL (HK.yl (fun _ _ _ => ?_) _ _ _ ?_) (fun _ _ _ => ?_) (fun _ _ _ => ?_))
    | (with_reducible refine HK.cQ (fun _ => ?_) (fun _ => ?_))
    | (with_reducible refine HK.soU ?_)
    | (with_reducible refine HK.soP ?_)
    | (with_reducible refine HK.so1 ?_)
    | (with_reducible refine HK.so2 ?_)
    | (with_reducible refine HK.so3 ?_)
    | (with_reducible refine KP.up ?_ ?_)
    | (exact fun h => by have := hP _ _ h; omega)
    | (exact fun q h => by have := hP _ _ h; omega))

theorem kcq_F165 (hP : ∀ a q, P a q → a ≠ 413) {f : Nat} {x1 : Int} {x2 : Int} {x3 : Int} {m : yM} (hm : KP P m0 m) : HK (fun x => x.2) (KP P m0) (F165 f x1 x2 x3 m) := by
  unfold F165
  repeat' (first
    | (with_reducible assumption)
    | (with_reducible refine kcq_F164 hP ?_)
    | (exact HK.no)
    | (with_reducible refine HK.ite (fun _ => ?_) (fun _ => ?_))
    | (with_reducible refine HK.cU ?_ (fun _ _ => ?_))
    | (with_reducible refine HK.cI ?_ (fun _ _ _ => ?_))
    | (with_reducible refine HK.cP (fun _ _ => ?_))
    | (with_reducible refine HK.cT ?_ (fun _ _ _ => ?_) (fun _ _ _ => ?_))
    | (with_reducible refine HK.cL (HK.yl (fun _ _ _ => ?_) _ _ _ ?_) (fun _ _ _ => ?_) (fun _ _ _ => ?_))
    | (with_reducible refine HK.cQ (fun _ => ?_) (fun _ => ?_))
    | (with_reducible refine HK.soU ?_)
    | (with_reducible refine HK.soP ?_)
    | (with_reducible refine HK.so1 ?_)
    | (with_reducible refine HK.so2 ?_)
    | (with_reducible refine HK.so3 ?_)
    | (with_reducible refine KP.up ?_ ?_)
    | (exact fun h => by have := hP _ _ h; omega)
    | (exact fun q h => by have := hP _ _ h; omega))

theorem kcq_J168_22 (hP : ∀ a q, P a q → a ≠ 413) {f : Nat} {m : yM} (hm : KP P m0 m) : HK (fun x => x.2) (KP P m0) (J168_22 f m) := by
  unfold J168_22
  repeat' (first
    | (with_reducible assumption)
    | (exact HK.no)
    | (with_reducible refine HK.ite (fun _ => ?_) (fun _ => ?_))
    | (with_reducible refine HK.cU ?_ (fun _ _ => ?_))
    | (with_reducible refine HK.cI ?_ (fun _ _ _ => ?_))
    | (with_reducible refine HK.cP (fun _ _ => ?_))
    | (with_reducible refine HK.cT ?_ (fun _ _ _ => ?_) (fun _ _ _ => ?_))
    | (with_reducible refine HK.cL (HK.yl (fun _ _ _ => ?_) _ _ _ ?_) (fun _ _ _ => ?_) (fun _ _ _ => ?_))
    | (with_reducible refine HK.cQ (fun _ => ?_) (fun _ => ?_))
    | (with_reducible refine HK.soU ?_)
    | (with_reducible refine HK.soP ?_)
    | (with_reducible refine HK.so1 ?_)
    | (with_reducible refine HK.so2 ?_)
    | (with_reducible refine HK.so3 ?_)
    | (with_reducible refine KP.up ?_ ?_)
    | (exact fun h => by have := hP _ _ h; omega)
    | (exact fun q h => by have := hP _ _ h; omega))

theorem kcq_F168 (hP : ∀ a q, P a q → a ≠ 413) {f : Nat} {x1 : Int} {x2 : Int} {m : yM} (hm : KP P m0 m) : HK (fun x => x.2) (KP P m0) (F168 f x1 x2 m) := by
  unfold F168
  repeat' (first
    | (with_reducible assumption)
    | (with_reducible refine kcq_J168_22 hP ?_)
    | (exact HK.no)
    | (with_reducible refine HK.ite (fun _ => ?_) (fun _ => ?_))
    | (with_reducible refine HK.cU ?_ (fun _ _ => ?_))
    | (with_reducible refine HK.cI ?_ (fun _ _ _ => ?_))
    | (with_reducible refine HK.cP (fun _ _ => ?_))
    | (with_reducible refine HK.cT ?_ (fun _ _ _ => ?_) (fun _ _ _ => ?_))
    | (with_reducible refine HK.cL (HK.yl (fun _ _ _ => ?_) _ _ _ ?_) (fun _ _ _ => ?_) (fun _ _ _ => ?_))
    | (with_reducible refine HK.cQ (fun _ => ?_) (fun _ => ?_))
    | (with_reducible refine HK.soU ?_)
    | (with_reducible refine HK.soP ?_)
    | (with_reducible refine HK.so1 ?_)
    | (with_reducible refine HK.so2 ?_)
    | (with_reducible refine HK.so3 ?_)
    | (with_reducible refine KP.up ?_ ?_)
    | (exact fun h => by have := hP _ _ h; omega)
    | (exact fun q h => by have := hP _ _ h; omega))

theorem kcq_F169 (hP : ∀ a q, P a q → a ≠ 413) {f : Nat} {x1 : Int} {x2 : Int} {m : yM} (hm : KP P m0 m) : HK (fun x => x.2) (KP P m0) (F169 f x1 x2 m) := by
  unfold F169
  repeat' (first
    | (with_reducible assumption)
    | (with_reducible refine kcq_F168 hP ?_)
    | (exact HK.no)
    | (with_reducible refine HK.ite (fun _ => ?_) (fun _ => ?_))
    | (with_reducible refine HK.cU ?_ (fun _ _ => ?_))
    | (with_reducible refine HK.cI ?_ (fun _ _ _ => ?_))
    | (with_reducible refine HK.cP (fun _ _ => ?_))
    | (with_reducible refine HK.cT ?_ (fun _ _ _ => ?_) (fun _ _ _ => ?_))
    | (with_reducible refine HK.cL (HK.yl (fun _ _ _ => ?_) _ _ _ ?_) (fun _ _ _ => ?_) (fun _ _ _ => ?_))
    | (with_reducible refine HK.cQ (fun _ => ?_) (fun _ => ?_))
    | (with_reducible refine HK.soU ?_)
    | (with_reducible refine HK.soP ?_)
    | (with_reducible refine HK.so1 ?_)
    | (with_reducible refine HK.so2 ?_)
    | (with_reducible refine HK.so3 ?_)
    | (with_reducible refine KP.up ?_ ?_)
    | (exact fun h => by have := hP _ _ h; omega)
    | (exact fun q h => by have := hP _ _ h; omega))

theorem kcq_F172 (hP : ∀ a q, P a q → a ≠ 413) {f : Nat} {x1 : Int} {m : yM} (hm : KP P m0 m) : HK (fun x => x.2) (KP P m0) (F172 f x1 m) := by
  unfold F172
  repeat' (first
    | (with_reducible assumption)
    | (exact HK.no)
    | (with_reducible refine HK.ite (fun _ => ?_) (fun _ => ?_))
    | (with_reducible refine HK.cU ?_ (fun _ _ => ?_))
    | (with_reducible refine HK.cI ?_ (fun _ _ _ => ?_))
    | (with_reducible refine HK.cP (fun _ _ => ?_))
    | (with_reducible refine HK.cT ?_ (fun _ _ _ => ?_) (fun _ _ _ => ?_))
    | (with_reducible refine HK.cL (HK.yl (fun _ _ _ => ?_) _ _ _ ?_) (fun _ _ _ => ?_) (fun _ _ _ => ?_))
    | (with_reducible refine HK.cQ (fun _ => ?_) (fun _ => ?_))
    | (with_reducible refine HK.soU ?_)
    | (with_reducible refine HK.soP ?_)
    | (with_reducible refine HK.so1 ?_)
    | (with_reducible refine HK.so2 ?_)
    | (with_reducible refine HK.so3 ?_)
    | (with_reducible refine KP.up ?_ ?_)
    | (exact fun h => by have := hP _ _ h; omega)
    | (exact fun q h => by have := hP _ _ h; omega))

theorem kcq_F173 (hP : ∀ a q, P a q → a ≠ 413) {f : Nat} {x1 : Int} {m : yM} (hm : KP P m0 m) : HK (fun x => x.2) (KP P m0) (F173 f x1 m) := by
  unfold F173
  repeat' (first
    | (with_reducible assumption)
    | (with_reducible refine kcq_F172 hP ?_)
    | (exact HK.no)
    | (with_reducible refine HK.ite (fun _ => ?_) (fun _ => ?_))
    | (with_reducible refine HK.cU ?_ (fun _ _ => ?_))
    | (with_reducible refine HK.cI ?_ (fun _ _ _ => ?_))
    | (with_reducible refine HK.cP (fun _ _ => ?_))
    | (with_reducible refine HK.cT ?_ (fun _ _ _ => ?_) (fun _ _ _ => ?_))
    | (with_reducible refine HK.cL (HK.yl (fun _ _ _ => ?_) _ _ _ ?_) (fun _ _ _ => ?_) (fun _ _ _ => ?_))
    | (with_reducible refine HK.cQ (fun _ => ?_) (fun _ => ?_))
    | (with_reducible refine HK.soU ?_)
    | (with_reducible refine HK.soP ?_)
    | (with_reducible refine HK.so1 ?_)
    | (with_reducible refine HK.so2 ?_)
    | (with_reducible refine HK.so3 ?_)
    | (with_reducible refine KP.up ?_ ?_)
    | (exact fun h => by have := hP _ _ h; omega)
    | (exact fun q h => by have := hP _ _ h; omega))

theorem kcq_F176 (hP : ∀ a q, P a q → a ≠ 413) {f : Nat} {x1 : Int} {m : yM} (hm : KP P m0 m) : HK (fun x => x.2) (KP P m0) (F176 f x1 m) := by
  unfold F176
  repeat' (first
    | (with_reducible assumption)
    | (exact HK.no)
    | (with_reducible refine HK.ite (fun _ => ?_) (fun _ => ?_))
    | (with_reducible refine HK.cU ?_ (fun _ _ => ?_))
    | (with_reducible refine HK.cI ?_ (fun _ _ _ => ?_))
    | (with_reducible refine HK.cP (fun _ _ => ?_))
    | (with_reducible refine HK.cT ?_ (fun _ _ _ => ?_) (fun _ _ _ => ?_))
    | (with_reducible refine HK.cL (HK.yl (fun _ _ _ => ?_) _ _ _ ?_) (fun _ _ _ => ?_) (fun _ _ _ => ?_))
    | (with_reducible refine HK.cQ (fun _ => ?_) (fun _ => ?_))
    | (with_reducible refine HK.soU ?_)
    | (with_reducible refine HK.soP ?_)
    | (with_reducible refine HK.so1 ?_)
    | (with_reducible refine HK.so2 ?_)
    | (with_reducible refine HK.so3 ?_)
    | (with_reducible refine KP.up ?_ ?_)
    | (exact fun h => by have := hP _ _ h; omega)
    | (exact fun q h => by have := hP _ _ h; omega))

theorem kcq_F177 (hP : ∀ a q, P a q → a ≠ 413) {f : Nat} {x1 : Int} {m : yM} (hm : KP P m0 m) : HK (fun x => x.2) (KP P m0) (F177 f x1 m) := by
  unfold F177
  repeat' (first
    | (with_reducible assumption)
    | (with_reducible refine kcq_F176 hP ?_)
    | (exact HK.no)
    | (with_reducible refine HK.ite (fun _ => ?_) (fun _ => ?_))
    | (with_reducible refine HK.cU ?_ (fun _ _ => ?_))
    | (with_reducible refine HK.cI ?_ (fun _ _ _ => ?_))
    | (with_reducible refine HK.cP (fun _ _ => ?_))
    | (with_reducible refine HK.cT ?_ (fun _ _ _ => ?_) (fun _ _ _ => ?_))
    | (with_reducible refine HK.cL (HK.yl (fun _ _ _ => ?_) _ _ _ ?_) (fun _ _ _ => ?_) (fun _ _ _ => ?_))
    | (with_reducible refine HK.cQ (fun _ => ?_) (fun _ => ?_))
    | (with_reducible refine HK.soU ?_)
    | (with_reducible refine HK.soP ?_)
    | (with_reducible refine HK.so1 ?_)
    | (with_reducible refine HK.so2 ?_)
    | (with_reducible refine HK.so3 ?_)
    | (with_reducible refine KP.up ?_ ?_)
    | (exact fun h => by have := hP _ _ h; omega)
    | (exact fun q h => by have := hP _ _ h; omega))

theorem kcq_J180_16 (hP : ∀ a q, P a q → a ≠ 413) {f : Nat} {m : yM} (hm : KP P m0 m) : HK (fun x => x.2) (KP P m0) (J180_16 f m) := by
  unfold J180_16
  repeat' (first
    | (with_reducible assumption)
    | (exact HK.no)
    | (with_reducible refine HK.ite (fun _ => ?_) (fun _ => ?_))
    | (with_reducible refine HK.cU ?_ (fun _ _ => ?_))
    | (with_reducible refine HK.cI ?_ (fun _ _ _ => ?_))
    | (with_reducible refine HK.cP (fun _ _ => ?_))
    | (with_reducible refine HK.cT ?_ (fun _ _ _ => ?_) (fun _ _ _ => ?_))
    | (with_reducible refine HK.cL (HK.yl (fun _ _ _ => ?_) _ _ _ ?_) (fun _ _ _ => ?_) (fun _ _ _ => ?_))
    | (with_reducible refine HK.cQ (fun _ => ?_) (fun _ => ?_))
    | (with_reducible refine HK.soU ?_)
    | (with_reducible refine HK.soP ?_)
    | (with_reducible refine HK.so1 ?_)
    | (with_reducible refine HK.so2 ?_)
    | (with_reducible refine HK.so3 ?_)
    | (with_reducible refine KP.up ?_ ?_)
    | (exact fun h => by have := hP _ _ h; omega)
    | (exact fun q h => by have := hP _ _ h; omega))

theorem kcq_F180 (hP : ∀ a q, P a q → a ≠ 413) {f : Nat} {x1 : Int} {x2 : Int} {m : yM} (hm : KP P m0 m) : HK (fun x => x.2) (KP P m0) (F180 f x1 x2 m) := by
  unfold F180
  repeat' (first
    | (with_reducible assumption)
    | (with_reducible refine kcq_J180_16 hP ?_)
    | (exact HK.no)
    | (with_reducible refine HK.ite (fun _ => ?_) (fun _ => ?_))
    | (with_reducible refine HK.cU ?_ (fun _ _ => ?_))
    | (with_reducible refine HK.cI ?_ (fun _ _ _ => ?_))
    | (with_reducible refine HK.cP (fun _ _ => ?_))
    | (with_reducible refine HK.cT ?_ (fun _ _ _ => ?_) (fun _ _ _ => ?_))
    | (with_reducible refine HK.cL (HK.yl (fun _ _ _ => ?_) _ _ _ ?_) (fun _ _ _ => ?_) (fun _ _ _ => ?_))
    | (with_reducible refine HK.cQ (fun _ => ?_) (fun _ => ?_))
    | (with_reducible refine HK.soU ?_)
    | (with_reducible refine HK.soP ?_)
    | (with_reducible refine HK.so1 ?_)
    | (with_reducible refine HK.so2 ?_)
    | (with_reducible refine HK.so3 ?_)
    | (with_reducible refine KP.up ?_ ?_)
    | (exact fun h => by have := hP _ _ h; omega)
    | (exact fun q h => by have := hP _ _ h; omega))

theorem kcq_F181 (hP : ∀ a q, P a q → a ≠ 413) {f : Nat} {x1 : Int} {x2 : Int} {m : yM} (hm : KP P m0 m) : HK (fun x => x.2) (KP P m0) (F181 f x1 x2 m) := by
  unfold F181
  repeat' (first
    | (with_reducible assumption)
    | (with_reducible refine kcq_F180 hP ?_)
    | (exact HK.no)
    | (with_reducible refine HK.ite (fun _ => ?_) (fun _ => ?_))
    | (with_reducible refine HK.cU ?_ (fun _ _ => ?_))
    | (with_reducible refine HK.cI ?_ (fun _ _ _ => ?_))
    | (with_reducible refine HK.cP (fun _ _ => ?_))
    | (with_reducible refine HK.cT ?_ (fun _ _ _ => ?_) (fun _ _ _ => ?_))
    | (with_reducible refine HK.cL (HK.yl (fun _ _ _ => ?_) _ _ _ ?_) (fun _ _ _ => ?_) (fun _ _ _ => ?_))
    | (with_reducible refine HK.cQ (fun _ => ?_) (fun _ => ?_))
    | (with_reducible refine HK.soU ?_)
    | (with_reducible refine HK.soP ?_)
    | (with_reducible refine HK.so1 ?_)
    | (with_reducible refine HK.so2 ?_)
    | (with_reducible refine HK.so3 ?_)
    | (with_reducible refine KP.up ?_ ?_)
    | (exact fun h => by have := hP _ _ h; omega)
    | (exact fun q h => by have := hP _ _ h; omega))

theorem kcq_F183 (hP : ∀ a q, P a q → a ≠ 413) {f : Nat} {x1 : Int} {x2 : Int} {m : yM} (hm : KP P m0 m) : HK (fun x => x.2) (KP P m0) (F183 f x1 x2 m) := by
  unfold F183
  repeat' (first
    | (with_reducible assumption)
    | (exact HK.no)
    | (with_reducible refine HK.ite (fun _ => ?_) (fun _ => ?_))
    | (with_reducible refine HK.cU ?_ (fun _ _ => ?_))
    | (with_reducible refine HK.cI ?_ (fun _ _ _ => ?_))
    | (with_reducible refine HK.cP (fun _ _ => ?_))
    | (with_reducible refine HK.cT ?_ (fun _ _ _ => ?_) (fun _ _ _ => ?_))
    | (with_reducible refine HK.cL (HK.yl (fun _ _ _ => ?_) _ _ _ ?_) (fun _ _ _ => ?_) (fun _ _ _ => ?_))
    | (with_reducible refine HK.cQ (fun _ => ?_) (fun _ => ?_))
    | (with_reducible refine HK.soU ?_)
    | (with_reducible refine HK.soP ?_)
    | (with_reducible refine HK.so1 ?_)
    | (with_reducible refine HK.so2 ?_)
    | (with_reducible refine HK.so3 ?_)
    | (with_reducible refine KP.up ?_ ?_)
    | (exact fun h => by have := hP _ _ h; omega)
    | (exact fun q h => by have := hP _ _ h; omega))

theorem kcq_F184 (hP : ∀ a q, P a q → a ≠ 413) {f : Nat} {x1 : Int} {x2 : Int} {m : yM} (hm : KP P m0 m) : HK (fun x => x.2) (KP P m0) (F184 f x1 x2 m) := by
  unfold F184
  repeat' (first
    | (with_reducible assumption)
    | (with_reducible refine kcq_F183 hP ?_)
    | (exact HK.no)
    | (with_reducible refine HK.ite (fun _ => ?_) (fun _ => ?_))
    | (with_reducible refine HK.cU ?_ (fun _ _ => ?_))
    | (with_reducible refine HK.cI ?_ (fun _ _ _ => ?_))
    | (with_reducible refine HK.cP (fun _ _ => ?_))
    | (with_reducible refine HK.cT ?_ (fun _ _ _ => ?_) (fun _ _ _ => ?_))
    | (with_reducible refine HK.cL (HK.yl (fun _ _ _ => ?_) _ _ _ ?_) (fun _ _ _ => ?_) (fun _ _ _ => ?_))
    | (with_reducible refine HK.cQ (fun _ => ?_) (fun _ => ?_))
    | (with_reducible refine HK.soU ?_)
    | (with_reducible refine HK.soP ?_)
    | (with_reducible refine HK.so1 ?_)
    | (with_reducible refine HK.so2 ?_)
    | (with_reducible refine HK.so3 ?_)
    | (with_reducible refine KP.up ?_ ?_)
    | (exact fun h => by have := hP _ _ h; omega)
    | (exact fun q h => by have := hP _ _ h; omega))

theorem kcq_J212_16 (hP : ∀ a q, P a q → a ≠ 413) {f : Nat} {m : yM} (hm : KP P m0 m) : HK (fun x => x.2) (KP P m0) (J212_16 f m) := by
  unfold J212_16
  repeat' (first
    | (with_reducible assumption)
    | (exact HK.no)
    | (with_reducible refine HK.ite (fun _ => ?_) (fun _ => ?_))
    | (with_reducible refine HK.cU ?_ (fun _ _ => ?_))
    | (with_reducible refine HK.cI ?_ (fun _ _ _ => ?_))
    | (with_reducible refine HK.cP (fun _ _ => ?_))
    | (with_reducible refine HK.cT ?_ (fun _ _ _ => ?_) (fun _ _ _ => ?_))
    | (with_reducible refine HK.cL (HK.yl (fun _ _ _ => ?_) _ _ _ ?_) (fun _ _ _ => ?_) (fun _ _ _ => ?_))
    | (with_reducible refine HK.cQ (fun _ => ?_) (fun _ => ?_))
    | (with_reducible refine HK.soU ?_)
    | (with_reducible refine HK.soP ?_)
    | (with_reducible refine HK.so1 ?_)
    | (with_reducible refine HK.so2 ?_)
    | (with_reducible refine HK.so3 ?_)
    | (with_reducible refine KP.up ?_ ?_)
    | (exact fun h => by have := hP _ _ h; omega)
    | (exact fun q h => by have := hP _ _ h; omega))

theorem kcq_F212 (hP : ∀ a q, P a q → a ≠ 413) {f : Nat} {x1 : Int} {x2 : Int} {m : yM} (hm : KP P m0 m) : HK (fun x => x.2) (KP P m0) (F212 f x1 x2 m) := by
  unfold F212
  repeat' (first
    | (with_reducible assumption)
    | (with_reducible refine kcq_J212_16 hP ?_)
    | (exact HK.no)
    | (with_reducible refine HK.ite (fun _ => ?_) (fun _ => ?_))
    | (with_reducible refine HK.cU ?_ (fun _ _ => ?_))
    | (with_reducible refine HK.cI ?_ (fun _ _ _ => ?_))
    | (with_reducible refine HK.cP (fun _ _ => ?_))
    | (with_reducible refine HK.cT ?_ (fun _ _ _ => ?_) (fun _ _ _ => ?_))
    | (with_reducible refine HK.cL (HK.yl (fun _ _ _ => ?_) _ _ _ ?_) (fun _ _ _ => ?_) (fun _ _ _ => ?_))
    | (with_reducible refine HK.cQ (fun _ => ?_) (fun _ => ?_))
    | (with_reducible refine HK.soU ?_)
    | (with_reducible refine HK.soP ?_)
    | (with_reducible refine HK.so1 ?_)
    | (with_reducible refine HK.so2 ?_)
    | (with_reducible refine HK.so3 ?_)
    | (with_reducible refine KP.up ?_ ?_)
    | (exact fun h => by have := hP _ _ h; omega)
    | (exact fun q h => by have := hP _ _ h; omega))

theorem kcq_F213 (hP : ∀ a q, P a q → a ≠ 413) {f : Nat} {x1 : Int} {x2 : Int} {m : yM} (hm : KP P m0 m) : HK (fun x => x.2) (KP P m0) (F213 f x1 x2 m) := by
  unfold F213
  repeat' (first
    | (with_reducible assumption)
    | (with_reducible refine kcq_F212 hP ?_)
    | (exact HK.no)
    | (with_reducible refine HK.ite (fun _ => ?_) (fun _ => ?_))
    | (with_reducible refine HK.cU ?_ (fun _ _ => ?_))
    | (with_reducible refine HK.cI ?_ (fun _ _ _ => ?_))
    | (with_reducible refine HK.cP (fun _ _ => ?_))
    | (with_reducible refine HK.cT ?_ (fun _ _ _ => ?_) (fun _ _ _ => ?_))
    | (with_reducible refine HK.cL (HK.yl (fun _ _ _ => ?_) _ _ _ ?_) (fun _ _ _ => ?_) (fun _ _ _ => ?_))
    | (with_reducible refine HK.cQ (fun _ => ?_) (fun _ => ?_))
    | (with_reducible refine HK.soU ?_)
    | (with_reducible refine HK.soP ?_)
    | (with_reducible refine HK.so1 ?_)
    | (with_reducible refine HK.so2 ?_)
    | (with_reducible refine HK.so3 ?_)
    | (with_reducible refine KP.up ?_ ?_)
    | (exact fun h => by have := hP _ _ h; omega)
    | (exact fun q h => by have := hP _ _ h; omega))

theorem kcq_F215 (hP : ∀ a q, P a q → a ≠ 413) {f : Nat} {x1 : Int} {m : yM} (hm : KP P m0 m) : HK (fun x => x.2) (KP P m0) (F215 f x1 m) := by
  unfold F215
  repeat' (first
    | (with_reducible assumption)
    | (exact HK.no)
    | (with_reducible refine HK.ite (fun _ => ?_) (fun _ => ?_))
    | (with_reducible refine HK.cU ?_ (fun _ _ => ?_))
    | (with_reducible refine HK.cI ?_ (fun _ _ _ => ?_))
    | (with_reducible refine HK.cP (fun _ _ => ?_))
    | (with_reducible refine HK.cT ?_ (fun _ _ _ => ?_) (fun _ _ _ => ?_))
    | (with_reducible refine HK.cL (HK.yl (fun _ _ _ => ?_) _ _ _ ?_) (fun _ _ _ => ?_) (fun _ _ _ => ?_))
    | (with_reducible refine HK.cQ (fun _ => ?_) (fun _ => ?_))
    | (with_reducible refine HK.soU ?_)
    | (with_reducible refine HK.soP ?_)
    | (with_reducible refine HK.so1 ?_)
    | (with_reducible refine HK.so2 ?_)
    | (with_reducible refine HK.so3 ?_)
    | (with_reducible refine KP.up ?_ ?_)
    | (exact fun h => by have := hP _ _ h; omega)
    | (exact fun q h => by have := hP _ _ h; omega))

theorem kcq_F216 (hP : ∀ a q, P a q → a ≠ 413) {f : Nat} {x1 : Int} {m : yM} (hm : KP P m0 m) : HK (fun x => x.2) (KP P m0) (F216 f x1 m) := by
  unfold F216
  repeat' (first
    | (with_reducible assumption)
    | (with_reducible refine kcq_F215 hP ?_)
    | (exact HK.no)
    | (with_reducible refine HK.ite (fun _ => ?_) (fun _ => ?_))
    | (with_reducible refine HK.cU ?_ (fun _ _ => ?_))
    | (with_reducible refine HK.cI ?_ (fun _ _ _ => ?_))
    | (with_reducible refine HK.cP (fun _ _ => ?_))
    | (with_reducible refine HK.cT ?_ (fun _ _ _ => ?_) (fun _ _ _ => ?_))
    | (with_reducible refine HK.cL (HK.yl (fun _ _ _ => ?_) _ _ _ ?_) (fun _ _ _ => ?_) (fun _ _ _ => ?_))
    | (with_reducible refine HK.cQ (fun _ => ?_) (fun _ => ?_))
    | (with_reducible refine HK.soU ?_)
    | (with_reducible refine HK.soP ?_)
    | (with_reducible refine HK.so1 ?_)
    | (with_reducible refine HK.so2 ?_)
    | (with_reducible refine HK.so3 ?_)
    | (with_reducible refine KP.up ?_ ?_)
    | (exact fun h => by have := hP _ _ h; omega)
    | (exact fun q h => by have := hP _ _ h; omega))

end FRcq

section FRma
variable {P : Nat → Nat → Prop} {m0 : yM}

theorem kma_F145 (hP : ∀ a q, P a q → ¬ (a = 376 ∧ 45 ≤ q ∧ q ≤ 47) ∧ ¬ (404 ≤ a ∧ a ≤ 407)) {f : Nat} {x1 : Int} {x2 : Int} {m : yM} (hm : KP P m0 m) : HK id (KP P m0) (F145 f x1 x2 m) := by
  unfold F145
  repeat' (first
    | (with_reducible assumption)
    | (exact HK.no)
    | (with_reducible refine HK.ite (fun _ => ?_) (fun _ => ?_))
    | (with_reducible refine HK.cU ?_ (fun _ _ => ?_))
    | (with_reducible refine HK.cI ?_ (fun _ _ _ => ?_))
    | (with_reducible refine HK.cP (fun _ _ => ?_))
    | (with_reducible refine HK.cT ?_ (fun _ _ _ => ?_) (fun _ _ _ => ?_))
    | (with_reducible refine HK.cL (HK.yl (fun _ _ _ => ?_) _ _ _ ?_) (fun _ _ _ => ?_) (fun _ _ _ => ?_))
    | (with_reducible refine HK.cQ (fun _ => ?_) (fun _ => ?_))
    | (with_reducible refine HK.soU ?_)
    | (with_reducible refine HK.soP ?_)
    | (with_reducible refine HK.so1 ?_)
    | (with_reducible refine HK.so2 ?_)
    | (with_reducible refine HK.so3 ?_)
    | (with_reducible refine KP.up ?_ ?_)
    | (exact fun h => by have := hP _ _ h; omega)
    | (exact fun q h => by have := hP _ _ h; omega))

theorem kma_J147_244 (hP : ∀ a q, P a q → ¬ (a = 376 ∧ 45 ≤ q ∧ q ≤ 47) ∧ ¬ (404 ≤ a ∧ a ≤ 407)) {f : Nat} {x1 : Int} {x2 : Int} {x3 : Int} {x4 : Int} {x5 : Int} {m : yM} (hm : KP P m0 m) : HK mB (KP P m0) (J147_244 f x1 x2 x3 x4 x5 m) := by
  unfold J147_244
  repeat' (first
    | (with_reducible assumption)
    | (exact HK.no)
    | (with_reducible refine HK.ite (fun _ => ?_) (fun _ => ?_))
    | (with_reducible refine HK.cU ?_ (fun _ _ => ?_))
    | (with_reducible refine HK.cI ?_ (fun _ _ _ => ?_))
    | (with_reducible refine HK.cP (fun _ _ => ?_))
    | (with_reducible refine HK.cT ?_ (fun _ _ _ => ?_) (fun _ _ _ => ?_))
    | (with_reducible refine HK.cL (HK.yl (fun _ _ _ => ?_) _ _ _ ?_) (fun _ _ _ => ?_) (fun _ _ _ => ?_))
    | (with_reducible refine HK.cQ (fun _ => ?_) (fun _ => ?_))
    | (with_reducible refine HK.soU ?_)
    | (with_reducible refine HK.soP ?_)
    | (with_reducible refine HK.so1 ?_)
    | (with_reducible refine HK.so2 ?_)
    | (with_reducible refine HK.so3 ?_)
    | (with_reducible refine KP.up ?_ ?_)
    | (exact fun h => by have := hP _ _ h; omega)
    | (exact fun q h => by have := hP _ _ h; omega))

theorem kma_J147_238 (hP : ∀ a q, P a q → ¬ (a = 376 ∧ 45 ≤ q ∧ q ≤ 47) ∧ ¬ (404 ≤ a ∧ a ≤ 407)) {f : Nat} {x1 : Int} {x2 : Int} {x3 : Int} {x4 : Int} {x5 : Int} {x6 : Int} {m : yM} (hm : KP P m0 m) : HK mB (KP P m0) (J147_238 f x1 x2 x3 x4 x5 x6 m) := by
  unfold J147_238
  repeat' (first
    | (with_reducible assumption)
    | (exact HK.no)
    | (with_reducible refine HK.ite (fun _ => ?_) (fun _ => ?_))
    | (with_reducible refine HK.cU ?_ (fun _ _ => ?_))
    | (with_reducible refine HK.cI ?_ (fun _ _ _ => ?_))
    | (with_reducible refine HK.cP (fun _ _ => ?_))
    | (with_reducible refine HK.cT ?_ (fun _ _ _ => ?_) (fun _ _ _ => ?_))
    | (with_reducible refine HK.cL (HK.yl (fun _ _ _ => ?_) _ _ _ ?_) (fun _ _ _ => ?_) (fun _ _ _ => ?_))
    | (with_reducible refine HK.cQ (fun _ => ?_) (fun _ => ?_))
    | (with_reducible refine HK.soU ?_)
    | (with_reducible refine HK.soP ?_)
    | (with_reducible refine HK.so1 ?_)
    | (with_reducible refine HK.so2 ?_)
    | (with_reducible refine HK.so3 ?_)
    | (with_reducible refine KP.up ?_ ?_)
    | (exact fun h => by have := hP _ _ h; omega)
    | (exact fun q h => by have := hP _ _ h; omega))

theorem kma_J147_155 (hP : ∀ a q, P a q → ¬ (a = 376 ∧ 45 ≤ q ∧ q ≤ 47) ∧ ¬ (404 ≤ a ∧ a ≤ 407)) {f : Nat} {x1 : Int} {x2 : Int} {x3 : Int} {x4 : Int} {x5 : Int} {x6 : Int} {x7 : Int} {m : yM} (hm : KP P m0 m) : HK mB (KP P m0) (J147_155 f x1 x2 x3 x4 x5 x6 x7 m) := by
  unfold J147_155
  repeat' (first
    | (with_reducible assumption)
    | (with_reducible refine kma_J147_238 hP ?_)
    | (exact HK.no)
    | (with_reducible refine HK.ite (fun _ => ?_) (fun _ => ?_))
    | (with_reducible refine HK.cU ?_ (fun _ _ => ?_))
    | (with_reducible refine HK.cI ?_ (fun _ _ _ => ?_))
    | (with_reducible refine HK.cP (fun _ _ => ?_))
    | (with_reducible refine HK.cT ?_ (fun _ _ _ => ?_) (fun _ _ _ => ?_))
    | (with_reducible refine HK.cL (HK.yl (fun _ _ _ => ?_) _ _ _ ?_) (fun _ _ _ => ?_) (fun _ _ _ => ?_))
    | (with_reducible refine HK.cQ (fun _ => ?_) (fun _ => ?_))
    | (with_reducible refine HK.soU ?_)
    | (with_reducible refine HK.soP ?_)
    | (with_reducible refine HK.so1 ?_)
    | (with_reducible refine HK.so2 ?_)
    | (with_reducible refine HK.so3 ?_)
    | (with_reducible refine KP.up ?_ ?_)
    | (exact fun h => by have := hP _ _ h; omega)
    | (exact fun q h => by have := hP _ _ h; omega))

theorem kma_B147_94 (hP : ∀ a q, P a q → ¬ (a = 376 ∧ 45 ≤ q ∧ q ≤ 47) ∧ ¬ (404 ≤ a ∧ a ≤ 407)) {f : Nat} {x1 : Int} {x2 : Int} {x3 : Int} {x4 : Int} {x5 : Int} {x6 : Int} {m : yM} (hm : KP P m0 m) : HK mB (KP P m0) (B147_94 f x1 x2 x3 x4 x5 x6 m) := by
  unfold B147_94
  repeat' (first
    | (with_reducible assumption)
    | (with_reducible refine kma_J147_155 hP ?_)
    | (with_reducible refine kma_F145 hP ?_)
    | (exact HK.no)
    | (with_reducible refine HK.ite (fun _ => ?_) (fun _ => ?_))
    | (with_reducible refine HK.cU ?_ (fun _ _ => ?_))
    | (with_reducible refine HK.cI ?_ (fun _ _ _ => ?_))
    | (with_reducible refine HK.cP (fun _ _ => ?_))
    | (with_reducible refine HK.cT ?_ (fun _ _ _ => ?_) (fun _ _ _ => ?_))
    | (with_reducible refine HK.cL (HK.yl (fun _ _ _ => ?_) _ _ _ ?_) (fun _ _ _ => ?_) (fun _ _ _ => ?_))
    | (with_reducible refine HK.cQ (fun _ => ?_) (fun _ => ?_))
    | (with_reducible refine HK.soU ?_)
    | (with_reducible refine HK.soP ?_)
    | (with_reducible refine HK.so1 ?_)
    | (with_reducible refine HK.so2 ?_)
    | (with_reducible refine HK.so3 ?_)
    | (with_reducible refine KP.up ?_ ?_)
    | (exact fun h => by have := hP _ _ h; omega)
    | (exact fun q h => by have := hP _ _ h; omega))

theorem kma_B147_53 (hP : ∀ a q, P a q → ¬ (a = 376 ∧ 45 ≤ q ∧ q ≤ 47) ∧ ¬ (404 ≤ a ∧ a ≤ 407)) {f : Nat} {x1 : Int} {x2 : Int} {x3 : Int} {x4 : Int} {x5 : Int} {m : yM} (hm : KP P m0 m) : HK mB (KP P m0) (B147_53 f x1 x2 x3 x4 x5 m) := by
  unfold B147_53
  repeat' (first
    | (with_reducible assumption)
    | (with_reducible refine kma_J147_244 hP ?_)
    | (with_reducible refine kma_B147_94 hP ?_)
    | (exact HK.no)
    | (with_reducible refine HK.ite (fun _ => ?_) (fun _ => ?_))
    | (with_reducible refine HK.cU ?_ (fun _ _ => ?_))
    | (with_reducible refine HK.cI ?_ (fun _ _ _ => ?_))
    | (with_reducible refine HK.cP (fun _ _ => ?_))
    | (with_reducible refine HK.cT ?_ (fun _ _ _ => ?_) (fun _ _ _ => ?_))
    | (with_reducible refine HK.cL (HK.yl (fun _ _ _ => ?_) _ _ _ ?_) (fun _ _ _ => ?_) (fun _ _ _ => ?_))
    | (with_reducible refine HK.cQ (fun _ => ?_) (fun _ => ?_))
    | (with_reducible refine HK.soU ?_)
    | (with_reducible refine HK.soP ?_)
    | (with_reducible refine HK.so1 ?_)
    | (with_reducible refine HK.so2 ?_)
    | (with_reducible refine HK.so3 ?_)
    | (with_reducible refine KP.up ?_ ?_)
    | (exact fun h => by have := hP _ _ h; omega)
    | (exact fun q h => by have := hP _ _ h; omega))

theorem kma_J147_48 (hP : ∀ a q, P a q → ¬ (a = 376 ∧ 45 ≤ q ∧ q ≤ 47) ∧ ¬ (404 ≤ a ∧ a ≤ 407)) {f : Nat} {x1 : Int} {x2 : Int} {x3 : Int} {xs0 : Int} {m : yM} (hm : KP P m0 m) : HK id (KP P m0) (J147_48 f x1 x2 x3 xs0 m) := by
  unfold J147_48
  repeat' (first
    | (with_reducible assumption)
    | (with_reducible refine kma_B147_53 hP ?_)
    | (exact HK.no)
    | (with_reducible refine HK.ite (fun _ => ?_) (fun _ => ?_))
    | (with_reducible refine HK.cU ?_ (fun _ _ => ?_))
    | (with_reducible refine HK.cI ?_ (fun _ _ _ => ?_))
    | (with_reducible refine HK.cP (fun _ _ => ?_))
    | (with_reducible refine HK.cT ?_ (fun _ _ _ => ?_) (fun _ _ _ => ?_))
    | (with_reducible refine HK.cL (HK.yl (fun _ _ _ => ?_) _ _ _ ?_) (fun _ _ _ => ?_) (fun _ _ _ => ?_))
    | (with_reducible refine HK.cQ (fun _ => ?_) (fun _ => ?_))
    | (with_reducible refine HK.soU ?_)
    | (with_reducible refine HK.soP ?_)
    | (with_reducible refine HK.so1 ?_)
    | (with_reducible refine HK.so2 ?_)
    | (with_reducible refine HK.so3 ?_)
    | (with_reducible refine KP.up ?_ ?_)
    | (exact fun h => by have := hP _ _ h; omega)
    | (exact fun q h => by have := hP _ _ h; omega))

theorem kma_J147_15 (hP : ∀ a q, P a q → ¬ (a = 376 ∧ 45 ≤ q ∧ q ≤ 47) ∧ ¬ (404 ≤ a ∧ a ≤ 407)) {f : Nat} {x1 : Int} {xs0 : Int} {m : yM} (hm : KP P m0 m) : HK id (KP P m0) (J147_15 f x1 xs0 m) := by
  unfold J147_15
  repeat' (first
    | (with_reducible assumption)
    | (with_reducible refine kma_J147_48 hP ?_)
    | (exact HK.no)
    | (with_reducible refine HK.ite (fun _ => ?_) (fun _ => ?_))
    | (with_reducible refine HK.cU ?_ (fun _ _ => ?_))
    | (with_reducible refine HK.cI ?_ (fun _ _ _ => ?_))
    | (with_reducible refine HK.cP (fun _ _ => ?_))
    | (with_reducible refine HK.cT ?_ (fun _ _ _ => ?_) (fun _ _ _ => ?_))
    | (with_reducible refine HK.cL (HK.yl (fun _ _ _ => ?_) _ _ _ ?_) (fun _ _ _ => ?_) (fun _ _ _ => ?_))
    | (with_reducible refine HK.cQ (fun _ => ?_) (fun _ => ?_))
    | (with_reducible refine HK.soU ?_)
    | (with_reducible refine HK.soP ?_)
    | (with_reducible refine HK.so1 ?_)
    | (with_reducible refine HK.so2 ?_)
    | (with_reducible refine HK.so3 ?_)
    | (with_reducible refine KP.up ?_ ?_)
    | (exact fun h => by have := hP _ _ h; omega)
    | (exact fun q h => by have := hP _ _ h; omega))

theorem kma_F147 (hP : ∀ a q, P a q → ¬ (a = 376 ∧ 45 ≤ q ∧ q ≤ 47) ∧ ¬ (404 ≤ a ∧ a ≤ 407)) {f : Nat} {x1 : Int} {m : yM} (hm : KP P m0 m) : HK id (KP P m0) (F147 f x1 m) := by
  unfold F147
  repeat' (first
    | (with_reducible assumption)
    | (with_reducible refine kma_J147_15 hP ?_)
    | (exact HK.no)
    | (with_reducible refine HK.ite (fun _ => ?_) (fun _ => ?_))
    | (with_reducible refine HK.cU ?_ (fun _ _ => ?_))
    | (with_reducible refine HK.cI ?_ (fun _ _ _ => ?_))
    | (with_reducible refine HK.cP (fun _ _ => ?_))
    | (with_reducible refine HK.cT ?_ (fun _ _ _ => ?_) (fun _ _ _ => ?_))
    | (with_reducible refine HK.cL (HK.yl (fun _ _ _ => ?_) _ _ _ ?_) (fun _ _ _ => ?_) (fun _ _ _ => ?_))
    | (with_reducible refine HK.cQ (fun _ => ?_) (fun _ => ?_))
    | (with_reducible refine HK.soU ?_)
    | (with_reducible refine HK.soP ?_)
    | (with_reducible refine HK.so1 ?_)
    | (with_reducible refine HK.so2 ?_)
    | (with_reducible refine HK.so3 ?_)
    | (with_reducible refine KP.up ?_ ?_)
    | (exact fun h => by have := hP _ _ h; omega)
    | (exact fun q h => by have := hP _ _ h; omega))

theorem kma_J146_39 (hP : ∀ a q, P a q → ¬ (a = 376 ∧ 45 ≤ q ∧ q ≤ 47) ∧ ¬ (404 ≤ a ∧ a ≤ 407)) {f : Nat} {x1 : Int} {x2 : Int} {x3 : Int} {m : yM} (hm : KP P m0 m) : HK mB (KP P m0) (J146_39 f x1 x2 x3 m) := by
  unfold J146_39
  repeat' (first
    | (with_reducible assumption)
    | (exact HK.no)
    | (with_reducible refine HK.ite (fun _ => ?_) (fun _ => ?_))
    | (with_reducible refine HK.cU ?_ (fun _ _ => ?_))
    | (with_reducible refine HK.cI ?_ (fun _ _ _ => ?_))
    | (with_reducible refine HK.cP (fun _ _ => ?_))
    | (with_reducible refine HK.cT ?_ (fun _ _ _ => ?_) (fun _ _ _ => ?_))
    | (with_reducible refine HK.cL (HK.yl (fun _ _ _ => ?_) _ _ _ ?_) (fun _ _ _ => ?_) (fun _ _ _ => ?_))
    | (with_reducible refine HK.cQ (fun _ => ?_) (fun _ => ?_))
    | (with_reducible refine HK.soU ?_)
    | (with_reducible refine HK.soP ?_)
    | (with_reducible refine HK.so1 ?_)
    | (with_reducible refine HK.so2 ?_)
    | (with_reducible refine HK.so3 ?_)
    | (with_reducible refine KP.up ?_ ?_)
    | (exact fun h => by have := hP _ _ h; omega)
    | (exact fun q h => by have := hP _ _ h; omega))

theorem kma_B146_2 (hP : ∀ a q, P a q → ¬ (a = 376 ∧ 45 ≤ q ∧ q ≤ 47) ∧ ¬ (404 ≤ a ∧ a ≤ 407)) {f : Nat} {x1 : Int} {x2 : Int} {x3 : Int} {m : yM} (hm : KP P m0 m) : HK mB (KP P m0) (B146_2 f x1 x2 x3 m) := by
  unfold B146_2
  repeat' (first
    | (with_reducible assumption)
    | (with_reducible refine kma_J146_39 hP ?_)
    | (with_reducible refine kma_F145 hP ?_)
    | (exact HK.no)
    | (with_reducible refine HK.ite (fun _ => ?_) (fun _ => ?_))
    | (with_reducible refine HK.cU ?_ (fun _ _ => ?_))
    | (with_reducible refine HK.cI ?_ (fun _ _ _ => ?_))
    | (with_reducible refine HK.cP (fun _ _ => ?_))
    | (with_reducible refine HK.cT ?_ (fun _ _ _ => ?_) (fun _ _ _ => ?_))
    | (with_reducible refine HK.cL (HK.yl (fun _ _ _ => ?_) _ _ _ ?_) (fun _ _ _ => ?_) (fun _ _ _ => ?_))
    | (with_reducible refine HK.cQ (fun _ => ?_) (fun _ => ?_))
    | (with_reducible refine HK.soU ?_)
    | (with_reducible refine HK.soP ?_)
    | (with_reducible refine HK.so1 ?_)
    | (with_reducible refine HK.so2 ?_)
    | (with_reducible refine HK.so3 ?_)
    | (with_reducible refine KP.up ?_ ?_)
    | (exact fun h => by have := hP _ _ h; omega)
    | (exact fun q h => by have := hP _ _ h; omega))

theorem kma_F146 (hP : ∀ a q, P a q → ¬ (a = 376 ∧ 45 ≤ q ∧ q ≤ 47) ∧ ¬ (404 ≤ a ∧ a ≤ 407)) {f : Nat} {x1 : Int} {x2 : Int} {m : yM} (hm : KP P m0 m) : HK id (KP P m0) (F146 f x1 x2 m) := by
  unfold F146
  repeat' (first
    | (with_reducible assumption)
    | (with_reducible refine kma_B146_2 hP ?_)
    | (exact HK.no)
    | (with_reducible refine HK.ite (fun _ => ?_) (fun _ => ?_))
    | (with_reducible refine HK.cU ?_ (fun _ _ => ?_))
    | (with_reducible refine HK.cI ?_ (fun _ _ _ => ?_))
    | (with_reducible refine HK.cP (fun _ _ => ?_))
    | (with_reducible refine HK.cT ?_ (fun _ _ _ => ?_) (fun _ _ _ => ?_))
    | (with_reducible refine HK.cL (HK.yl (fun _ _ _ => ?_) _ _ _ ?_) (fun _ _ _ => ?_) (fun _ _ _ => ?_))
    | (with_reducible refine HK.cQ (fun _ => ?_) (fun _ => ?_))
    | (with_reducible refine HK.soU ?_)
    | (with_reducible refine HK.soP ?_)
    | (with_reducible refine HK.so1 ?_)
    | (with_reducible refine HK.so2 ?_)
    | (with_reducible refine HK.so3 ?_)
    | (with_reducible refine KP.up ?_ ?_)
    | (exact fun h => by have := hP _ _ h; omega)
    | (exact fun q h => by have := hP _ _ h; omega))

theorem kma_J148_199 (hP : ∀ a q, P a q → ¬ (a = 376 ∧ 45 ≤ q ∧ q ≤ 47) ∧ ¬ (404 ≤ a ∧ a ≤ 407)) {f : Nat} {x1 : Int} {x2 : Int} {x3 : Int} {x4 : Int} {x5 : Int} {m : yM} (hm : KP P m0 m) : HK mB (KP P m0) (J148_199 f x1 x2 x3 x4 x5 m) := by
  unfold J148_199
  repeat' (first
    | (with_reducible assumption)
    | (exact HK.no)
    | (with_reducible refine HK.ite (fun _ => ?_) (fun _ => ?_))
    | (with_reducible refine HK.cU ?_ (fun _ _ => ?_))
    | (with_reducible refine HK.cI ?_ (fun _ _ _ => ?_))
    | (with_reducible refine HK.cP (fun _ _ => ?_))
    | (with_reducible refine HK.cT ?_ (fun _ _ _ => ?_) (fun _ _ _ => ?_))
    | (with_reducible refine HK.cL (HK.yl (fun _ _ _ => ?_) _ _ _ ?_) (fun _ _ _ => ?_) (fun _ _ _ => ?_))
    | (with_reducible refine HK.cQ (fun _ => ?_) (fun _ => ?_))
    | (with_reducible refine HK.soU ?_)
    | (with_reducible refine HK.soP ?_)
    | (with_reducible refine HK.so1 ?_)
    | (with_reducible refine HK.so2 ?_)
    | (with_reducible refine HK.so3 ?_)
    | (with_reducible refine KP.up ?_ ?_)
    | (exact fun h => by have := hP _ _ h; omega)
    | (exact fun q h => by have := hP _ _ h; omega))

theorem kma_J148_176 (hP : ∀ a q, P a q → ¬ (a = 376 ∧ 45 ≤ q ∧ q ≤ 47) ∧ ¬ (404 ≤ a ∧ a ≤ 407)) {f : Nat} {x1 : Int} {x2 : Int} {x3 : Int} {x4 : Int} {x5 : Int} {x6 : Int} {m : yM} (hm : KP P m0 m) : HK mB (KP P m0) (J148_176 f x1 x2 x3 x4 x5 x6 m) := by
  unfold J148_176
  repeat' (first
    | (with_reducible assumption)
    | (with_reducible refine kma_F145 hP ?_)
    | (with_reducible refine kma_J148_199 hP ?_)
    | (exact HK.no)
    | (with_reducible refine HK.ite (fun _ => ?_) (fun _ => ?_))
    | (with_reducible refine HK.cU ?_ (fun _ _ => ?_))
    | (with_reducible refine HK.cI ?_ (fun _ _ _ => ?_))
    | (with_reducible refine HK.cP (fun _ _ => ?_))
    | (with_reducible refine HK.cT ?_ (fun _ _ _ => ?_) (fun _ _ _ => ?_))
    | (with_reducible refine HK.cL (HK.yl (fun _ _ _ => ?_) _ _ _ ?_) (fun _ _ _ => ?_) (fun _ _ _ => ?_))
    | (with_reducible refine HK.cQ (fun _ => ?_) (fun _ => ?_))
    | (with_reducible refine HK.soU ?_)
    | (with_reducible refine HK.soP ?_)
    | (with_reducible refine HK.so1 ?_)
    | (with_reducible refine HK.so2 ?_)
    | (with_reducible refine HK.so3 ?_)
    | (with_reducible refine KP.up ?_ ?_)
    | (exact fun h => by have := hP _ _ h; omega)
    | (exact fun q h => by have := hP _ _ h; omega))

theorem kma_J148_150 (hP : ∀ a q, P a q → ¬ (a = 376 ∧ 45 ≤ q ∧ q ≤ 47) ∧ ¬ (404 ≤ a ∧ a ≤ 407)) {f : Nat} {x1 : Int} {x2 : Int} {x3 : Int} {x4 : Int} {x5 : Int} {x6 : Int} {m : yM} (hm : KP P m0 m) : HK mB (KP P m0) (J148_150 f x1 x2 x3 x4 x5 x6 m) := by
  unfold J148_150
  repeat' (first
    | (with_reducible assumption)
    | (with_reducible refine kma_J148_176 hP ?_)
    | (exact HK.no)
    | (with_reducible refine HK.ite (fun _ => ?_) (fun _ => ?_))
    | (with_reducible refine HK.cU ?_ (fun _ _ => ?_))
    | (with_reducible refine HK.cI ?_ (fun _ _ _ => ?_))
    | (with_reducible refine HK.cP (fun _ _ => ?_))
    | (with_reducible refine HK.cT ?_ (fun _ _ _ => ?_) (fun _ _ _ => ?_))
    | (with_reducible refine HK.cL (HK.yl (fun _ _ _ => ?_) _ _ _ ?_) (fun _ _ _ => ?_) (fun _ _ _ => ?_))
    | (with_reducible refine HK.cQ (fun _ => ?_) (fun _ => ?_))
    | (with_reducible refine HK.soU ?_)
    | (with_reducible refine HK.soP ?_)
    | (with_reducible refine HK.so1 ?_)
    | (with_reducible refine HK.so2 ?_)
    | (with_reducible refine HK.so3 ?_)
    | (with_reducible refine KP.up ?_ ?_)
    | (exact fun h => by have := hP _ _ h; omega)
    | (exact fun q h => by have := hP _ _ h; omega))

theorem kma_J148_107 (hP : ∀ a q, P a q → ¬ (a = 376 ∧ 45 ≤ q ∧ q ≤ 47) ∧ ¬ (404 ≤ a ∧ a ≤ 407)) {f : Nat} {x1 : Int} {x2 : Int} {x3 : Int} {x4 : Int} {x5 : Int} {xs0 : Int} {m : yM} (hm : KP P m0 m) : HK mB (KP P m0) (J148_107 f x1 x2 x3 x4 x5 xs0 m) := by
  unfold J148_107
  repeat' (first
    | (with_reducible assumption)
    | (with_reducible refine kma_J148_199 hP ?_)
    | (with_reducible refine kma_J148_150 hP ?_)
    | (exact HK.no)
    | (with_reducible refine HK.ite (fun _ => ?_) (fun _ => ?_))
    | (with_reducible refine HK.cU ?_ (fun _ _ => ?_))
    | (with_reducible refine HK.cI ?_ (fun _ _ _ => ?_))
    | (with_reducible refine HK.cP (fun _ _ => ?_))
    | (with_reducible refine HK.cT ?_ (fun _ _ _ => ?_) (fun _ _ _ => ?_))
    | (with_reducible refine HK.cL (HK.yl (fun _ _ _ => ?_) _ _ _ ?_) (fun _ _ _ => ?_) (fun _ _ _ => ?_))
    | (with_reducible refine HK.cQ (fun _ => ?_) (fun _ => ?_))
    | (with_reducible refine HK.soU ?_)
    | (with_reducible refine HK.soP ?_)
    | (with_reducible refine HK.so1 ?_)
    | (with_reducible refine HK.so2 ?_)
    | (with_reducible refine HK.so3 ?_)
    | (with_reducible refine KP.up ?_ ?_)
    | (exact fun h => by have := hP _ _ h; omega)
    | (exact fun q h => by have := hP _ _ h; omega))

theorem kma_B148_37 (hP : ∀ a q, P a q → ¬ (a = 376 ∧ 45 ≤ q ∧ q ≤ 47) ∧ ¬ (404 ≤ a ∧ a ≤ 407)) {f : Nat} {x1 : Int} {x2 : Int} {x3 : Int} {x4 : Int} {x5 : Int} {m : yM} (hm : KP P m0 m) : HK mB (KP P m0) (B148_37 f x1 x2 x3 x4 x5 m) := by
  unfold B148_37
  repeat' (first
    | (with_reducible assumption)
    | (with_reducible refine kma_J148_107 hP ?_)
    | (exact HK.no)
    | (with_reducible refine HK.ite (fun _ => ?_) (fun _ => ?_))
    | (with_reducible refine HK.cU ?_ (fun _ _ => ?_))
    | (with_reducible refine HK.cI ?_ (fun _ _ _ => ?_))
    | (with_reducible refine HK.cP (fun _ _ => ?_))
    | (with_reducible refine HK.cT ?_ (fun _ _ _ => ?_) (fun _ _ _ => ?_))
    | (with_reducible refine HK.cL (HK.yl (fun _ _ _ => ?_) _ _ _ ?_) (fun _ _ _ => ?_) (fun _ _ _ => ?_))
    | (with_reducible refine HK.cQ (fun _ => ?_) (fun _ => ?_))
    | (with_reducible refine HK.soU ?_)
    | (with_reducible refine HK.soP ?_)
    | (with_reducible refine HK.so1 ?_)
    | (with_reducible refine HK.so2 ?_)
    | (with_reducible refine HK.so3 ?_)
    | (with_reducible refine KP.up ?_ ?_)
    | (exact fun h => by have := hP _ _ h; omega)
    | (exact fun q h => by have := hP _ _ h; omega))

theorem kma_J148_322 (hP : ∀ a q, P a q → ¬ (a = 376 ∧ 45 ≤ q ∧ q ≤ 47) ∧ ¬ (404 ≤ a ∧ a ≤ 407)) {f : Nat} {x1 : Int} {x3 : Int} {x4 : Int} {x5 : Int} {m : yM} (hm : KP P m0 m) : HK mB (KP P m0) (J148_322 f x1 x3 x4 x5 m) := by
  unfold J148_322
  repeat' (first
    | (with_reducible assumption)
    | (exact HK.no)
    | (with_reducible refine HK.ite (fun _ => ?_) (fun _ => ?_))
    | (with_reducible refine HK.cU ?_ (fun _ _ => ?_))
    | (with_reducible refine HK.cI ?_ (fun _ _ _ => ?_))
    | (with_reducible refine HK.cP (fun _ _ => ?_))
    | (with_reducible refine HK.cT ?_ (fun _ _ _ => ?_) (fun _ _ _ => ?_))
    | (with_reducible refine HK.cL (HK.yl (fun _ _ _ => ?_) _ _ _ ?_) (fun _ _ _ => ?_) (fun _ _ _ => ?_))
    | (with_reducible refine HK.cQ (fun _ => ?_) (fun _ => ?_))
    | (with_reducible refine HK.soU ?_)
    | (with_reducible refine HK.soP ?_)
    | (with_reducible refine HK.so1 ?_)
    | (with_reducible refine HK.so2 ?_)
    | (with_reducible refine HK.so3 ?_)
    | (with_reducible refine KP.up ?_ ?_)
    | (exact fun h => by have := hP _ _ h; omega)
    | (exact fun q h => by have := hP _ _ h; omega))

theorem kma_B148_261 (hP : ∀ a q, P a q → ¬ (a = 376 ∧ 45 ≤ q ∧ q ≤ 47) ∧ ¬ (404 ≤ a ∧ a ≤ 407)) {f : Nat} {x1 : Int} {x3 : Int} {x4 : Int} {x5 : Int} {x6 : Int} {x7 : Int} {m : yM} (hm : KP P m0 m) : HK mB (KP P m0) (B148_261 f x1 x3 x4 x5 x6 x7 m) := by
  unfold B148_261
  repeat' (first
    | (with_reducible assumption)
    | (with_reducible refine kma_F146 hP ?_)
    | (exact HK.no)
    | (with_reducible refine HK.ite (fun _ => ?_) (fun _ => ?_))
    | (with_reducible refine HK.cU ?_ (fun _ _ => ?_))
    | (with_reducible refine HK.cI ?_ (fun _ _ _ => ?_))
    | (with_reducible refine HK.cP (fun _ _ => ?_))
    | (with_reducible refine HK.cT ?_ (fun _ _ _ => ?_) (fun _ _ _ => ?_))
    | (with_reducible refine HK.cL (HK.yl (fun _ _ _ => ?_) _ _ _ ?_) (fun _ _ _ => ?_) (fun _ _ _ => ?_))
    | (with_reducible refine HK.cQ (fun _ => ?_) (fun _ => ?_))
    | (with_reducible refine HK.soU ?_)
    | (with_reducible refine HK.soP ?_)
    | (with_reducible refine HK.so1 ?_)
    | (with_reducible refine HK.so2 ?_)
    | (with_reducible refine HK.so3 ?_)
    | (with_reducible refine KP.up ?_ ?_)
    | (exact fun h => by have := hP _ _ h; omega)
    | (exact fun q h => by have := hP _ _ h; omega))

theorem kma_B148_208 (hP : ∀ a q, P a q → ¬ (a = 376 ∧ 45 ≤ q ∧ q ≤ 47) ∧ ¬ (404 ≤ a ∧ a ≤ 407)) {f : Nat} {x1 : Int} {x3 : Int} {x4 : Int} {x5 : Int} {m : yM} (hm : KP P m0 m) : HK mB (KP P m0) (B148_208 f x1 x3 x4 x5 m) := by
  unfold B148_208
  repeat' (first
    | (with_reducible assumption)
    | (with_reducible refine kma_J148_322 hP ?_)
    | (with_reducible refine kma_B148_261 hP ?_)
    | (with_reducible refine kma_F146 hP ?_)
    | (exact HK.no)
    | (with_reducible refine HK.ite (fun _ => ?_) (fun _ => ?_))
    | (with_reducible refine HK.cU ?_ (fun _ _ => ?_))
    | (with_reducible refine HK.cI ?_ (fun _ _ _ => ?_))
    | (with_reducible refine HK.cP (fun _ _ => ?_))
    | (with_reducible refine HK.cT ?_ (fun _ _ _ => ?_) (fun _ _ _ => ?_))
    | (with_reducible refine HK.cL (HK.yl (fun _ _ _ => ?_) _ _ _ ?_) (fun _ _ _ => ?_) (fun _ _ _ => ?_))
    | (with_reducible refine HK.cQ (fun _ => ?_) (fun _ => ?_))
    | (with_reducible refine HK.soU ?_)
    | (with_reducible refine HK.soP ?_)
    | (with_reducible refine HK.so1 ?_)
    | (with_reducible refine HK.so2 ?_)
    | (with_reducible refine HK.so3 ?_)
    | (with_reducible refine KP.up ?_ ?_)
    | (exact fun h => by have := hP _ _ h; omega)
    | (exact fun q h => by have := hP _ _ h; omega))

theorem kma_F148 (hP : ∀ a q, P a q → ¬ (a = 376 ∧ 45 ≤ q ∧ q ≤ 47) ∧ ¬ (404 ≤ a ∧ a ≤ 407)) {f : Nat} {x1 : Int} {m : yM} (hm : KP P m0 m) : HK id (KP P m0) (F148 f x1 m) := by
  unfold F148
  repeat' (first
    | (with_reducible assumption)
    | (with_reducible refine kma_B148_37 hP ?_)
    | (with_reducible refine kma_B148_208 hP ?_)
    | (exact HK.no)
    | (with_reducible refine HK.ite (fun _ => ?_) (fun _ => ?_))
    | (with_reducible refine HK.cU ?_ (fun _ _ => ?_))
    | (with_reducible refine HK.cI ?_ (fun _ _ _ => ?_))
    | (with_reducible refine HK.cP (fun _ _ => ?_))
    | (with_reducible refine HK.cT ?_ (fun _ _ _ => ?_) (fun _ _ _ => ?_))
    | (with_reducible refine HK.cL (HK.yl (fun _ _ _ => ?_) _ _ _ ?_) (fun _ _ _ => ?_) (fun _ _ _ => ?_))
    | (with_reducible refine HK.cQ (fun _ => ?_) (fun _ => ?_))
    | (with_reducible refine HK.soU ?_)
    | (with_reducible refine HK.soP ?_)
    | (with_reducible refine HK.so1 ?_)
    | (with_reducible refine HK.so2 ?_)
    | (with_reducible refine HK.so3 ?_)
    | (with_reducible refine KP.up ?_ ?_)
    | (exact fun h => by have := hP _ _ h; omega)
    | (exact fun q h => by have := hP _ _ h; omega))

theorem kma_J150_101 (hP : ∀ a q, P a q → ¬ (a = 376 ∧ 45 ≤ q ∧ q ≤ 47) ∧ ¬ (404 ≤ a ∧ a ≤ 407)) {f : Nat} {x1 : Int} {m : yM} (hm : KP P m0 m) : HK id (KP P m0) (J150_101 f x1 m) := by
  unfold J150_101
  repeat' (first
    | (with_reducible assumption)
    | (with_reducible refine kma_F147 hP ?_)
    | (exact HK.no)
    | (with_reducible refine HK.ite (fun _ => ?_) (fun _ => ?_))
    | (with_reducible refine HK.cU ?_ (fun _ _ => ?_))
    | (with_reducible refine HK.cI ?_ (fun _ _ _ => ?_))
    | (with_reducible refine HK.cP (fun _ _ => ?_))
    | (with_reducible refine HK.cT ?_ (fun _ _ _ => ?_) (fun _ _ _ => ?_))
    | (with_reducible refine HK.cL (HK.yl (fun _ _ _ => ?_) _ _ _ ?_) (fun _ _ _ => ?_) (fun _ _ _ => ?_))
    | (with_reducible refine HK.cQ (fun _ => ?_) (fun _ => ?_))
    | (with_reducible refine HK.soU ?_)
    | (with_reducible refine HK.soP ?_)
    | (with_reducible refine HK.so1 ?_)
    | (with_reducible refine HK.so2 ?_)
    | (with_reducible refine HK.so3 ?_)
    | (with_reducible refine KP.up ?_ ?_)
    | (exact fun h => by have := hP _ _ h; omega)
    | (exact fun q h => by have := hP _ _ h; omega))

theorem kma_J150_219 (hP : ∀ a q, P a q → ¬ (a = 376 ∧ 45 ≤ q ∧ q ≤ 47) ∧ ¬ (404 ≤ a ∧ a ≤ 407)) {f : Nat} {x1 : Int} {x3 : Int} {x4 : Int} {x5 : Int} {m : yM} (hm : KP P m0 m) : HK mB (KP P m0) (J150_219 f x1 x3 x4 x5 m) := by
  unfold J150_219
  repeat' (first
    | (with_reducible assumption)
    | (exact HK.no)
    | (with_reducible refine HK.ite (fun _ => ?_) (fun _ => ?_))
    | (with_reducible refine HK.cU ?_ (fun _ _ => ?_))
    | (with_reducible refine HK.cI ?_ (fun _ _ _ => ?_))
    | (with_reducible refine HK.cP (fun _ _ => ?_))
    | (with_reducible refine HK.cT ?_ (fun _ _ _ => ?_) (fun _ _ _ => ?_))
    | (with_reducible refine HK.cL (HK.yl (fun _ _ _ => ?_) _ _ _ ?_) (fun _ _ _ => ?_) (fun _ _ _ => ?_))
    | (with_reducible refine HK.cQ (fun _ => ?_) (fun _ => ?_))
    | (with_reducible refine HK.soU ?_)
    | (with_reducible refine HK.soP ?_)
    | (with_reducible refine HK.so1 ?_)
    | (with_reducible refine HK.so2 ?_)
    | (with_reducible refine HK.so3 ?_)
    | (with_reducible refine KP.up ?_ ?_)
    | (exact fun h => by have := hP _ _ h; omega)
    | (exact fun q h => by have := hP _ _ h; omega))

theorem kma_B150_131 (hP : ∀ a q, P a q → ¬ (a = 376 ∧ 45 ≤ q ∧ q ≤ 47) ∧ ¬ (404 ≤ a ∧ a ≤ 407)) {f : Nat} {x1 : Int} {x3 : Int} {x4 : Int} {x5 : Int} {m : yM} (hm : KP P m0 m) : HK mB (KP P m0) (B150_131 f x1 x3 x4 x5 m) := by
  unfold B150_131
  repeat' (first
    | (with_reducible assumption)
    | (with_reducible refine kma_J150_219 hP ?_)
    | (with_reducible refine kma_F145 hP ?_)
    | (exact HK.no)
    | (with_reducible refine HK.ite (fun _ => ?_) (fun _ => ?_))
    | (with_reducible refine HK.cU ?_ (fun _ _ => ?_))
    | (with_reducible refine HK.cI ?_ (fun _ _ _ => ?_))
    | (with_reducible refine HK.cP (fun _ _ => ?_))
    | (with_reducible refine HK.cT ?_ (fun _ _ _ => ?_) (fun _ _ _ => ?_))
    | (with_reducible refine HK.cL (HK.yl (fun _ _ _ => ?_) _ _ _ ?_) (fun _ _ _ => ?_) (fun _ _ _ => ?_))
    | (with_reducible refine HK.cQ (fun _ => ?_) (fun _ => ?_))
    | (with_reducible refine HK.soU ?_)
    | (with_reducible refine HK.soP ?_)
    | (with_reducible refine HK.so1 ?_)
    | (with_reducible refine HK.so2 ?_)
    | (with_reducible refine HK.so3 ?_)
    | (with_reducible refine KP.up ?_ ?_)
    | (exact fun h => by have := hP _ _ h; omega)
    | (exact fun q h => by have := hP _ _ h; omega))

theorem kma_F150 (hP : ∀ a q, P a q → ¬ (a = 376 ∧ 45 ≤ q ∧ q ≤ 47) ∧ ¬ (404 ≤ a ∧ a ≤ 407)) {f : Nat} {x1 : Int} {m : yM} (hm : KP P m0 m) : HK id (KP P m0) (F150 f x1 m) := by
  unfold F150
  repeat' (first
    | (with_reducible assumption)
    | (with_reducible refine kma_F145 hP ?_)
    | (with_reducible refine kma_F146 hP ?_)
    | (with_reducible refine kma_J150_101 hP ?_)
    | (with_reducible refine kma_F148 hP ?_)
    | (with_reducible refine kma_B150_131 hP ?_)
    | (exact HK.no)
    | (with_reducible refine HK.ite (fun _ => ?_) (fun _ => ?_))
    | (with_reducible refine HK.cU ?_ (fun _ _ => ?_))
    | (with_reducible refine HK.cI ?_ (fun _ _ _ => ?_))
    | (with_reducible refine HK.cP (fun _ _ => ?_))
    | (with_reducible refine HK.cT ?_ (fun _ _ _ => ?_) (fun _ _ _ => ?_))
    | (with_reducible refine HK.cL (HK.yl (fun _ _ _ => ?_) _ _ _ ?_) (fun _ _ _ => ?_) (fun _ _ _ => ?_))
    | (with_reducible refine HK.cQ (fun _ => ?_) (fun _ => ?_))
    | (with_reducible refine HK.soU ?_)
    | (with_reducible refine HK.soP ?_)
    | (with_reducible refine HK.so1 ?_)
    | (with_reducible refine HK.so2 ?_)
    | (with_reducible refine HK.so3 ?_)
    | (with_reducible refine KP.up ?_ ?_)
    | (exact fun h => by have := hP _ _ h; omega)
    | (exact fun q h => by have := hP _ _ h; omega))

theorem kma_B151_2 (hP : ∀ a q, P a q → ¬ (a = 376 ∧ 45 ≤ q ∧ q ≤ 47) ∧ ¬ (404 ≤ a ∧ a ≤ 407)) {f : Nat} {x1 : Int} {m : yM} (hm : KP P m0 m) : HK mB (KP P m0) (B151_2 f x1 m) := by
  unfold B151_2
  repeat' (first
    | (with_reducible assumption)
    | (exact HK.no)
    | (with_reducible refine HK.ite (fun _ => ?_) (fun _ => ?_))
    | (with_reducible refine HK.cU ?_ (fun _ _ => ?_))
    | (with_reducible refine HK.cI ?_ (fun _ _ _ => ?_))
    | (with_reducible refine HK.cP (fun _ _ => ?_))
    | (with_reducible refine HK.cT ?_ (fun _ _ _ => ?_) (fun _ _ _ => ?_))
    | (with_reducible refine HK.cL (HK.yl (fun _ _ _ => ?_) _ _ _ ?_) (fun _ _ _ => ?_) (fun _ _ _ => ?_))
    | (with_reducible refine HK.cQ (fun _ => ?_) (fun _ => ?_))
    | (with_reducible refine HK.soU ?_)
    | (with_reducible refine HK.soP ?_)
    | (with_reducible refine HK.so1 ?_)
    | (with_reducible refine HK.so2 ?_)
    | (with_reducible refine HK.so3 ?_)
    | (with_reducible refine KP.up ?_ ?_)
    | (exact fun h => by have := hP _ _ h; omega)
    | (exact fun q h => by have := hP _ _ h; omega))

theorem kma_B151_24 (hP : ∀ a q, P a q → ¬ (a = 376 ∧ 45 ≤ q ∧ q ≤ 47) ∧ ¬ (404 ≤ a ∧ a ≤ 407)) {f : Nat} {x1 : Int} {m : yM} (hm : KP P m0 m) : HK mB (KP P m0) (B151_24 f x1 m) := by
  unfold B151_24
  repeat' (first
    | (with_reducible assumption)
    | (exact HK.no)
    | (with_reducible refine HK.ite (fun _ => ?_) (fun _ => ?_))
    | (with_reducible refine HK.cU ?_ (fun _ _ => ?_))
    | (with_reducible refine HK.cI ?_ (fun _ _ _ => ?_))
    | (with_reducible refine HK.cP (fun _ _ => ?_))
    | (with_reducible refine HK.cT ?_ (fun _ _ _ => ?_) (fun _ _ _ => ?_))
    | (with_reducible refine HK.cL (HK.yl (fun _ _ _ => ?_) _ _ _ ?_) (fun _ _ _ => ?_) (fun _ _ _ => ?_))
    | (with_reducible refine HK.cQ (fun _ => ?_) (fun _ => ?_))
    | (with_reducible refine HK.soU ?_)
    | (with_reducible refine HK.soP ?_)
    | (with_reducible refine HK.so1 ?_)
    | (with_reducible refine HK.so2 ?_)
    | (with_reducible refine HK.so3 ?_)
    | (with_reducible refine KP.up ?_ ?_)
    | (exact fun h => by have := hP _ _ h; omega)
    | (exact fun q h => by have := hP _ _ h; omega))

theorem kma_B151_46 (hP : ∀ a q, P a q → ¬ (a = 376 ∧ 45 ≤ q ∧ q ≤ 47) ∧ ¬ (404 ≤ a ∧ a ≤ 407)) {f : Nat} {x1 : Int} {m : yM} (hm : KP P m0 m) : HK mB (KP P m0) (B151_46 f x1 m) := by
  unfold B151_46
  repeat' (first
    | (with_reducible assumption)
    | (exact HK.no)
    | (with_reducible refine HK.ite (fun _ => ?_) (fun _ => ?_))
    | (with_reducible refine HK.cU ?_ (fun _ _ => ?_))
    | (with_reducible refine HK.cI ?_ (fun _ _ _ => ?_))
    | (with_reducible refine HK.cP (fun _ _ => ?_))
    | (with_reducible refine HK.cT ?_ (fun _ _ _ => ?_) (fun _ _ _ => ?_))
    | (with_reducible refine HK.cL (HK.yl (fun _ _ _ => ?_) _ _ _ ?_) (fun _ _ _ => ?_) (fun _ _ _ => ?_))
    | (with_reducible refine HK.cQ (fun _ => ?_) (fun _ => ?_))
    | (with_reducible refine HK.soU ?_)
    | (with_reducible refine HK.soP ?_)
    | (with_reducible refine HK.so1 ?_)
    | (with_reducible refine HK.so2 ?_)
    | (with_reducible refine HK.so3 ?_)
    | (with_reducible refine KP.up ?_ ?_)
    | (exact fun h => by have := hP _ _ h; omega)
    | (exact fun q h => by have := hP _ _ h; omega))

theorem kma_B151_67 (hP : ∀ a q, P a q → ¬ (a = 376 ∧ 45 ≤ q ∧ q ≤ 47) ∧ ¬ (404 ≤ a ∧ a ≤ 407)) {f : Nat} {x1 : Int} {m : yM} (hm : KP P m0 m) : HK mB (KP P m0) (B151_67 f x1 m) := by
  unfold B151_67
  repeat' (first
    | (with_reducible assumption)
    | (exact HK.no)
    | (with_reducible refine HK.ite (fun _ => ?_) (fun _ => ?_))
    | (with_reducible refine HK.cU ?_ (fun _ _ => ?_))
    | (with_reducible refine HK.cI ?_ (fun _ _ _ => ?_))
    | (with_reducible refine HK.cP (fun _ _ => ?_))
    | (with_reducible refine HK.cT ?_ (fun _ _ _ => ?_) (fun _ _ _ => ?_))
    | (with_reducible refine HK.cL (HK.yl (fun _ _ _ => ?_) _ _ _ ?_) (fun _ _ _ => ?_) (fun _ _ _ => ?_))
    | (with_reducible refine HK.cQ (fun _ => ?_) (fun _ => ?_))
    | (with_reducible refine HK.soU ?_)
    | (with_reducible refine HK.soP ?_)
    | (with_reducible refine HK.so1 ?_)
    | (with_reducible refine HK.so2 ?_)
    | (with_reducible refine HK.so3 ?_)
    | (with_reducible refine KP.up ?_ ?_)
    | (exact fun h => by have := hP _ _ h; omega)
    | (exact fun q h => by have := hP _ _ h; omega))

theorem kma_J151_219 (hP : ∀ a q, P a q → ¬ (a = 376 ∧ 45 ≤ q ∧ q ≤ 47) ∧ ¬ (404 ≤ a ∧ a ≤ 407)) {f : Nat} {x2 : Int} {m : yM} (hm : KP P m0 m) : HK mB (KP P m0) (J151_219 f x2 m) := by
  unfold J151_219
  repeat' (first
    | (with_reducible assumption)
    | (exact HK.no)
    | (with_reducible refine HK.ite (fun _ => ?_) (fun _ => ?_))
    | (with_reducible refine HK.cU ?_ (fun _ _ => ?_))
    | (with_reducible refine HK.cI ?_ (fun _ _ _ => ?_))
    | (with_reducible refine HK.cP (fun _ _ => ?_))
    | (with_reducible refine HK.cT ?_ (fun _ _ _ => ?_) (fun _ _ _ => ?_))
    | (with_reducible refine HK.cL (HK.yl (fun _ _ _ => ?_) _ _ _ ?_) (fun _ _ _ => ?_) (fun _ _ _ => ?_))
    | (with_reducible refine HK.cQ (fun _ => ?_) (fun _ => ?_))
    | (with_reducible refine HK.soU ?_)
    | (with_reducible refine HK.soP ?_)
    | (with_reducible refine HK.so1 ?_)
    | (with_reducible refine HK.so2 ?_)
    | (with_reducible refine HK.so3 ?_)
    | (with_reducible refine KP.up ?_ ?_)
    | (exact fun h => by have := hP _ _ h; omega)
    | (exact fun q h => by have := hP _ _ h; omega))

theorem kma_B151_167 (hP : ∀ a q, P a q → ¬ (a = 376 ∧ 45 ≤ q ∧ q ≤ 47) ∧ ¬ (404 ≤ a ∧ a ≤ 407)) {f : Nat} {x2 : Int} {m : yM} (hm : KP P m0 m) : HK mB (KP P m0) (B151_167 f x2 m) := by
  unfold B151_167
  repeat' (first
    | (with_reducible assumption)
    | (with_reducible refine kma_J151_219 hP ?_)
    | (with_reducible refine kma_F150 hP ?_)
    | (exact HK.no)
    | (with_reducible refine HK.ite (fun _ => ?_) (fun _ => ?_))
    | (with_reducible refine HK.cU ?_ (fun _ _ => ?_))
    | (with_reducible refine HK.cI ?_ (fun _ _ _ => ?_))
    | (with_reducible refine HK.cP (fun _ _ => ?_))
    | (with_reducible refine HK.cT ?_ (fun _ _ _ => ?_) (fun _ _ _ => ?_))
    | (with_reducible refine HK.cL (HK.yl (fun _ _ _ => ?_) _ _ _ ?_) (fun _ _ _ => ?_) (fun _ _ _ => ?_))
    | (with_reducible refine HK.cQ (fun _ => ?_) (fun _ => ?_))
    | (with_reducible refine HK.soU ?_)
    | (with_reducible refine HK.soP ?_)
    | (with_reducible refine HK.so1 ?_)
    | (with_reducible refine HK.so2 ?_)
    | (with_reducible refine HK.so3 ?_)
    | (with_reducible refine KP.up ?_ ?_)
    | (exact fun h => by have := hP _ _ h; omega)
    | (exact fun q h => by have := hP _ _ h; omega))

theorem kma_B151_143 (hP : ∀ a q, P a q → ¬ (a = 376 ∧ 45 ≤ q ∧ q ≤ 47) ∧ ¬ (404 ≤ a ∧ a ≤ 407)) {f : Nat} {m : yM} (hm : KP P m0 m) : HK mB (KP P m0) (B151_143 f m) := by
  unfold B151_143
  repeat' (first
    | (with_reducible assumption)
    | (with_reducible refine kma_B151_167 hP ?_)
    | (exact HK.no)
    | (with_reducible refine HK.ite (fun _ => ?_) (fun _ => ?_))
    | (with_reducible refine HK.cU ?_ (fun _ _ => ?_))
    | (with_reducible refine HK.cI ?_ (fun _ _ _ => ?_))
    | (with_reducible refine HK.cP (fun _ _ => ?_))
    | (with_reducible refine HK.cT ?_ (fun _ _ _ => ?_) (fun _ _ _ => ?_))
    | (with_reducible refine HK.cL (HK.yl (fun _ _ _ => ?_) _ _ _ ?_) (fun _ _ _ => ?_) (fun _ _ _ => ?_))
    | (with_reducible refine HK.cQ (fun _ => ?_) (fun _ => ?_))
    | (with_reducible refine HK.soU ?_)
    | (with_reducible refine HK.soP ?_)
    | (with_reducible refine HK.so1 ?_)
    | (with_reducible refine HK.so2 ?_)
    | (with_reducible refine HK.so3 ?_)
    | (with_reducible refine KP.up ?_ ?_)
    | (exact fun h => by have := hP _ _ h; omega)
    | (exact fun q h => by have := hP _ _ h; omega))

theorem kma_F151 (hP : ∀ a q, P a q → ¬ (a = 376 ∧ 45 ≤ q ∧ q ≤ 47) ∧ ¬ (404 ≤ a ∧ a ≤ 407)) {f : Nat} {m : yM} (hm : KP P m0 m) : HK id (KP P m0) (F151 f m) := by
  unfold F151
  repeat' (first
    | (with_reducible assumption)
    | (with_reducible refine kma_B151_2 hP ?_)
    | (with_reducible refine kma_B151_24 hP ?_)
    | (with_reducible refine kma_B151_46 hP ?_)
    | (with_reducible refine kma_B151_67 hP ?_)
    | (with_reducible refine kma_B151_143 hP ?_)
    | (exact HK.no)
    | (with_reducible refine HK.ite (fun _ => ?_) (fun _ => ?_))
    | (with_reducible refine HK.cU ?_ (fun _ _ => ?_))
    | (with_reducible refine HK.cI ?_ (fun _ _ _ => ?_))
    | (with_reducible refine HK.cP (fun _ _ => ?_))
    | (with_reducible refine HK.cT ?_ (fun _ _ _ => ?_) (fun _ _ _ => ?_))
    | (with_reducible refine HK.cL (HK.yl (fun _ _ _ => ?_) _ _ _ ?_) (fun _ _ _ => ?_) (fun _ _ _ => ?_))
    | (with_reducible refine HK.cQ (fun _ => ?_) (fun _ => ?_))
    | (with_reducible refine HK.soU ?_)
    | (with_reducible refine HK.soP ?_)
    | (with_reducible refine HK.so1 ?_)
    | (with_reducible refine HK.so2 ?_)
    | (with_reducible refine HK.so3 ?_)
    | (with_reducible refine KP.up ?_ ?_)
    | (exact fun h => by have := hP _ _ h; omega)
    | (exact fun q h => by have := hP _ _ h; omega))

end FRma

section FRmr
variable {P : Nat → Nat → Prop} {m0 : yM}

theorem kmr_J23_10 (hP : ∀ a q, P a q → ¬ (a = 376 ∧ (q = 51 ∨ (54 ≤ q ∧ q ≤ 57))) ∧ ¬ (408 ≤ a ∧ a ≤ 412)) {f : Nat} {x1 : Int} {xs1 : Int} {m : yM} (hm : KP P m0 m) : HK (fun x => x.2) (KP P m0) (J23_10 f x1 xs1 m) := by
  unfold J23_10
  repeat' (first
    | (with_reducible assumption)
    | (exact HK.no)
    | (with_reducible refine HK.ite (fun _ => ?_) (fun _ => ?_))
    | (with_reducible refine HK.cU ?_ (fun _ _ => ?_))
    | (with_reducible refine HK.cI ?_ (fun _ _ _ => ?_))
    | (with_reducible refine HK.cP (fun _ _ => ?_))
    | (with_reducible refine HK.cT ?_ (fun _ _ _ => ?_) (fun _ _ _ => ?_))
    | (with_reducible refine HK.cL (HK.yl (fun _ _ _ => ?_) _ _ _ ?_) (fun _ _ _ => ?_) (fun _ _ _ => ?_))
    | (with_reducible refine HK.cQ (fun _ => ?_) (fun _ => ?_))
    | (with_reducible refine HK.soU ?_)
    | (with_reducible refine HK.soP ?_)
    | (with_reducible refine HK.so1 ?_)
    | (with_reducible refine HK.so2 ?_)
    | (with_reducible refine HK.so3 ?_)
    | (with_reducible refine KP.up ?_ ?_)
    | (exact fun h => by have := hP _ _ h; omega)
    | (exact fun q h => by have := hP _ _ h; omega))

theorem kmr_F23 (hP : ∀ a q, P a q → ¬ (a = 376 ∧ (q = 51 ∨ (54 ≤ q ∧ q ≤ 57))) ∧ ¬ (408 ≤ a ∧ a ≤ 412)) {f : Nat} {x1 : Int} {x2 : Int} {m : yM} (hm : KP P m0 m) : HK (fun x => x.2) (KP P m0) (F23 f x1 x2 m) := by
  unfold F23
  repeat' (first
    | (with_reducible assumption)
    | (with_reducible refine kmr_J23_10 hP ?_)
    | (exact HK.no)
    | (with_reducible refine HK.ite (fun _ => ?_) (fun _ => ?_))
    | (with_reducible refine HK.cU ?_ (fun _ _ => ?_))
    | (with_reducible refine HK.cI ?_ (fun _ _ _ => ?_))
    | (with_reducible refine HK.cP (fun _ _ => ?_))
    | (with_reducible refine HK.cT ?_ (fun _ _ _ => ?_) (fun _ _ _ => ?_))
    | (with_reducible refine HK.cL (HK.yl (fun _ _ _ => ?_) _ _ _ ?_) (fun _ _ _ => ?_) (fun _ _ _ => ?_))
    | (with_reducible refine HK.cQ (fun _ => ?_) (fun _ => ?_))
    | (with_reducible refine HK.soU ?_)
    | (with_reducible refine HK.soP ?_)
    | (with_reducible refine HK.so1 ?_)
    | (with_reducible refine HK.so2 ?_)
    | (with_reducible refine HK.so3 ?_)
    | (with_reducible refine KP.up ?_ ?_)
    | (exact fun h => by have := hP _ _ h; omega)
    | (exact fun q h => by have := hP _ _ h; omega))

theorem kmr_J162_17 (hP : ∀ a q, P a q → ¬ (a = 376 ∧ (q = 51 ∨ (54 ≤ q ∧ q ≤ 57))) ∧ ¬ (408 ≤ a ∧ a ≤ 412)) {f : Nat} {xs1 : Int} {m : yM} (hm : KP P m0 m) : HK (fun x => x.2) (KP P m0) (J162_17 f xs1 m) := by
  unfold J162_17
  repeat' (first
    | (with_reducible assumption)
    | (with_reducible refine kmr_F23 hP ?_)
    | (exact HK.no)
    | (with_reducible refine HK.ite (fun _ => ?_) (fun _ => ?_))
    | (with_reducible refine HK.cU ?_ (fun _ _ => ?_))
    | (with_reducible refine HK.cI ?_ (fun _ _ _ => ?_))
    | (with_reducible refine HK.cP (fun _ _ => ?_))
    | (with_reducible refine HK.cT ?_ (fun _ _ _ => ?_) (fun _ _ _ => ?_))
    | (with_reducible refine HK.cL (HK.yl (fun _ _ _ => ?_) _ _ _ ?_) (fun _ _ _ => ?_) (fun _ _ _ => ?_))
    | (with_reducible refine HK.cQ (fun _ => ?_) (fun _ => ?_))
    | (with_reducible refine HK.soU ?_)
    | (with_reducible refine HK.soP ?_)
    | (with_reducible refine HK.so1 ?_)
    | (with_reducible refine HK.so2 ?_)
    | (with_reducible refine HK.so3 ?_)
    | (with_reducible refine KP.up ?_ ?_)
    | (exact fun h => by have := hP _ _ h; omega)
    | (exact fun q h => by have := hP _ _ h; omega))

theorem kmr_J162_16 (hP : ∀ a q, P a q → ¬ (a = 376 ∧ (q = 51 ∨ (54 ≤ q ∧ q ≤ 57))) ∧ ¬ (408 ≤ a ∧ a ≤ 412)) {f : Nat} {m : yM} (hm : KP P m0 m) : HK (fun x => x.2) (KP P m0) (J162_16 f m) := by
  unfold J162_16
  repeat' (first
    | (with_reducible assumption)
    | (with_reducible refine kmr_J162_17 hP ?_)
    | (exact HK.no)
    | (with_reducible refine HK.ite (fun _ => ?_) (fun _ => ?_))
    | (with_reducible refine HK.cU ?_ (fun _ _ => ?_))
    | (with_reducible refine HK.cI ?_ (fun _ _ _ => ?_))
    | (with_reducible refine HK.cP (fun _ _ => ?_))
    | (with_reducible refine HK.cT ?_ (fun _ _ _ => ?_) (fun _ _ _ => ?_))
    | (with_reducible refine HK.cL (HK.yl (fun _ _ _ => ?_) _ _ _ ?_) (fun _ _ _ => ?_) (fun _ _ _ => ?_))
    | (with_reducible refine HK.cQ (fun _ => ?_) (fun _ => ?_))
    | (with_reducible refine HK.soU ?_)
    | (with_reducible refine HK.soP ?_)
    | (with_reducible refine HK.so1 ?_)
    | (with_reducible refine HK.so2 ?_)
    | (with_reducible refine HK.so3 ?_)
    | (with_reducible refine KP.up ?_ ?_)
    | (exact fun h => by have := hP _ _ h; omega)
    | (exact fun q h => by have := hP _ _ h; omega))

theorem kmr_F162 (hP : ∀ a q, P a q → ¬ (a = 376 ∧ (q = 51 ∨ (54 ≤ q ∧ q ≤ 57))) ∧ ¬ (408 ≤ a ∧ a ≤ 412)) {f : Nat} {x1 : Int} {m : yM} (hm : KP P m0 m) : HK (fun x => x.2) (KP P m0) (F162 f x1 m) := by
  unfold F162
  repeat' (first
    | (with_reducible assumption)
    | (with_reducible refine kmr_J162_16 hP ?_)
    | (with_reducible refine kmr_J162_17 hP ?_)
    | (exact HK.no)
    | (with_reducible refine HK.ite (fun _ => ?_) (fun _ => ?_))
    | (with_reducible refine HK.cU ?_ (fun _ _ => ?_))
    | (with_reducible refine HK.cI ?_ (fun _ _ _ => ?_))
    | (with_reducible refine HK.cP (fun _ _ => ?_))
    | (with_reducible refine HK.cT ?_ (fun _ _ _ => ?_) (fun _ _ _ => ?_))
    | (with_reducible refine HK.cL (HK.yl (fun _ _ _ => ?_) _ _ _ ?_) (fun _ _ _ => ?_) (fun _ _ _ => ?_))
    | (with_reducible refine HK.cQ (fun _ => ?_) (fun _ => ?_))
    | (with_reducible refine HK.soU ?_)
    | (with_reducible refine HK.soP ?_)
    | (with_reducible refine HK.so1 ?_)
    | (with_reducible refine HK.so2 ?_)
    | (with_reducible refine HK.so3 ?_)
    | (with_reducible refine KP.up ?_ ?_)
    | (exact fun h => by have := hP _ _ h; omega)
    | (exact fun q h => by have := hP _ _ h; omega))

theorem kmr_B201_28 (hP : ∀ a q, P a q → ¬ (a = 376 ∧ (q = 51 ∨ (54 ≤ q ∧ q ≤ 57))) ∧ ¬ (408 ≤ a ∧ a ≤ 412)) {f : Nat} {x2 : Int} {m : yM} (hm : KP P m0 m) : HK mB (KP P m0) (B201_28 f x2 m) := by
  unfold B201_28
  repeat' (first
    | (with_reducible assumption)
    | (exact HK.no)
    | (with_reducible refine HK.ite (fun _ => ?_) (fun _ => ?_))
    | (with_reducible refine HK.cU ?_ (fun _ _ => ?_))
    | (with_reducible refine HK.cI ?_ (fun _ _ _ => ?_))
    | (with_reducible refine HK.cP (fun _ _ => ?_))
    | (with_reducible refine HK.cT ?_ (fun _ _ _ => ?_) (fun _ _ _ => ?_))
    | (with_reducible refine HK.cL (HK.yl (fun _ _ _ => ?_) _ _ _ ?_) (fun _ _ _ => ?_) (fun _ _ _ => ?_))
    | (with_reducible refine HK.cQ (fun _ => ?_) (fun _ => ?_))
    | (with_reducible refine HK.soU ?_)
    | (with_reducible refine HK.soP ?_)
    | (with_reducible refine HK.so1 ?_)
    | (with_reducible refine HK.so2 ?_)
    | (with_reducible refine HK.so3 ?_)
    | (with_reducible refine KP.up ?_ ?_)
    | (exact fun h => by have := hP _ _ h; omega)
    | (exact fun q h => by have := hP _ _ h; omega))

theorem kmr_F201 (hP : ∀ a q, P a q → ¬ (a = 376 ∧ (q = 51 ∨ (54 ≤ q ∧ q ≤ 57))) ∧ ¬ (408 ≤ a ∧ a ≤ 412)) {f : Nat} {x1 : Int} {m : yM} (hm : KP P m0 m) : HK (fun x => x.2) (KP P m0) (F201 f x1 m) := by
  unfold F201
  repeat' (first
    | (with_reducible assumption)
    | (with_reducible refine kmr_B201_28 hP ?_)
    | (exact HK.no)
    | (with_reducible refine HK.ite (fun _ => ?_) (fun _ => ?_))
    | (with_reducible refine HK.cU ?_ (fun _ _ => ?_))
    | (with_reducible refine HK.cI ?_ (fun _ _ _ => ?_))
    | (with_reducible refine HK.cP (fun _ _ => ?_))
    | (with_reducible refine HK.cT ?_ (fun _ _ _ => ?_) (fun _ _ _ => ?_))
    | (with_reducible refine HK.cL (HK.yl (fun _ _ _ => ?_) _ _ _ ?_) (fun _ _ _ => ?_) (fun _ _ _ => ?_))
    | (with_reducible refine HK.cQ (fun _ => ?_) (fun _ => ?_))
    | (with_reducible refine HK.soU ?_)
    | (with_reducible refine HK.soP ?_)
    | (with_reducible refine HK.so1 ?_)
    | (with_reducible refine HK.so2 ?_)
    | (with_reducible refine HK.so3 ?_)
    | (with_reducible refine KP.up ?_ ?_)
    | (exact fun h => by have := hP _ _ h; omega)
    | (exact fun q h => by have := hP _ _ h; omega))

theorem kmr_F202 (hP : ∀ a q, P a q → ¬ (a = 376 ∧ (q = 51 ∨ (54 ≤ q ∧ q ≤ 57))) ∧ ¬ (408 ≤ a ∧ a ≤ 412)) {f : Nat} {x1 : Int} {x2 : Int} {m : yM} (hm : KP P m0 m) : HK id (KP P m0) (F202 f x1 x2 m) := by
  unfold F202
  repeat' (first
    | (with_reducible assumption)
    | (exact HK.no)
    | (with_reducible refine HK.ite (fun _ => ?_) (fun _ => ?_))
    | (with_reducible refine HK.cU ?_ (fun _ _ => ?_))
    | (with_reducible refine HK.cI ?_ (fun _ _ _ => ?_))
    | (with_reducible refine HK.cP (fun _ _ => ?_))
    | (with_reducible refine HK.cT ?_ (fun _ _ _ => ?_) (fun _ _ _ => ?_))
    | (with_reducible refine HK.cL (HK.yl (fun _ _ _ => ?_) _ _ _ ?_) (fun _ _ _ => ?_) (fun _ _ _ => ?_))
    | (with_reducible refine HK.cQ (fun _ => ?_) (fun _ => ?_))
    | (with_reducible refine HK.soU ?_)
    | (with_reducible refine HK.soP ?_)
    | (with_reducible refine HK.so1 ?_)
    | (with_reducible refine HK.so2 ?_)
    | (with_reducible refine HK.so3 ?_)
    | (with_reducible refine KP.up ?_ ?_)
    | (exact fun h => by have := hP _ _ h; omega)
    | (exact fun q h => by have := hP _ _ h; omega))

theorem kmr_B203_38 (hP : ∀ a q, P a q → ¬ (a = 376 ∧ (q = 51 ∨ (54 ≤ q ∧ q ≤ 57))) ∧ ¬ (408 ≤ a ∧ a ≤ 412)) {f : Nat} {x1 : Int} {x2 : Int} {x3 : Int} {x4 : Int} {x6 : Int} {m : yM} (hm : KP P m0 m) : HK mB (KP P m0) (B203_38 f x1 x2 x3 x4 x6 m) := by
  unfold B203_38
  repeat' (first
    | (with_reducible assumption)
    | (exact HK.no)
    | (with_reducible refine HK.ite (fun _ => ?_) (fun _ => ?_))
    | (with_reducible refine HK.cU ?_ (fun _ _ => ?_))
    | (with_reducible refine HK.cI ?_ (fun _ _ _ => ?_))
    | (with_reducible refine HK.cP (fun _ _ => ?_))
    | (with_reducible refine HK.cT ?_ (fun _ _ _ => ?_) (fun _ _ _ => ?_))
    | (with_reducible refine HK.cL (HK.yl (fun _ _ _ => ?_) _ _ _ ?_) (fun _ _ _ => ?_) (fun _ _ _ => ?_))
    | (with_reducible refine HK.cQ (fun _ => ?_) (fun _ => ?_))
    | (with_reducible refine HK.soU ?_)
    | (with_reducible refine HK.soP ?_)
    | (with_reducible refine HK.so1 ?_)
    | (with_reducible refine HK.so2 ?_)
    | (with_reducible refine HK.so3 ?_)
    | (with_reducible refine KP.up ?_ ?_)
    | (exact fun h => by have := hP _ _ h; omega)
    | (exact fun q h => by have := hP _ _ h; omega))

theorem kmr_J203_148 (hP : ∀ a q, P a q → ¬ (a = 376 ∧ (q = 51 ∨ (54 ≤ q ∧ q ≤ 57))) ∧ ¬ (408 ≤ a ∧ a ≤ 412)) {f : Nat} {x1 : Int} {m : yM} (hm : KP P m0 m) : HK id (KP P m0) (J203_148 f x1 m) := by
  unfold J203_148
  repeat' (first
    | (with_reducible assumption)
    | (exact HK.no)
    | (with_reducible refine HK.ite (fun _ => ?_) (fun _ => ?_))
    | (with_reducible refine HK.cU ?_ (fun _ _ => ?_))
    | (with_reducible refine HK.cI ?_ (fun _ _ _ => ?_))
    | (with_reducible refine HK.cP (fun _ _ => ?_))
    | (with_reducible refine HK.cT ?_ (fun _ _ _ => ?_) (fun _ _ _ => ?_))
    | (with_reducible refine HK.cL (HK.yl (fun _ _ _ => ?_) _ _ _ ?_) (fun _ _ _ => ?_) (fun _ _ _ => ?_))
    | (with_reducible refine HK.cQ (fun _ => ?_) (fun _ => ?_))
    | (with_reducible refine HK.soU ?_)
    | (with_reducible refine HK.soP ?_)
    | (with_reducible refine HK.so1 ?_)
    | (with_reducible refine HK.so2 ?_)
    | (with_reducible refine HK.so3 ?_)
    | (with_reducible refine KP.up ?_ ?_)
    | (exact fun h => by have := hP _ _ h; omega)
    | (exact fun q h => by have := hP _ _ h; omega))

theorem kmr_J203_120 (hP : ∀ a q, P a q → ¬ (a = 376 ∧ (q = 51 ∨ (54 ≤ q ∧ q ≤ 57))) ∧ ¬ (408 ≤ a ∧ a ≤ 412)) {f : Nat} {x1 : Int} {x4 : Int} {x6 : Int} {m : yM} (hm : KP P m0 m) : HK id (KP P m0) (J203_120 f x1 x4 x6 m) := by
  unfold J203_120
  repeat' (first
    | (with_reducible assumption)
    | (with_reducible refine kmr_F202 hP ?_)
    | (with_reducible refine kmr_J203_148 hP ?_)
    | (exact HK.no)
    | (with_reducible refine HK.ite (fun _ => ?_) (fun _ => ?_))
    | (with_reducible refine HK.cU ?_ (fun _ _ => ?_))
    | (with_reducible refine HK.cI ?_ (fun _ _ _ => ?_))
    | (with_reducible refine HK.cP (fun _ _ => ?_))
    | (with_reducible refine HK.cT ?_ (fun _ _ _ => ?_) (fun _ _ _ => ?_))
    | (with_reducible refine HK.cL (HK.yl (fun _ _ _ => ?_) _ _ _ ?_) (fun _ _ _ => ?_) (fun _ _ _ => ?_))
    | (with_reducible refine HK.cQ (fun _ => ?_) (fun _ => ?_))
    | (with_reducible refine HK.soU ?_)
    | (with_reducible refine HK.soP ?_)
    | (with_reducible refine HK.so1 ?_)
    | (with_reducible refine HK.so2 ?_)
    | (with_reducible refine HK.so3 ?_)
    | (with_reducible refine KP.up ?_ ?_)
    | (exact fun h => by have := hP _ _ h; omega)
    | (exact fun q h => by have := hP _ _ h; omega))

theorem kmr_F203 (hP : ∀ a q, P a q → ¬ (a = 376 ∧ (q = 51 ∨ (54 ≤ q ∧ q ≤ 57))) ∧ ¬ (408 ≤ a ∧ a ≤ 412)) {f : Nat} {x1 : Int} {x2 : Int} {x3 : Int} {x4 : Int} {x5 : Int} {m : yM} (hm : KP P m0 m) : HK id (KP P m0) (F203 f x1 x2 x3 x4 x5 m) := by
  unfold F203
  repeat' (first
    | (with_reducible assumption)
    | (with_reducible refine kmr_B203_38 hP ?_)
    | (with_reducible refine kmr_F202 hP ?_)
    | (with_reducible refine kmr_J203_120 hP ?_)
    | (exact HK.no)
    | (with_reducible refine HK.ite (fun _ => ?_) (fun _ => ?_))
    | (with_reducible refine HK.cU ?_ (fun _ _ => ?_))
    | (with_reducible refine HK.cI ?_ (fun _ _ _ => ?_))
    | (with_reducible refine HK.cP (fun _ _ => ?_))
    | (with_reducible refine HK.cT ?_ (fun _ _ _ => ?_) (fun _ _ _ => ?_))
    | (with_reducible refine HK.cL (HK.yl (fun _ _ _ => ?_) _ _ _ ?_) (fun _ _ _ => ?_) (fun _ _ _ => ?_))
    | (with_reducible refine HK.cQ (fun _ => ?_) (fun _ => ?_))
    | (with_reducible refine HK.soU ?_)
    | (with_reducible refine HK.soP ?_)
    | (with_reducible refine HK.so1 ?_)
    | (with_reducible refine HK.so2 ?_)
    | (with_reducible refine HK.so3 ?_)
    | (with_reducible refine KP.up ?_ ?_)
    | (exact fun h => by have := hP _ _ h; omega)
    | (exact fun q h => by have := hP _ _ h; omega))

theorem kmr_J208_54 (hP : ∀ a q, P a q → ¬ (a = 376 ∧ (q = 51 ∨ (54 ≤ q ∧ q ≤ 57))) ∧ ¬ (408 ≤ a ∧ a ≤ 412)) {f : Nat} {x1 : Int} {x2 : Int} {x3 : Int} {xs1 : Int} {m : yM} (hm : KP P m0 m) : HK id (KP P m0) (J208_54 f x1 x2 x3 xs1 m) := by
  unfold J208_54
  repeat' (first
    | (with_reducible assumption)
    | (with_reducible refine kmr_F23 hP ?_)
    | (with_reducible refine kmr_F202 hP ?_)
    | (exact HK.no)
    | (with_reducible refine HK.ite (fun _ => ?_) (fun _ => ?_))
    | (with_reducible refine HK.cU ?_ (fun _ _ => ?_))
    | (with_reducible refine HK.cI ?_ (fun _ _ _ => ?_))
    | (with_reducible refine HK.cP (fun _ _ => ?_))
    | (with_reducible refine HK.cT ?_ (fun _ _ _ => ?_) (fun _ _ _ => ?_))
    | (with_reducible refine HK.cL (HK.yl (fun _ _ _ => ?_) _ _ _ ?_) (fun _ _ _ => ?_) (fun _ _ _ => ?_))
    | (with_reducible refine HK.cQ (fun _ => ?_) (fun _ => ?_))
    | (with_reducible refine HK.soU ?_)
    | (with_reducible refine HK.soP ?_)
    | (with_reducible refine HK.so1 ?_)
    | (with_reducible refine HK.so2 ?_)
    | (with_reducible refine HK.so3 ?_)
    | (with_reducible refine KP.up ?_ ?_)
    | (exact fun h => by have := hP _ _ h; omega)
    | (exact fun q h => by have := hP _ _ h; omega))

theorem kmr_J208_40 (hP : ∀ a q, P a q → ¬ (a = 376 ∧ (q = 51 ∨ (54 ≤ q ∧ q ≤ 57))) ∧ ¬ (408 ≤ a ∧ a ≤ 412)) {f : Nat} {x1 : Int} {x2 : Int} {xs1 : Int} {m : yM} (hm : KP P m0 m) : HK id (KP P m0) (J208_40 f x1 x2 xs1 m) := by
  unfold J208_40
  repeat' (first
    | (with_reducible assumption)
    | (with_reducible refine kmr_J208_54 hP ?_)
    | (exact HK.no)
    | (with_reducible refine HK.ite (fun _ => ?_) (fun _ => ?_))
    | (with_reducible refine HK.cU ?_ (fun _ _ => ?_))
    | (with_reducible refine HK.cI ?_ (fun _ _ _ => ?_))
    | (with_reducible refine HK.cP (fun _ _ => ?_))
    | (with_reducible refine HK.cT ?_ (fun _ _ _ => ?_) (fun _ _ _ => ?_))
    | (with_reducible refine HK.cL (HK.yl (fun _ _ _ => ?_) _ _ _ ?_) (fun _ _ _ => ?_) (fun _ _ _ => ?_))
    | (with_reducible refine HK.cQ (fun _ => ?_) (fun _ => ?_))
    | (with_reducible refine HK.soU ?_)
    | (with_reducible refine HK.soP ?_)
    | (with_reducible refine HK.so1 ?_)
    | (with_reducible refine HK.so2 ?_)
    | (with_reducible refine HK.so3 ?_)
    | (with_reducible refine KP.up ?_ ?_)
    | (exact fun h => by have := hP _ _ h; omega)
    | (exact fun q h => by have := hP _ _ h; omega))

theorem kmr_J208_15 (hP : ∀ a q, P a q → ¬ (a = 376 ∧ (q = 51 ∨ (54 ≤ q ∧ q ≤ 57))) ∧ ¬ (408 ≤ a ∧ a ≤ 412)) {f : Nat} {x1 : Int} {xs0 : Int} {m : yM} (hm : KP P m0 m) : HK id (KP P m0) (J208_15 f x1 xs0 m) := by
  unfold J208_15
  repeat' (first
    | (with_reducible assumption)
    | (with_reducible refine kmr_J208_40 hP ?_)
    | (exact HK.no)
    | (with_reducible refine HK.ite (fun _ => ?_) (fun _ => ?_))
    | (with_reducible refine HK.cU ?_ (fun _ _ => ?_))
    | (with_reducible refine HK.cI ?_ (fun _ _ _ => ?_))
    | (with_reducible refine HK.cP (fun _ _ => ?_))
    | (with_reducible refine HK.cT ?_ (fun _ _ _ => ?_) (fun _ _ _ => ?_))
    | (with_reducible refine HK.cL (HK.yl (fun _ _ _ => ?_) _ _ _ ?_) (fun _ _ _ => ?_) (fun _ _ _ => ?_))
    | (with_reducible refine HK.cQ (fun _ => ?_) (fun _ => ?_))
    | (with_reducible refine HK.soU ?_)
    | (with_reducible refine HK.soP ?_)
    | (with_reducible refine HK.so1 ?_)
    | (with_reducible refine HK.so2 ?_)
    | (with_reducible refine HK.so3 ?_)
    | (with_reducible refine KP.up ?_ ?_)
    | (exact fun h => by have := hP _ _ h; omega)
    | (exact fun q h => by have := hP _ _ h; omega))

theorem kmr_F208 (hP : ∀ a q, P a q → ¬ (a = 376 ∧ (q = 51 ∨ (54 ≤ q ∧ q ≤ 57))) ∧ ¬ (408 ≤ a ∧ a ≤ 412)) {f : Nat} {x1 : Int} {m : yM} (hm : KP P m0 m) : HK id (KP P m0) (F208 f x1 m) := by
  unfold F208
  repeat' (first
    | (with_reducible assumption)
    | (with_reducible refine kmr_J208_15 hP ?_)
    | (exact HK.no)
    | (with_reducible refine HK.ite (fun _ => ?_) (fun _ => ?_))
    | (with_reducible refine HK.cU ?_ (fun _ _ => ?_))
    | (with_reducible refine HK.cI ?_ (fun _ _ _ => ?_))
    | (with_reducible refine HK.cP (fun _ _ => ?_))
    | (with_reducible refine HK.cT ?_ (fun _ _ _ => ?_) (fun _ _ _ => ?_))
    | (with_reducible refine HK.cL (HK.yl (fun _ _ _ => ?_) _ _ _ ?_) (fun _ _ _ => ?_) (fun _ _ _ => ?_))
    | (with_reducible refine HK.cQ (fun _ => ?_) (fun _ => ?_))
    | (with_reducible refine HK.soU ?_)
    | (with_reducible refine HK.soP ?_)
    | (with_reducible refine HK.so1 ?_)
    | (with_reducible refine HK.so2 ?_)
    | (with_reducible refine HK.so3 ?_)
    | (with_reducible refine KP.up ?_ ?_)
    | (exact fun h => by have := hP _ _ h; omega)
    | (exact fun q h => by have := hP _ _ h; omega))

theorem kmr_J209_66 (hP : ∀ a q, P a q → ¬ (a = 376 ∧ (q = 51 ∨ (54 ≤ q ∧ q ≤ 57))) ∧ ¬ (408 ≤ a ∧ a ≤ 412)) {f : Nat} {x1 : Int} {m : yM} (hm : KP P m0 m) : HK id (KP P m0) (J209_66 f x1 m) := by
  unfold J209_66
  repeat' (first
    | (with_reducible assumption)
    | (with_reducible refine kmr_F208 hP ?_)
    | (exact HK.no)
    | (with_reducible refine HK.ite (fun _ => ?_) (fun _ => ?_))
    | (with_reducible refine HK.cU ?_ (fun _ _ => ?_))
    | (with_reducible refine HK.cI ?_ (fun _ _ _ => ?_))
    | (with_reducible refine HK.cP (fun _ _ => ?_))
    | (with_reducible refine HK.cT ?_ (fun _ _ _ => ?_) (fun _ _ _ => ?_))
    | (with_reducible refine HK.cL (HK.yl (fun _ _ _ => ?_) _ _ _ ?_) (fun _ _ _ => ?_) (fun _ _ _ => ?_))
    | (with_reducible refine HK.cQ (fun _ => ?_) (fun _ => ?_))
    | (with_reducible refine HK.soU ?_)
    | (with_reducible refine HK.soP ?_)
    | (with_reducible refine HK.so1 ?_)
    | (with_reducible refine HK.so2 ?_)
    | (with_reducible refine HK.so3 ?_)
    | (with_reducible refine KP.up ?_ ?_)
    | (exact fun h => by have := hP _ _ h; omega)
    | (exact fun q h => by have := hP _ _ h; omega))

theorem kmr_J209_172 (hP : ∀ a q, P a q → ¬ (a = 376 ∧ (q = 51 ∨ (54 ≤ q ∧ q ≤ 57))) ∧ ¬ (408 ≤ a ∧ a ≤ 412)) {f : Nat} {x3 : Int} {x4 : Int} {xs0 : Int} {m : yM} (hm : KP P m0 m) : HK id (KP P m0) (J209_172 f x3 x4 xs0 m) := by
  unfold J209_172
  repeat' (first
    | (with_reducible assumption)
    | (with_reducible refine kmr_F23 hP ?_)
    | (with_reducible refine kmr_F202 hP ?_)
    | (exact HK.no)
    | (with_reducible refine HK.ite (fun _ => ?_) (fun _ => ?_))
    | (with_reducible refine HK.cU ?_ (fun _ _ => ?_))
    | (with_reducible refine HK.cI ?_ (fun _ _ _ => ?_))
    | (with_reducible refine HK.cP (fun _ _ => ?_))
    | (with_reducible refine HK.cT ?_ (fun _ _ _ => ?_) (fun _ _ _ => ?_))
    | (with_reducible refine HK.cL (HK.yl (fun _ _ _ => ?_) _ _ _ ?_) (fun _ _ _ => ?_) (fun _ _ _ => ?_))
    | (with_reducible refine HK.cQ (fun _ => ?_) (fun _ => ?_))
    | (with_reducible refine HK.soU ?_)
    | (with_reducible refine HK.soP ?_)
    | (with_reducible refine HK.so1 ?_)
    | (with_reducible refine HK.so2 ?_)
    | (with_reducible refine HK.so3 ?_)
    | (with_reducible refine KP.up ?_ ?_)
    | (exact fun h => by have := hP _ _ h; omega)
    | (exact fun q h => by have := hP _ _ h; omega))

theorem kmr_J209_167 (hP : ∀ a q, P a q → ¬ (a = 376 ∧ (q = 51 ∨ (54 ≤ q ∧ q ≤ 57))) ∧ ¬ (408 ≤ a ∧ a ≤ 412)) {f : Nat} {x3 : Int} {x4 : Int} {m : yM} (hm : KP P m0 m) : HK id (KP P m0) (J209_167 f x3 x4 m) := by
  unfold J209_167
  repeat' (first
    | (with_reducible assumption)
    | (with_reducible refine kmr_J209_172 hP ?_)
    | (exact HK.no)
    | (with_reducible refine HK.ite (fun _ => ?_) (fun _ => ?_))
    | (with_reducible refine HK.cU ?_ (fun _ _ => ?_))
    | (with_reducible refine HK.cI ?_ (fun _ _ _ => ?_))
    | (with_reducible refine HK.cP (fun _ _ => ?_))
    | (with_reducible refine HK.cT ?_ (fun _ _ _ => ?_) (fun _ _ _ => ?_))
    | (with_reducible refine HK.cL (HK.yl (fun _ _ _ => ?_) _ _ _ ?_) (fun _ _ _ => ?_) (fun _ _ _ => ?_))
    | (with_reducible refine HK.cQ (fun _ => ?_) (fun _ => ?_))
    | (with_reducible refine HK.soU ?_)
    | (with_reducible refine HK.soP ?_)
    | (with_reducible refine HK.so1 ?_)
    | (with_reducible refine HK.so2 ?_)
    | (with_reducible refine HK.so3 ?_)
    | (with_reducible refine KP.up ?_ ?_)
    | (exact fun h => by have := hP _ _ h; omega)
    | (exact fun q h => by have := hP _ _ h; omega))

theorem kmr_F209 (hP : ∀ a q, P a q → ¬ (a = 376 ∧ (q = 51 ∨ (54 ≤ q ∧ q ≤ 57))) ∧ ¬ (408 ≤ a ∧ a ≤ 412)) {f : Nat} {x1 : Int} {m : yM} (hm : KP P m0 m) : HK id (KP P m0) (F209 f x1 m) := by
  unfold F209
  repeat' (first
    | (with_reducible assumption)
    | (with_reducible refine kmr_F202 hP ?_)
    | (with_reducible refine kmr_J209_66 hP ?_)
    | (with_reducible refine kmr_F201 hP ?_)
    | (with_reducible refine kmr_J209_167 hP ?_)
    | (with_reducible refine kmr_J209_172 hP ?_)
    | (exact HK.no)
    | (with_reducible refine HK.ite (fun _ => ?_) (fun _ => ?_))
    | (with_reducible refine HK.cU ?_ (fun _ _ => ?_))
    | (with_reducible refine HK.cI ?_ (fun _ _ _ => ?_))
    | (with_reducible refine HK.cP (fun _ _ => ?_))
    | (with_reducible refine HK.cT ?_ (fun _ _ _ => ?_) (fun _ _ _ => ?_))
    | (with_reducible refine HK.cL (HK.yl (fun _ _ _ => ?_) _ _ _ ?_) (fun _ _ _ => ?_) (fun _ _ _ => ?_))
    | (with_reducible refine HK.cQ (fun _ => ?_) (fun _ => ?_))
    | (with_reducible refine HK.soU ?_)
    | (with_reducible refine HK.soP ?_)
    | (with_reducible refine HK.so1 ?_)
    | (with_reducible refine HK.so2 ?_)
    | (with_reducible refine HK.so3 ?_)
    | (with_reducible refine KP.up ?_ ?_)
    | (exact fun h => by have := hP _ _ h; omega)
    | (exact fun q h => by have := hP _ _ h; omega))

theorem kmr_J207_131 (hP : ∀ a q, P a q → ¬ (a = 376 ∧ (q = 51 ∨ (54 ≤ q ∧ q ≤ 57))) ∧ ¬ (408 ≤ a ∧ a ≤ 412)) {f : Nat} {x2 : Int} {x4 : Int} {x5 : Int} {xs0 : Int} {m : yM} (hm : KP P m0 m) : HK id (KP P m0) (J207_131 f x2 x4 x5 xs0 m) := by
  unfold J207_131
  repeat' (first
    | (with_reducible assumption)
    | (with_reducible refine kmr_F203 hP ?_)
    | (exact HK.no)
    | (with_reducible refine HK.ite (fun _ => ?_) (fun _ => ?_))
    | (with_reducible refine HK.cU ?_ (fun _ _ => ?_))
    | (with_reducible refine HK.cI ?_ (fun _ _ _ => ?_))
    | (with_reducible refine HK.cP (fun _ _ => ?_))
    | (with_reducible refine HK.cT ?_ (fun _ _ _ => ?_) (fun _ _ _ => ?_))
    | (with_reducible refine HK.cL (HK.yl (fun _ _ _ => ?_) _ _ _ ?_) (fun _ _ _ => ?_) (fun _ _ _ => ?_))
    | (with_reducible refine HK.cQ (fun _ => ?_) (fun _ => ?_))
    | (with_reducible refine HK.soU ?_)
    | (with_reducible refine HK.soP ?_)
    | (with_reducible refine HK.so1 ?_)
    | (with_reducible refine HK.so2 ?_)
    | (with_reducible refine HK.so3 ?_)
    | (with_reducible refine KP.up ?_ ?_)
    | (exact fun h => by have := hP _ _ h; omega)
    | (exact fun q h => by have := hP _ _ h; omega))

theorem kmr_J207_107 (hP : ∀ a q, P a q → ¬ (a = 376 ∧ (q = 51 ∨ (54 ≤ q ∧ q ≤ 57))) ∧ ¬ (408 ≤ a ∧ a ≤ 412)) {f : Nat} {x1 : Int} {x2 : Int} {x3 : Int} {x4 : Int} {xs0 : Int} {m : yM} (hm : KP P m0 m) : HK id (KP P m0) (J207_107 f x1 x2 x3 x4 xs0 m) := by
  unfold J207_107
  repeat' (first
    | (with_reducible assumption)
    | (with_reducible refine kmr_J207_131 hP ?_)
    | (exact HK.no)
    | (with_reducible refine HK.ite (fun _ => ?_) (fun _ => ?_))
    | (with_reducible refine HK.cU ?_ (fun _ _ => ?_))
    | (with_reducible refine HK.cI ?_ (fun _ _ _ => ?_))
    | (with_reducible refine HK.cP (fun _ _ => ?_))
    | (with_reducible refine HK.cT ?_ (fun _ _ _ => ?_) (fun _ _ _ => ?_))
    | (with_reducible refine HK.cL (HK.yl (fun _ _ _ => ?_) _ _ _ ?_) (fun _ _ _ => ?_) (fun _ _ _ => ?_))
    | (with_reducible refine HK.cQ (fun _ => ?_) (fun _ => ?_))
    | (with_reducible refine HK.soU ?_)
    | (with_reducible refine HK.soP ?_)
    | (with_reducible refine HK.so1 ?_)
    | (with_reducible refine HK.so2 ?_)
    | (with_reducible refine HK.so3 ?_)
    | (with_reducible refine KP.up ?_ ?_)
    | (exact fun h => by have := hP _ _ h; omega)
    | (exact fun q h => by have := hP _ _ h; omega))

theorem kmr_J207_78 (hP : ∀ a q, P a q → ¬ (a = 376 ∧ (q = 51 ∨ (54 ≤ q ∧ q ≤ 57))) ∧ ¬ (408 ≤ a ∧ a ≤ 412)) {f : Nat} {x1 : Int} {x2 : Int} {x3 : Int} {x4 : Int} {xs1 : Int} {m : yM} (hm : KP P m0 m) : HK id (KP P m0) (J207_78 f x1 x2 x3 x4 xs1 m) := by
  unfold J207_78
  repeat' (first
    | (with_reducible assumption)
    | (with_reducible refine kmr_F23 hP ?_)
    | (with_reducible refine kmr_J207_107 hP ?_)
    | (exact HK.no)
    | (with_reducible refine HK.ite (fun _ => ?_) (fun _ => ?_))
    | (with_reducible refine HK.cU ?_ (fun _ _ => ?_))
    | (with_reducible refine HK.cI ?_ (fun _ _ _ => ?_))
    | (with_reducible refine HK.cP (fun _ _ => ?_))
    | (with_reducible refine HK.cT ?_ (fun _ _ _ => ?_) (fun _ _ _ => ?_))
    | (with_reducible refine HK.cL (HK.yl (fun _ _ _ => ?_) _ _ _ ?_) (fun _ _ _ => ?_) (fun _ _ _ => ?_))
    | (with_reducible refine HK.cQ (fun _ => ?_) (fun _ => ?_))
    | (with_reducible refine HK.soU ?_)
    | (with_reducible refine HK.soP ?_)
    | (with_reducible refine HK.so1 ?_)
    | (with_reducible refine HK.so2 ?_)
    | (with_reducible refine HK.so3 ?_)
    | (with_reducible refine KP.up ?_ ?_)
    | (exact fun h => by have := hP _ _ h; omega)
    | (exact fun q h => by have := hP _ _ h; omega))

theorem kmr_J207_23 (hP : ∀ a q, P a q → ¬ (a = 376 ∧ (q = 51 ∨ (54 ≤ q ∧ q ≤ 57))) ∧ ¬ (408 ≤ a ∧ a ≤ 412)) {f : Nat} {x1 : Int} {x2 : Int} {xs1 : Int} {m : yM} (hm : KP P m0 m) : HK id (KP P m0) (J207_23 f x1 x2 xs1 m) := by
  unfold J207_23
  repeat' (first
    | (with_reducible assumption)
    | (with_reducible refine kmr_F23 hP ?_)
    | (with_reducible refine kmr_J207_78 hP ?_)
    | (exact HK.no)
    | (with_reducible refine HK.ite (fun _ => ?_) (fun _ => ?_))
    | (with_reducible refine HK.cU ?_ (fun _ _ => ?_))
    | (with_reducible refine HK.cI ?_ (fun _ _ _ => ?_))
    | (with_reducible refine HK.cP (fun _ _ => ?_))
    | (with_reducible refine HK.cT ?_ (fun _ _ _ => ?_) (fun _ _ _ => ?_))
    | (with_reducible refine HK.cL (HK.yl (fun _ _ _ => ?_) _ _ _ ?_) (fun _ _ _ => ?_) (fun _ _ _ => ?_))
    | (with_reducible refine HK.cQ (fun _ => ?_) (fun _ => ?_))
    | (with_reducible refine HK.soU ?_)
    | (with_reducible refine HK.soP ?_)
    | (with_reducible refine HK.so1 ?_)
    | (with_reducible refine HK.so2 ?_)
    | (with_reducible refine HK.so3 ?_)
    | (with_reducible refine KP.up ?_ ?_)
    | (exact fun h => by have := hP _ _ h; omega)
    | (exact fun q h => by have := hP _ _ h; omega))

theorem kmr_F207 (hP : ∀ a q, P a q → ¬ (a = 376 ∧ (q = 51 ∨ (54 ≤ q ∧ q ≤ 57))) ∧ ¬ (408 ≤ a ∧ a ≤ 412)) {f : Nat} {x1 : Int} {m : yM} (hm : KP P m0 m) : HK id (KP P m0) (F207 f x1 m) := by
  unfold F207
  repeat' (first
    | (with_reducible assumption)
    | (with_reducible refine kmr_J207_23 hP ?_)
    | (exact HK.no)
    | (with_reducible refine HK.ite (fun _ => ?_) (fun _ => ?_))
    | (with_reducible refine HK.cU ?_ (fun _ _ => ?_))
    | (with_reducible refine HK.cI ?_ (fun _ _ _ => ?_))
    | (with_reducible refine HK.cP (fun _ _ => ?_))
    | (with_reducible refine HK.cT ?_ (fun _ _ _ => ?_) (fun _ _ _ => ?_))
    | (with_reducible refine HK.cL (HK.yl (fun _ _ _ => ?_) _ _ _ ?_) (fun _ _ _ => ?_) (fun _ _ _ => ?_))
    | (with_reducible refine HK.cQ (fun _ => ?_) (fun _ => ?_))
    | (with_reducible refine HK.soU ?_)
    | (with_reducible refine HK.soP ?_)
    | (with_reducible refine HK.so1 ?_)
    | (with_reducible refine HK.so2 ?_)
    | (with_reducible refine HK.so3 ?_)
    | (with_reducible refine KP.up ?_ ?_)
    | (exact fun h => by have := hP _ _ h; omega)
    | (exact fun q h => by have := hP _ _ h; omega))

theorem kmr_J204_100 (hP : ∀ a q, P a q → ¬ (a = 376 ∧ (q = 51 ∨ (54 ≤ q ∧ q ≤ 57))) ∧ ¬ (408 ≤ a ∧ a ≤ 412)) {f : Nat} {m : yM} (hm : KP P m0 m) : HK id (KP P m0) (J204_100 f m) := by
  unfold J204_100
  repeat' (first
    | (with_reducible assumption)
    | (exact HK.no)
    | (with_reducible refine HK.ite (fun _ => ?_) (fun _ => ?_))
    | (with_reducible refine HK.cU ?_ (fun _ _ => ?_))
    | (with_reducible refine HK.cI ?_ (fun _ _ _ => ?_))
    | (with_reducible refine HK.cP (fun _ _ => ?_))
    | (with_reducible refine HK.cT ?_ (fun _ _ _ => ?_) (fun _ _ _ => ?_))
    | (with_reducible refine HK.cL (HK.yl (fun _ _ _ => ?_) _ _ _ ?_) (fun _ _ _ => ?_) (fun _ _ _ => ?_))
    | (with_reducible refine HK.cQ (fun _ => ?_) (fun _ => ?_))
    | (with_reducible refine HK.soU ?_)
    | (with_reducible refine HK.soP ?_)
    | (with_reducible refine HK.so1 ?_)
    | (with_reducible refine HK.so2 ?_)
    | (with_reducible refine HK.so3 ?_)
    | (with_reducible refine KP.up ?_ ?_)
    | (exact fun h => by have := hP _ _ h; omega)
    | (exact fun q h => by have := hP _ _ h; omega))

theorem kmr_J204_36 (hP : ∀ a q, P a q → ¬ (a = 376 ∧ (q = 51 ∨ (54 ≤ q ∧ q ≤ 57))) ∧ ¬ (408 ≤ a ∧ a ≤ 412)) {f : Nat} {x2 : Int} {m : yM} (hm : KP P m0 m) : HK id (KP P m0) (J204_36 f x2 m) := by
  unfold J204_36
  repeat' (first
    | (with_reducible assumption)
    | (with_reducible refine kmr_J204_100 hP ?_)
    | (with_reducible refine kmr_F202 hP ?_)
    | (exact HK.no)
    | (with_reducible refine HK.ite (fun _ => ?_) (fun _ => ?_))
    | (with_reducible refine HK.cU ?_ (fun _ _ => ?_))
    | (with_reducible refine HK.cI ?_ (fun _ _ _ => ?_))
    | (with_reducible refine HK.cP (fun _ _ => ?_))
    | (with_reducible refine HK.cT ?_ (fun _ _ _ => ?_) (fun _ _ _ => ?_))
    | (with_reducible refine HK.cL (HK.yl (fun _ _ _ => ?_) _ _ _ ?_) (fun _ _ _ => ?_) (fun _ _ _ => ?_))
    | (with_reducible refine HK.cQ (fun _ => ?_) (fun _ => ?_))
    | (with_reducible refine HK.soU ?_)
    | (with_reducible refine HK.soP ?_)
    | (with_reducible refine HK.so1 ?_)
    | (with_reducible refine HK.so2 ?_)
    | (with_reducible refine HK.so3 ?_)
    | (with_reducible refine KP.up ?_ ?_)
    | (exact fun h => by have := hP _ _ h; omega)
    | (exact fun q h => by have := hP _ _ h; omega))

theorem kmr_F204 (hP : ∀ a q, P a q → ¬ (a = 376 ∧ (q = 51 ∨ (54 ≤ q ∧ q ≤ 57))) ∧ ¬ (408 ≤ a ∧ a ≤ 412)) {f : Nat} {x1 : Int} {x2 : Int} {m : yM} (hm : KP P m0 m) : HK id (KP P m0) (F204 f x1 x2 m) := by
  unfold F204
  repeat' (first
    | (with_reducible assumption)
    | (with_reducible refine kmr_J204_36 hP ?_)
    | (exact HK.no)
    | (with_reducible refine HK.ite (fun _ => ?_) (fun _ => ?_))
    | (with_reducible refine HK.cU ?_ (fun _ _ => ?_))
    | (with_reducible refine HK.cI ?_ (fun _ _ _ => ?_))
    | (with_reducible refine HK.cP (fun _ _ => ?_))
    | (with_reducible refine HK.cT ?_ (fun _ _ _ => ?_) (fun _ _ _ => ?_))
    | (with_reducible refine HK.cL (HK.yl (fun _ _ _ => ?_) _ _ _ ?_) (fun _ _ _ => ?_) (fun _ _ _ => ?_))
    | (with_reducible refine HK.cQ (fun _ => ?_) (fun _ => ?_))
    | (with_reducible refine HK.soU ?_)
    | (with_reducible refine HK.soP ?_)
    | (with_reducible refine HK.so1 ?_)
    | (with_reducible refine HK.so2 ?_)
    | (with_reducible refine HK.so3 ?_)
    | (with_reducible refine KP.up ?_ ?_)
    | (exact fun h => by have := hP _ _ h; omega)
    | (exact fun q h => by have := hP _ _ h; omega))

theorem kmr_J210_179 (hP : ∀ a q, P a q → ¬ (a = 376 ∧ (q = 51 ∨ (54 ≤ q ∧ q ≤ 57))) ∧ ¬ (408 ≤ a ∧ a ≤ 412)) {f : Nat} {xs1 : Int} {m : yM} (hm : KP P m0 m) : HK id (KP P m0) (J210_179 f xs1 m) := by
  unfold J210_179
  repeat' (first
    | (with_reducible assumption)
    | (exact HK.no)
    | (with_reducible refine HK.ite (fun _ => ?_) (fun _ => ?_))
    | (with_reducible refine HK.cU ?_ (fun _ _ => ?_))
    | (with_reducible refine HK.cI ?_ (fun _ _ _ => ?_))
    | (with_reducible refine HK.cP (fun _ _ => ?_))
    | (with_reducible refine HK.cT ?_ (fun _ _ _ => ?_) (fun _ _ _ => ?_))
    | (with_reducible refine HK.cL (HK.yl (fun _ _ _ => ?_) _ _ _ ?_) (fun _ _ _ => ?_) (fun _ _ _ => ?_))
    | (with_reducible refine HK.cQ (fun _ => ?_) (fun _ => ?_))
    | (with_reducible refine HK.soU ?_)
    | (with_reducible refine HK.soP ?_)
    | (with_reducible refine HK.so1 ?_)
    | (with_reducible refine HK.so2 ?_)
    | (with_reducible refine HK.so3 ?_)
    | (with_reducible refine KP.up ?_ ?_)
    | (exact fun h => by have := hP _ _ h; omega)
    | (exact fun q h => by have := hP _ _ h; omega))

theorem kmr_J210_146 (hP : ∀ a q, P a q → ¬ (a = 376 ∧ (q = 51 ∨ (54 ≤ q ∧ q ≤ 57))) ∧ ¬ (408 ≤ a ∧ a ≤ 412)) {f : Nat} {x1 : Int} {m : yM} (hm : KP P m0 m) : HK id (KP P m0) (J210_146 f x1 m) := by
  unfold J210_146
  repeat' (first
    | (with_reducible assumption)
    | (with_reducible refine kmr_J210_179 hP ?_)
    | (exact HK.no)
    | (with_reducible refine HK.ite (fun _ => ?_) (fun _ => ?_))
    | (with_reducible refine HK.cU ?_ (fun _ _ => ?_))
    | (with_reducible refine HK.cI ?_ (fun _ _ _ => ?_))
    | (with_reducible refine HK.cP (fun _ _ => ?_))
    | (with_reducible refine HK.cT ?_ (fun _ _ _ => ?_) (fun _ _ _ => ?_))
    | (with_reducible refine HK.cL (HK.yl (fun _ _ _ => ?_) _ _ _ ?_) (fun _ _ _ => ?_) (fun _ _ _ => ?_))
    | (with_reducible refine HK.cQ (fun _ => ?_) (fun _ => ?_))
    | (with_reducible refine HK.soU ?_)
    | (with_reducible refine HK.soP ?_)
    | (with_reducible refine HK.so1 ?_)
    | (with_reducible refine HK.so2 ?_)
    | (with_reducible refine HK.so3 ?_)
    | (with_reducible refine KP.up ?_ ?_)
    | (exact fun h => by have := hP _ _ h; omega)
    | (exact fun q h => by have := hP _ _ h; omega))

theorem kmr_J210_40 (hP : ∀ a q, P a q → ¬ (a = 376 ∧ (q = 51 ∨ (54 ≤ q ∧ q ≤ 57))) ∧ ¬ (408 ≤ a ∧ a ≤ 412)) {f : Nat} {x1 : Int} {x2 : Int} {m : yM} (hm : KP P m0 m) : HK id (KP P m0) (J210_40 f x1 x2 m) := by
  unfold J210_40
  repeat' (first
    | (with_reducible assumption)
    | (with_reducible refine kmr_F204 hP ?_)
    | (with_reducible refine kmr_J210_146 hP ?_)
    | (with_reducible refine kmr_F207 hP ?_)
    | (with_reducible refine kmr_F209 hP ?_)
    | (exact HK.no)
    | (with_reducible refine HK.ite (fun _ => ?_) (fun _ => ?_))
    | (with_reducible refine HK.cU ?_ (fun _ _ => ?_))
    | (with_reducible refine HK.cI ?_ (fun _ _ _ => ?_))
    | (with_reducible refine HK.cP (fun _ _ => ?_))
    | (with_reducible refine HK.cT ?_ (fun _ _ _ => ?_) (fun _ _ _ => ?_))
    | (with_reducible refine HK.cL (HK.yl (fun _ _ _ => ?_) _ _ _ ?_) (fun _ _ _ => ?_) (fun _ _ _ => ?_))
    | (with_reducible refine HK.cQ (fun _ => ?_) (fun _ => ?_))
    | (with_reducible refine HK.soU ?_)
    | (with_reducible refine HK.soP ?_)
    | (with_reducible refine HK.so1 ?_)
    | (with_reducible refine HK.so2 ?_)
    | (with_reducible refine HK.so3 ?_)
    | (with_reducible refine KP.up ?_ ?_)
    | (exact fun h => by have := hP _ _ h; omega)
    | (exact fun q h => by have := hP _ _ h; omega))

theorem kmr_F210 (hP : ∀ a q, P a q → ¬ (a = 376 ∧ (q = 51 ∨ (54 ≤ q ∧ q ≤ 57))) ∧ ¬ (408 ≤ a ∧ a ≤ 412)) {f : Nat} {m : yM} (hm : KP P m0 m) : HK id (KP P m0) (F210 f m) := by
  unfold F210
  repeat' (first
    | (with_reducible assumption)
    | (with_reducible refine kmr_J210_40 hP ?_)
    | (exact HK.no)
    | (with_reducible refine HK.ite (fun _ => ?_) (fun _ => ?_))
    | (with_reducible refine HK.cU ?_ (fun _ _ => ?_))
    | (with_reducible refine HK.cI ?_ (fun _ _ _ => ?_))
    | (with_reducible refine HK.cP (fun _ _ => ?_))
    | (with_reducible refine HK.cT ?_ (fun _ _ _ => ?_) (fun _ _ _ => ?_))
    | (with_reducible refine HK.cL (HK.yl (fun _ _ _ => ?_) _ _ _ ?_) (fun _ _ _ => ?_) (fun _ _ _ => ?_))
    | (with_reducible refine HK.cQ (fun _ => ?_) (fun _ => ?_))
    | (with_reducible refine HK.soU ?_)
    | (with_reducible refine HK.soP ?_)
    | (with_reducible refine HK.so1 ?_)
    | (with_reducible refine HK.so2 ?_)
    | (with_reducible refine HK.so3 ?_)
    | (with_reducible refine KP.up ?_ ?_)
    | (exact fun h => by have := hP _ _ h; omega)
    | (exact fun q h => by have := hP _ _ h; omega))

theorem kmr_B211_30 (hP : ∀ a q, P a q → ¬ (a = 376 ∧ (q = 51 ∨ (54 ≤ q ∧ q ≤ 57))) ∧ ¬ (408 ≤ a ∧ a ≤ 412)) {f : Nat} {x1 : Int} {m : yM} (hm : KP P m0 m) : HK mB (KP P m0) (B211_30 f x1 m) := by
  unfold B211_30
  repeat' (first
    | (with_reducible assumption)
    | (exact HK.no)
    | (with_reducible refine HK.ite (fun _ => ?_) (fun _ => ?_))
    | (with_reducible refine HK.cU ?_ (fun _ _ => ?_))
    | (with_reducible refine HK.cI ?_ (fun _ _ _ => ?_))
    | (with_reducible refine HK.cP (fun _ _ => ?_))
    | (with_reducible refine HK.cT ?_ (fun _ _ _ => ?_) (fun _ _ _ => ?_))
    | (with_reducible refine HK.cL (HK.yl (fun _ _ _ => ?_) _ _ _ ?_) (fun _ _ _ => ?_) (fun _ _ _ => ?_))
    | (with_reducible refine HK.cQ (fun _ => ?_) (fun _ => ?_))
    | (with_reducible refine HK.soU ?_)
    | (with_reducible refine HK.soP ?_)
    | (with_reducible refine HK.so1 ?_)
    | (with_reducible refine HK.so2 ?_)
    | (with_reducible refine HK.so3 ?_)
    | (with_reducible refine KP.up ?_ ?_)
    | (exact fun h => by have := hP _ _ h; omega)
    | (exact fun q h => by have := hP _ _ h; omega))

theorem kmr_B211_83 (hP : ∀ a q, P a q → ¬ (a = 376 ∧ (q = 51 ∨ (54 ≤ q ∧ q ≤ 57))) ∧ ¬ (408 ≤ a ∧ a ≤ 412)) {f : Nat} {m : yM} (hm : KP P m0 m) : HK mB (KP P m0) (B211_83 f m) := by
  unfold B211_83
  repeat' (first
    | (with_reducible assumption)
    | (with_reducible refine kmr_F210 hP ?_)
    | (exact HK.no)
    | (with_reducible refine HK.ite (fun _ => ?_) (fun _ => ?_))
    | (with_reducible refine HK.cU ?_ (fun _ _ => ?_))
    | (with_reducible refine HK.cI ?_ (fun _ _ _ => ?_))
    | (with_reducible refine HK.cP (fun _ _ => ?_))
    | (with_reducible refine HK.cT ?_ (fun _ _ _ => ?_) (fun _ _ _ => ?_))
    | (with_reducible refine HK.cL (HK.yl (fun _ _ _ => ?_) _ _ _ ?_) (fun _ _ _ => ?_) (fun _ _ _ => ?_))
    | (with_reducible refine HK.cQ (fun _ => ?_) (fun _ => ?_))
    | (with_reducible refine HK.soU ?_)
    | (with_reducible refine HK.soP ?_)
    | (with_reducible refine HK.so1 ?_)
    | (with_reducible refine HK.so2 ?_)
    | (with_reducible refine HK.so3 ?_)
    | (with_reducible refine KP.up ?_ ?_)
    | (exact fun h => by have := hP _ _ h; omega)
    | (exact fun q h => by have := hP _ _ h; omega))

theorem kmr_J211_104 (hP : ∀ a q, P a q → ¬ (a = 376 ∧ (q = 51 ∨ (54 ≤ q ∧ q ≤ 57))) ∧ ¬ (408 ≤ a ∧ a ≤ 412)) {f : Nat} {m : yM} (hm : KP P m0 m) : HK (fun x => x.2) (KP P m0) (J211_104 f m) := by
  unfold J211_104
  repeat' (first
    | (with_reducible assumption)
    | (exact HK.no)
    | (with_reducible refine HK.ite (fun _ => ?_) (fun _ => ?_))
    | (with_reducible refine HK.cU ?_ (fun _ _ => ?_))
    | (with_reducible refine HK.cI ?_ (fun _ _ _ => ?_))
    | (with_reducible refine HK.cP (fun _ _ => ?_))
    | (with_reducible refine HK.cT ?_ (fun _ _ _ => ?_) (fun _ _ _ => ?_))
    | (with_reducible refine HK.cL (HK.yl (fun _ _ _ => ?_) _ _ _ ?_) (fun _ _ _ => ?_) (fun _ _ _ => ?_))
    | (with_reducible refine HK.cQ (fun _ => ?_) (fun _ => ?_))
    | (with_reducible refine HK.soU ?_)
    | (with_reducible refine HK.soP ?_)
    | (with_reducible refine HK.so1 ?_)
    | (with_reducible refine HK.so2 ?_)
    | (with_reducible refine HK.so3 ?_)
    | (with_reducible refine KP.up ?_ ?_)
    | (exact fun h => by have := hP _ _ h; omega)
    | (exact fun q h => by have := hP _ _ h; omega))

theorem kmr_J211_20 (hP : ∀ a q, P a q → ¬ (a = 376 ∧ (q = 51 ∨ (54 ≤ q ∧ q ≤ 57))) ∧ ¬ (408 ≤ a ∧ a ≤ 412)) {f : Nat} {xs1 : Int} {m : yM} (hm : KP P m0 m) : HK (fun x => x.2) (KP P m0) (J211_20 f xs1 m) := by
  unfold J211_20
  repeat' (first
    | (with_reducible assumption)
    | (with_reducible refine kmr_F162 hP ?_)
    | (with_reducible refine kmr_B211_30 hP ?_)
    | (with_reducible refine kmr_F201 hP ?_)
    | (with_reducible refine kmr_F203 hP ?_)
    | (with_reducible refine kmr_B211_83 hP ?_)
    | (with_reducible refine kmr_J211_104 hP ?_)
    | (exact HK.no)
    | (with_reducible refine HK.ite (fun _ => ?_) (fun _ => ?_))
    | (with_reducible refine HK.cU ?_ (fun _ _ => ?_))
    | (with_reducible refine HK.cI ?_ (fun _ _ _ => ?_))
    | (with_reducible refine HK.cP (fun _ _ => ?_))
    | (with_reducible refine HK.cT ?_ (fun _ _ _ => ?_) (fun _ _ _ => ?_))
    | (with_reducible refine HK.cL (HK.yl (fun _ _ _ => ?_) _ _ _ ?_) (fun _ _ _ => ?_) (fun _ _ _ => ?_))
    | (with_reducible refine HK.cQ (fun _ => ?_) (fun _ => ?_))
    | (with_reducible refine HK.soU ?_)
    | (with_reducible refine HK.soP ?_)
    | (with_reducible refine HK.so1 ?_)
    | (with_reducible refine HK.so2 ?_)
    | (with_reducible refine HK.so3 ?_)
    | (with_reducible refine KP.up ?_ ?_)
    | (exact fun h => by have := hP _ _ h; omega)
    | (exact fun q h => by have := hP _ _ h; omega))

theorem kmr_J211_19 (hP : ∀ a q, P a q → ¬ (a = 376 ∧ (q = 51 ∨ (54 ≤ q ∧ q ≤ 57))) ∧ ¬ (408 ≤ a ∧ a ≤ 412)) {f : Nat} {m : yM} (hm : KP P m0 m) : HK (fun x => x.2) (KP P m0) (J211_19 f m) := by
  unfold J211_19
  repeat' (first
    | (with_reducible assumption)
    | (with_reducible refine kmr_J211_20 hP ?_)
    | (exact HK.no)
    | (with_reducible refine HK.ite (fun _ => ?_) (fun _ => ?_))
    | (with_reducible refine HK.cU ?_ (fun _ _ => ?_))
    | (with_reducible refine HK.cI ?_ (fun _ _ _ => ?_))
    | (with_reducible refine HK.cP (fun _ _ => ?_))
    | (with_reducible refine HK.cT ?_ (fun _ _ _ => ?_) (fun _ _ _ => ?_))
    | (with_reducible refine HK.cL (HK.yl (fun _ _ _ => ?_) _ _ _ ?_) (fun _ _ _ => ?_) (fun _ _ _ => ?_))
    | (with_reducible refine HK.cQ (fun _ => ?_) (fun _ => ?_))
    | (with_reducible refine HK.soU ?_)
    | (with_reducible refine HK.soP ?_)
    | (with_reducible refine HK.so1 ?_)
    | (with_reducible refine HK.so2 ?_)
    | (with_reducible refine HK.so3 ?_)
    | (with_reducible refine KP.up ?_ ?_)
    | (exact fun h => by have := hP _ _ h; omega)
    | (exact fun q h => by have := hP _ _ h; omega))

theorem kmr_F211 (hP : ∀ a q, P a q → ¬ (a = 376 ∧ (q = 51 ∨ (54 ≤ q ∧ q ≤ 57))) ∧ ¬ (408 ≤ a ∧ a ≤ 412)) {f : Nat} {m : yM} (hm : KP P m0 m) : HK (fun x => x.2) (KP P m0) (F211 f m) := by
  unfold F211
  repeat' (first
    | (with_reducible assumption)
    | (with_reducible refine kmr_J211_19 hP ?_)
    | (with_reducible refine kmr_J211_20 hP ?_)
    | (exact HK.no)
    | (with_reducible refine HK.ite (fun _ => ?_) (fun _ => ?_))
    | (with_reducible refine HK.cU ?_ (fun _ _ => ?_))
    | (with_reducible refine HK.cI ?_ (fun _ _ _ => ?_))
    | (with_reducible refine HK.cP (fun _ _ => ?_))
    | (with_reducible refine HK.cT ?_ (fun _ _ _ => ?_) (fun _ _ _ => ?_))
    | (with_reducible refine HK.cL (HK.yl (fun _ _ _ => ?_) _ _ _ ?_) (fun _ _ _ => ?_) (fun _ _ _ => ?_))
    | (with_reducible refine HK.cQ (fun _ => ?_) (fun _ => ?_))
    | (with_reducible refine HK.soU ?_)
    | (with_reducible refine HK.soP ?_)
    | (with_reducible refine HK.so1 ?_)
    | (with_reducible refine HK.so2 ?_)
    | (with_reducible refine HK.so3 ?_)
    | (with_reducible refine KP.up ?_ ?_)
    | (exact fun h => by have := hP _ _ h; omega)
    | (exact fun q h => by have := hP _ _ h; omega))

end FRmr

section FRmq
variable {P : Nat → Nat → Prop} {m0 : yM}

theorem kmq_J23_10 (hP : ∀ a q, P a q → ¬ (a = 376 ∧ q = 57)) {f : Nat} {x1 : Int} {xs1 : Int} {m : yM} (hm : KP P m0 m) : HK (fun x => x.2) (KP P m0) (J23_10 f x1 xs1 m) := by
  unfold J23_10
  repeat' (first
    | (with_reducible assumption)
    | (exact HK.no)
    | (with_reducible refine HK.ite (fun _ => ?_) (fun _ => ?_))
    | (with_reducible refine HK.cU ?_ (fun _ _ => ?_))
    | (with_reducible refine HK.cI ?_ (fun _ _ _ => ?_))
    | (with_reducible refine HK.cP (fun _ _ => ?_))
    | (with_reducible refine HK.cT ?_ (fun _ _ _ => ?_) (fun _ _ _ => ?_))
    | (with_reducible refine HK.cL (HK.yl (fun _ _ _ => ?_) _ _ _ ?_) (fun _ _ _ => ?_) (fun _ _ _ => ?_))
    | (with_reducible refine HK.cQ (fun _ => ?_) (fun _ => ?_))
    | (with_reducible refine HK.soU ?_)
    | (with_reducible refine HK.soP ?_)
    | (with_reducible refine HK.so1 ?_)
    | (with_reducible refine HK.so2 ?_)
    | (with_reducible refine HK.so3 ?_)
    | (with_reducible refine KP.up ?_ ?_)
    | (exact fun h => by have := hP _ _ h; omega)
    | (exact fun q h => by have := hP _ _ h; omega))

theorem kmq_F23 (hP : ∀ a q, P a q → ¬ (a = 376 ∧ q = 57)) {f : Nat} {x1 : Int} {x2 : Int} {m : yM} (hm : KP P m0 m) : HK (fun x => x.2) (KP P m0) (F23 f x1 x2 m) := by
  unfold F23
  repeat' (first
    | (with_reducible assumption)
    | (with_reducible refine kmq_J23_10 hP ?_)
    | (exact HK.no)
    | (with_reducible refine HK.ite (fun _ => ?_) (fun _ => ?_))
    | (with_reducible refine HK.cU ?_ (fun _ _ => ?_))
    | (with_reducible refine HK.cI ?_ (fun _ _ _ => ?_))
    | (with_reducible refine HK.cP (fun _ _ => ?_))
    | (with_reducible refine HK.cT ?_ (fun _ _ _ => ?_) (fun _ _ _ => ?_))
    | (with_reducible refine HK.cL (HK.yl (fun _ _ _ => ?_) _ _ _ ?_) (fun _ _ _ => ?_) (fun _ _ _ => ?_))
    | (with_reducible refine HK.cQ (fun _ => ?_) (fun _ => ?_))
    | (with_reducible refine HK.soU ?_)
    | (with_reducible refine HK.soP ?_)
    | (with_reducible refine HK.so1 ?_)
    | (with_reducible refine HK.so2 ?_)
    | (with_reducible refine HK.so3 ?_)
    | (with_reducible refine KP.up ?_ ?_)
    | (exact fun h => by have := hP _ _ h; omega)
    | (exact fun q h => by have := hP _ _ h; omega))

theorem kmq_J162_17 (hP : ∀ a q, P a q → ¬ (a = 376 ∧ q = 57)) {f : Nat} {xs1 : Int} {m : yM} (hm : KP P m0 m) : HK (fun x => x.2) (KP P m0) (J162_17 f xs1 m) := by
  unfold J162_17
  repeat' (first
    | (with_reducible assumption)
    | (with_reducible refine kmq_F23 hP ?_)
    | (exact HK.no)
    | (with_reducible refine HK.ite (fun _ => ?_) (fun _ => ?_))
    | (with_reducible refine HK.cU ?_ (fun _ _ => ?_))
    | (with_reducible refine HK.cI ?_ (fun _ _ _ => ?_))
    | (with_reducible refine HK.cP (fun _ _ => ?_))
    | (with_reducible refine HK.cT ?_ (fun _ _ _ => ?_) (fun _ _ _ => ?_))
    | (with_reducible refine HK.cL (HK.yl (fun _ _ _ => ?_) _ _ _ ?_) (fun _ _ _ => ?_) (fun _ _ _ => ?_))
    | (with_reducible refine HK.cQ (fun _ => ?_) (fun _ => ?_))
    | (with_reducible refine HK.soU ?_)
    | (with_reducible refine HK.soP ?_)
    | (with_reducible refine HK.so1 ?_)
    | (with_reducible refine HK.so2 ?_)
    | (with_reducible refine HK.so3 ?_)
    | (with_reducible refine KP.up ?_ ?_)
    | (exact fun h => by have := hP _ _ h; omega)
    | (exact fun q h => by have := hP _ _ h; omega))

theorem kmq_J162_16 (hP : ∀ a q, P a q → ¬ (a = 376 ∧ q = 57)) {f : Nat} {m : yM} (hm : KP P m0 m) : HK (fun x => x.2) (KP P m0) (J162_16 f m) := by
  unfold J162_16
  repeat' (first
    | (with_reducible assumption)
    | (with_reducible refine kmq_J162_17 hP ?_)
    | (exact HK.no)
    | (with_reducible refine HK.ite (fun _ => ?_) (fun _ => ?_))
    | (with_reducible refine HK.cU ?_ (fun _ _ => ?_))
    | (with_reducible refine HK.cI ?_ (fun _ _ _ => ?_))
    | (with_reducible refine HK.cP (fun _ _ => ?_))
    | (with_reducible refine HK.cT ?_ (fun _ _ _ => ?_) (fun _ _ _ => ?_))
    | (with_reducible refine HK.cL (HK.yl (fun _ _ _ => ?_) _ _ _ ?_) (fun _ _ _ => ?_) (fun _ _ _ => ?_))
    | (with_reducible refine HK.cQ (fun _ => ?_) (fun _ => ?_))
    | (with_reducible refine HK.soU ?_)
    | (with_reducible refine HK.soP ?_)
    | (with_reducible refine HK.so1 ?_)
    | (with_reducible refine HK.so2 ?_)
    | (with_reducible refine HK.so3 ?_)
    | (with_reducible refine KP.up ?_ ?_)
    | (exact fun h => by have := hP _ _ h; omega)
    | (exact fun q h => by have := hP _ _ h; omega))

theorem kmq_F162 (hP : ∀ a q, P a q → ¬ (a = 376 ∧ q = 57)) {f : Nat} {x1 : Int} {m : yM} (hm : KP P m0 m) : HK (fun x => x.2) (KP P m0) (F162 f x1 m) := by
  unfold F162
  repeat' (first
    | (with_reducible assumption)
    | (with_reducible refine kmq_J162_16 hP ?_)
    | (with_reducible refine kmq_J162_17 hP ?_)
    | (exact HK.no)
    | (with_reducible refine HK.ite (fun _ => ?_) (fun _ => ?_))
    | (with_reducible refine HK.cU ?_ (fun _ _ => ?_))
    | (with_reducible refine HK.cI ?_ (fun _ _ _ => ?_))
    | (with_reducible refine HK.cP (fun _ _ => ?_))
    | (with_reducible refine HK.cT ?_ (fun _ _ _ => ?_) (fun _ _ _ => ?_))
    | (with_reducible refine HK.cL (HK.yl (fun _ _ _ => ?_) _ _ _ ?_) (fun _ _ _ => ?_) (fun _ _ _ => ?_))
    | (with_reducible refine HK.cQ (fun _ => ?_) (fun _ => ?_))
    | (with_reducible refine HK.soU ?_)
    | (with_reducible refine HK.soP ?_)
    | (with_reducible refine HK.so1 ?_)
    | (with_reducible refine HK.so2 ?_)
    | (with_reducible refine HK.so3 ?_)
    | (with_reducible refine KP.up ?_ ?_)
    | (exact fun h => by have := hP _ _ h; omega)
    | (exact fun q h => by have := hP _ _ h; omega))

theorem kmq_J163_22 (hP : ∀ a q, P a q → ¬ (a = 376 ∧ q = 57)) {f : Nat} {x1 : Int} {x2 : Int} {xs1 : Int} {m : yM} (hm : KP P m0 m) : HK (fun x => x.2) (KP P m0) (J163_22 f x1 x2 xs1 m) := by
  unfold J163_22
  repeat' (first
    | (with_reducible assumption)
    | (with_reducible refine kmq_F162 hP ?_)
    | (exact HK.no)
    | (with_reducible refine HK.ite (fun _ => ?_) (fun _ => ?_))
    | (with_reducible refine HK.cU ?_ (fun _ _ => ?_))
    | (with_reducible refine HK.cI ?_ (fun _ _ _ => ?_))
    | (with_reducible refine HK.cP (fun _ _ => ?_))
    | (with_reducible refine HK.cT ?_ (fun _ _ _ => ?_) (fun _ _ _ => ?_))
    | (with_reducible refine HK.cL (HK.yl (fun _ _ _ => ?_) _ _ _ ?_) (fun _ _ _ => ?_) (fun _ _ _ => ?_))
    | (with_reducible refine HK.cQ (fun _ => ?_) (fun _ => ?_))
    | (with_reducible refine HK.soU ?_)
    | (with_reducible refine HK.soP ?_)
    | (with_reducible refine HK.so1 ?_)
    | (with_reducible refine HK.so2 ?_)
    | (with_reducible refine HK.so3 ?_)
    | (with_reducible refine KP.up ?_ ?_)
    | (exact fun h => by have := hP _ _ h; omega)
    | (exact fun q h => by have := hP _ _ h; omega))

theorem kmq_J163_21 (hP : ∀ a q, P a q → ¬ (a = 376 ∧ q = 57)) {f : Nat} {x1 : Int} {x2 : Int} {m : yM} (hm : KP P m0 m) : HK (fun x => x.2) (KP P m0) (J163_21 f x1 x2 m) := by
  unfold J163_21
  repeat' (first
    | (with_reducible assumption)
    | (with_reducible refine kmq_J163_22 hP ?_)
    | (exact HK.no)
    | (with_reducible refine HK.ite (fun _ => ?_) (fun _ => ?_))
    | (with_reducible refine HK.cU ?_ (fun _ _ => ?_))
    | (with_reducible refine HK.cI ?_ (fun _ _ _ => ?_))
    | (with_reducible refine HK.cP (fun _ _ => ?_))
    | (with_reducible refine HK.cT ?_ (fun _ _ _ => ?_) (fun _ _ _ => ?_))
    | (with_reducible refine HK.cL (HK.yl (fun _ _ _ => ?_) _ _ _ ?_) (fun _ _ _ => ?_) (fun _ _ _ => ?_))
    | (with_reducible refine HK.cQ (fun _ => ?_) (fun _ => ?_))
    | (with_reducible refine HK.soU ?_)
    | (with_reducible refine HK.soP ?_)
    | (with_reducible refine HK.so1 ?_)
    | (with_reducible refine HK.so2 ?_)
    | (with_reducible refine HK.so3 ?_)
    | (with_reducible refine KP.up ?_ ?_)
    | (exact fun h => by have := hP _ _ h; omega)
    | (exact fun q h => by have := hP _ _ h; omega))

theorem kmq_F163 (hP : ∀ a q, P a q → ¬ (a = 376 ∧ q = 57)) {f : Nat} {x1 : Int} {x2 : Int} {m : yM} (hm : KP P m0 m) : HK (fun x => x.2) (KP P m0) (F163 f x1 x2 m) := by
  unfold F163
  repeat' (first
    | (with_reducible assumption)
    | (with_reducible refine kmq_J163_21 hP ?_)
    | (with_reducible refine kmq_J163_22 hP ?_)
    | (exact HK.no)
    | (with_reducible refine HK.ite (fun _ => ?_) (fun _ => ?_))
    | (with_reducible refine HK.cU ?_ (fun _ _ => ?_))
    | (with_reducible refine HK.cI ?_ (fun _ _ _ => ?_))
    | (with_reducible refine HK.cP (fun _ _ => ?_))
    | (with_reducible refine HK.cT ?_ (fun _ _ _ => ?_) (fun _ _ _ => ?_))
    | (with_reducible refine HK.cL (HK.yl (fun _ _ _ => ?_) _ _ _ ?_) (fun _ _ _ => ?_) (fun _ _ _ => ?_))
    | (with_reducible refine HK.cQ (fun _ => ?_) (fun _ => ?_))
    | (with_reducible refine HK.soU ?_)
    | (with_reducible refine HK.soP ?_)
    | (with_reducible refine HK.so1 ?_)
    | (with_reducible refine HK.so2 ?_)
    | (with_reducible refine HK.so3 ?_)
    | (with_reducible refine KP.up ?_ ?_)
    | (exact fun h => by have := hP _ _ h; omega)
    | (exact fun q h => by have := hP _ _ h; omega))

theorem kmq_J166_41 (hP : ∀ a q, P a q → ¬ (a = 376 ∧ q = 57)) {f : Nat} {x1 : Int} {x2 : Int} {x3 : Int} {xs1 : Int} {m : yM} (hm : KP P m0 m) : HK (fun x => x.2) (KP P m0) (J166_41 f x1 x2 x3 xs1 m) := by
  unfold J166_41
  repeat' (first
    | (with_reducible assumption)
    | (with_reducible refine kmq_F162 hP ?_)
    | (exact HK.no)
    | (with_reducible refine HK.ite (fun _ => ?_) (fun _ => ?_))
    | (with_reducible refine HK.cU ?_ (fun _ _ => ?_))
    | (with_reducible refine HK.cI ?_ (fun _ _ _ => ?_))
    | (with_reducible refine HK.cP (fun _ _ => ?_))
    | (with_reducible refine HK.cT ?_ (fun _ _ _ => ?_) (fun _ _ _ => ?_))
    | (with_reducible refine HK.cL (HK.yl (fun _ _ _ => ?_) _ _ _ ?_) (fun _ _ _ => ?_) (fun _ _ _ => ?_))
    | (with_reducible refine HK.cQ (fun _ => ?_) (fun _ => ?_))
    | (with_reducible refine HK.soU ?_)
    | (with_reducible refine HK.soP ?_)
    | (with_reducible refine HK.so1 ?_)
    | (with_reducible refine HK.so2 ?_)
    | (with_reducible refine HK.so3 ?_)
    | (with_reducible refine KP.up ?_ ?_)
    | (exact fun h => by have := hP _ _ h; omega)
    | (exact fun q h => by have := hP _ _ h; omega))

theorem kmq_J166_40 (hP : ∀ a q, P a q → ¬ (a = 376 ∧ q = 57)) {f : Nat} {x1 : Int} {x2 : Int} {x3 : Int} {m : yM} (hm : KP P m0 m) : HK (fun x => x.2) (KP P m0) (J166_40 f x1 x2 x3 m) := by
  unfold J166_40
  repeat' (first
    | (with_reducible assumption)
    | (with_reducible refine kmq_J166_41 hP ?_)
    | (exact HK.no)
    | (with_reducible refine HK.ite (fun _ => ?_) (fun _ => ?_))
    | (with_reducible refine HK.cU ?_ (fun _ _ => ?_))
    | (with_reducible refine HK.cI ?_ (fun _ _ _ => ?_))
    | (with_reducible refine HK.cP (fun _ _ => ?_))
    | (with_reducible refine HK.cT ?_ (fun _ _ _ => ?_) (fun _ _ _ => ?_))
    | (with_reducible refine HK.cL (HK.yl (fun _ _ _ => ?_) _ _ _ ?_) (fun _ _ _ => ?_) (fun _ _ _ => ?_))
    | (with_reducible refine HK.cQ (fun _ => ?_) (fun _ => ?_))
    | (with_reducible refine HK.soU ?_)
    | (with_reducible refine HK.soP ?_)
    | (with_reducible refine HK.so1 ?_)
    | (with_reducible refine HK.so2 ?_)
    | (with_reducible refine HK.so3 ?_)
    | (with_reducible refine KP.up ?_ ?_)
    | (exact fun h => by have := hP _ _ h; omega)
    | (exact fun q h => by have := hP _ _ h; omega))

theorem kmq_F166 (hP : ∀ a q, P a q → ¬ (a = 376 ∧ q = 57)) {f : Nat} {x1 : Int} {x2 : Int} {x3 : Int} {m : yM} (hm : KP P m0 m) : HK (fun x => x.2) (KP P m0) (F166 f x1 x2 x3 m) := by
  unfold F166
  repeat' (first
    | (with_reducible assumption)
    | (with_reducible refine kmq_J166_40 hP ?_)
    | (with_reducible refine kmq_J166_41 hP ?_)
    | (exact HK.no)
    | (with_reducible refine HK.ite (fun _ => ?_) (fun _ => ?_))
    | (with_reducible refine HK.cU ?_ (fun _ _ => ?_))
    | (with_reducible refine HK.cI ?_ (fun _ _ _ => ?_))
    | (with_reducible refine HK.cP (fun _ _ => ?_))
    | (with_reducible refine HK.cT ?_ (fun _ _ _ => ?_) (fun _ _ _ => ?_))
    | (with_reducible refine HK.cL (HK.yl (fun _ _ _ => ?_) _ _ _ ?_) (fun _ _ _ => ?_) (fun _ _ _ => ?_))
    | (with_reducible refine HK.cQ (fun _ => ?_) (fun _ => ?_))
    | (with_reducible refine HK.soU ?_)
    | (with_reducible refine HK.soP ?_)
    | (with_reducible refine HK.so1 ?_)
    | (with_reducible refine HK.so2 ?_)
    | (with_reducible refine HK.so3 ?_)
    | (with_reducible refine KP.up ?_ ?_)
    | (exact fun h => by have := hP _ _ h; omega)
    | (exact fun q h => by have := hP _ _ h; omega))

theorem kmq_J171_33 (hP : ∀ a q, P a q → ¬ (a = 376 ∧ q = 57)) {f : Nat} {x1 : Int} {x2 : Int} {xs1 : Int} {m : yM} (hm : KP P m0 m) : HK (fun x => x.2) (KP P m0) (J171_33 f x1 x2 xs1 m) := by
  unfold J171_33
  repeat' (first
    | (with_reducible assumption)
    | (with_reducible refine kmq_F162 hP ?_)
    | (exact HK.no)
    | (with_reducible refine HK.ite (fun _ => ?_) (fun _ => ?_))
    | (with_reducible refine HK.cU ?_ (fun _ _ => ?_))
    | (with_reducible refine HK.cI ?_ (fun _ _ _ => ?_))
    | (with_reducible refine HK.cP (fun _ _ => ?_))
    | (with_reducible refine HK.cT ?_ (fun _ _ _ => ?_) (fun _ _ _ => ?_))
    | (with_reducible refine HK.cL (HK.yl (fun _ _ _ => ?_) _ _ _ ?_) (fun _ _ _ => ?_) (fun _ _ _ => ?_))
    | (with_reducible refine HK.cQ (fun _ => ?_) (fun _ => ?_))
    | (with_reducible refine HK.soU ?_)
    | (with_reducible refine HK.soP ?_)
    | (with_reducible refine HK.so1 ?_)
    | (with_reducible refine HK.so2 ?_)
    | (with_reducible refine HK.so3 ?_)
    | (with_reducible refine KP.up ?_ ?_)
    | (exact fun h => by have := hP _ _ h; omega)
    | (exact fun q h => by have := hP _ _ h; omega))

theorem kmq_J171_32 (hP : ∀ a q, P a q → ¬ (a = 376 ∧ q = 57)) {f : Nat} {x1 : Int} {x2 : Int} {m : yM} (hm : KP P m0 m) : HK (fun x => x.2) (KP P m0) (J171_32 f x1 x2 m) := by
  unfold J171_32
  repeat' (first
    | (with_reducible assumption)
    | (with_reducible refine kmq_J171_33 hP ?_)
    | (exact HK.no)
    | (with_reducible refine HK.ite (fun _ => ?_) (fun _ => ?_))
    | (with_reducible refine HK.cU ?_ (fun _ _ => ?_))
    | (with_reducible refine HK.cI ?_ (fun _ _ _ => ?_))
    | (with_reducible refine HK.cP (fun _ _ => ?_))
    | (with_reducible refine HK.cT ?_ (fun _ _ _ => ?_) (fun _ _ _ => ?_))
    | (with_reducible refine HK.cL (HK.yl (fun _ _ _ => ?_) _ _ _ ?_) (fun _ _ _ => ?_) (fun _ _ _ => ?_))
    | (with_reducible refine HK.cQ (fun _ => ?_) (fun _ => ?_))
    | (with_reducible refine HK.soU ?_)
    | (with_reducible refine HK.soP ?_)
    | (with_reducible refine HK.so1 ?_)
    | (with_reducible refine HK.so2 ?_)
    | (with_reducible refine HK.so3 ?_)
    | (with_reducible refine KP.up ?_ ?_)
    | (exact fun h => by have := hP _ _ h; omega)
    | (exact fun q h => by have := hP _ _ h; omega))

theorem kmq_F171 (hP : ∀ a q, P a q → ¬ (a = 376 ∧ q = 57)) {f : Nat} {x1 : Int} {x2 : Int} {m : yM} (hm : KP P m0 m) : HK (fun x => x.2) (KP P m0) (F171 f x1 x2 m) := by
  unfold F171
  repeat' (first
    | (with_reducible assumption)
    | (with_reducible refine kmq_J171_32 hP ?_)
    | (with_reducible refine kmq_J171_33 hP ?_)
    | (exact HK.no)
    | (with_reducible refine HK.ite (fun _ => ?_) (fun _ => ?_))
    | (with_reducible refine HK.cU ?_ (fun _ _ => ?_))
    | (with_reducible refine HK.cI ?_ (fun _ _ _ => ?_))
    | (with_reducible refine HK.cP (fun _ _ => ?_))
    | (with_reducible refine HK.cT ?_ (fun _ _ _ => ?_) (fun _ _ _ => ?_))
    | (with_reducible refine HK.cL (HK.yl (fun _ _ _ => ?_) _ _ _ ?_) (fun _ _ _ => ?_) (fun _ _ _ => ?_))
    | (with_reducible refine HK.cQ (fun _ => ?_) (fun _ => ?_))
    | (with_reducible refine HK.soU ?_)
    | (with_reducible refine HK.soP ?_)
    | (with_reducible refine HK.so1 ?_)
    | (with_reducible refine HK.so2 ?_)
    | (with_reducible refine HK.so3 ?_)
    | (with_reducible refine KP.up ?_ ?_)
    | (exact fun h => by have := hP _ _ h; omega)
    | (exact fun q h => by have := hP _ _ h; omega))

theorem kmq_F174 (hP : ∀ a q, P a q → ¬ (a = 376 ∧ q = 57)) {f : Nat} {x1 : Int} {m : yM} (hm : KP P m0 m) : HK (fun x => x.2) (KP P m0) (F174 f x1 m) := by
  unfold F174
  repeat' (first
    | (with_reducible assumption)
    | (with_reducible refine kmq_F162 hP ?_)
    | (exact HK.no)
    | (with_reducible refine HK.ite (fun _ => ?_) (fun _ => ?_))
    | (with_reducible refine HK.cU ?_ (fun _ _ => ?_))
    | (with_reducible refine HK.cI ?_ (fun _ _ _ => ?_))
    | (with_reducible refine HK.cP (fun _ _ => ?_))
    | (with_reducible refine HK.cT ?_ (fun _ _ _ => ?_) (fun _ _ _ => ?_))
    | (with_reducible refine HK.cL (HK.yl (fun _ _ _ => ?_) _ _ _ ?_) (fun _ _ _ => ?_) (fun _ _ _ => ?_))
    | (with_reducible refine HK.cQ (fun _ => ?_) (fun _ => ?_))
    | (with_reducible refine HK.soU ?_)
    | (with_reducible refine HK.soP ?_)
    | (with_reducible refine HK.so1 ?_)
    | (with_reducible refine HK.so2 ?_)
    | (with_reducible refine HK.so3 ?_)
    | (with_reducible refine KP.up ?_ ?_)
    | (exact fun h => by have := hP _ _ h; omega)
    | (exact fun q h => by have := hP _ _ h; omega))

theorem kmq_J178_110 (hP : ∀ a q, P a q → ¬ (a = 376 ∧ q = 57)) {f : Nat} {x1 : Int} {x2 : Int} {x3 : Int} {m : yM} (hm : KP P m0 m) : HK mB (KP P m0) (J178_110 f x1 x2 x3 m) := by
  unfold J178_110
  repeat' (first
    | (with_reducible assumption)
    | (exact HK.no)
    | (with_reducible refine HK.ite (fun _ => ?_) (fun _ => ?_))
    | (with_reducible refine HK.cU ?_ (fun _ _ => ?_))
    | (with_reducible refine HK.cI ?_ (fun _ _ _ => ?_))
    | (with_reducible refine HK.cP (fun _ _ => ?_))
    | (with_reducible refine HK.cT ?_ (fun _ _ _ => ?_) (fun _ _ _ => ?_))
    | (with_reducible refine HK.cL (HK.yl (fun _ _ _ => ?_) _ _ _ ?_) (fun _ _ _ => ?_) (fun _ _ _ => ?_))
    | (with_reducible refine HK.cQ (fun _ => ?_) (fun _ => ?_))
    | (with_reducible refine HK.soU ?_)
    | (with_reducible refine HK.soP ?_)
    | (with_reducible refine HK.so1 ?_)
    | (with_reducible refine HK.so2 ?_)
    | (with_reducible refine HK.so3 ?_)
    | (with_reducible refine KP.up ?_ ?_)
    | (exact fun h => by have := hP _ _ h; omega)
    | (exact fun q h => by have := hP _ _ h; omega))

theorem kmq_B178_42 (hP : ∀ a q, P a q → ¬ (a = 376 ∧ q = 57)) {f : Nat} {x1 : Int} {x2 : Int} {x3 : Int} {m : yM} (hm : KP P m0 m) : HK mB (KP P m0) (B178_42 f x1 x2 x3 m) := by
  unfold B178_42
  repeat' (first
    | (with_reducible assumption)
    | (with_reducible refine kmq_J178_110 hP ?_)
    | (exact HK.no)
    | (with_reducible refine HK.ite (fun _ => ?_) (fun _ => ?_))
    | (with_reducible refine HK.cU ?_ (fun _ _ => ?_))
    | (with_reducible refine HK.cI ?_ (fun _ _ _ => ?_))
    | (with_reducible refine HK.cP (fun _ _ => ?_))
    | (with_reducible refine HK.cT ?_ (fun _ _ _ => ?_) (fun _ _ _ => ?_))
    | (with_reducible refine HK.cL (HK.yl (fun _ _ _ => ?_) _ _ _ ?_) (fun _ _ _ => ?_) (fun _ _ _ => ?_))
    | (with_reducible refine HK.cQ (fun _ => ?_) (fun _ => ?_))
    | (with_reducible refine HK.soU ?_)
    | (with_reducible refine HK.soP ?_)
    | (with_reducible refine HK.so1 ?_)
    | (with_reducible refine HK.so2 ?_)
    | (with_reducible refine HK.so3 ?_)
    | (with_reducible refine KP.up ?_ ?_)
    | (exact fun h => by have := hP _ _ h; omega)
    | (exact fun q h => by have := hP _ _ h; omega))

theorem kmq_F178 (hP : ∀ a q, P a q → ¬ (a = 376 ∧ q = 57)) {f : Nat} {x1 : Int} {m : yM} (hm : KP P m0 m) : HK (fun x => x.2) (KP P m0) (F178 f x1 m) := by
  unfold F178
  repeat' (first
    | (with_reducible assumption)
    | (with_reducible refine kmq_F162 hP ?_)
    | (with_reducible refine kmq_B178_42 hP ?_)
    | (exact HK.no)
    | (with_reducible refine HK.ite (fun _ => ?_) (fun _ => ?_))
    | (with_reducible refine HK.cU ?_ (fun _ _ => ?_))
    | (with_reducible refine HK.cI ?_ (fun _ _ _ => ?_))
    | (with_reducible refine HK.cP (fun _ _ => ?_))
    | (with_reducible refine HK.cT ?_ (fun _ _ _ => ?_) (fun _ _ _ => ?_))
    | (with_reducible refine HK.cL (HK.yl (fun _ _ _ => ?_) _ _ _ ?_) (fun _ _ _ => ?_) (fun _ _ _ => ?_))
    | (with_reducible refine HK.cQ (fun _ => ?_) (fun _ => ?_))
    | (with_reducible refine HK.soU ?_)
    | (with_reducible refine HK.soP ?_)
    | (with_reducible refine HK.so1 ?_)
    | (with_reducible refine HK.so2 ?_)
    | (with_reducible refine HK.so3 ?_)
    | (with_reducible refine KP.up ?_ ?_)
    | (exact fun h => by have := hP _ _ h; omega)
    | (exact fun q h => by have := hP _ _ h; omega))

theorem kmq_J182_75 (hP : ∀ a q, P a q → ¬ (a = 376 ∧ q = 57)) {f : Nat} {x1 : Int} {x2 : Int} {x3 : Int} {m : yM} (hm : KP P m0 m) : HK mB (KP P m0) (J182_75 f x1 x2 x3 m) := by
  unfold J182_75
  repeat' (first
    | (with_reducible assumption)
    | (exact HK.no)
    | (with_reducible refine HK.ite (fun _ => ?_) (fun _ => ?_))
    | (with_reducible refine HK.cU ?_ (fun _ _ => ?_))
    | (with_reducible refine HK.cI ?_ (fun _ _ _ => ?_))
    | (with_reducible refine HK.cP (fun _ _ => ?_))
    | (with_reducible refine HK.cT ?_ (fun _ _ _ => ?_) (fun _ _ _ => ?_))
    | (with_reducible refine HK.cL (HK.yl (fun _ _ _ => ?_) _ _ _ ?_) (fun _ _ _ => ?_) (fun _ _ _ => ?_))
    | (with_reducible refine HK.cQ (fun _ => ?_) (fun _ => ?_))
    | (with_reducible refine HK.soU ?_)
    | (with_reducible refine HK.soP ?_)
    | (with_reducible refine HK.so1 ?_)
    | (with_reducible refine HK.so2 ?_)
    | (with_reducible refine HK.so3 ?_)
    | (with_reducible refine KP.up ?_ ?_)
    | (exact fun h => by have := hP _ _ h; omega)
    | (exact fun q h => by have := hP _ _ h; omega))

theorem kmq_B182_32 (hP : ∀ a q, P a q → ¬ (a = 376 ∧ q = 57)) {f : Nat} {x1 : Int} {x2 : Int} {x3 : Int} {m : yM} (hm : KP P m0 m) : HK mB (KP P m0) (B182_32 f x1 x2 x3 m) := by
  unfold B182_32
  repeat' (first
    | (with_reducible assumption)
    | (with_reducible refine kmq_J182_75 hP ?_)
    | (exact HK.no)
    | (with_reducible refine HK.ite (fun _ => ?_) (fun _ => ?_))
    | (with_reducible refine HK.cU ?_ (fun _ _ => ?_))
    | (with_reducible refine HK.cI ?_ (fun _ _ _ => ?_))
    | (with_reducible refine HK.cP (fun _ _ => ?_))
    | (with_reducible refine HK.cT ?_ (fun _ _ _ => ?_) (fun _ _ _ => ?_))
    | (with_reducible refine HK.cL (HK.yl (fun _ _ _ => ?_) _ _ _ ?_) (fun _ _ _ => ?_) (fun _ _ _ => ?_))
    | (with_reducible refine HK.cQ (fun _ => ?_) (fun _ => ?_))
    | (with_reducible refine HK.soU ?_)
    | (with_reducible refine HK.soP ?_)
    | (with_reducible refine HK.so1 ?_)
    | (with_reducible refine HK.so2 ?_)
    | (with_reducible refine HK.so3 ?_)
    | (with_reducible refine KP.up ?_ ?_)
    | (exact fun h => by have := hP _ _ h; omega)
    | (exact fun q h => by have := hP _ _ h; omega))

theorem kmq_J182_22 (hP : ∀ a q, P a q → ¬ (a = 376 ∧ q = 57)) {f : Nat} {x1 : Int} {x2 : Int} {xs1 : Int} {m : yM} (hm : KP P m0 m) : HK (fun x => x.2) (KP P m0) (J182_22 f x1 x2 xs1 m) := by
  unfold J182_22
  repeat' (first
    | (with_reducible assumption)
    | (with_reducible refine kmq_F162 hP ?_)
    | (with_reducible refine kmq_B182_32 hP ?_)
    | (exact HK.no)
    | (with_reducible refine HK.ite (fun _ => ?_) (fun _ => ?_))
    | (with_reducible refine HK.cU ?_ (fun _ _ => ?_))
    | (with_reducible refine HK.cI ?_ (fun _ _ _ => ?_))
    | (with_reducible refine HK.cP (fun _ _ => ?_))
    | (with_reducible refine HK.cT ?_ (fun _ _ _ => ?_) (fun _ _ _ => ?_))
    | (with_reducible refine HK.cL (HK.yl (fun _ _ _ => ?_) _ _ _ ?_) (fun _ _ _ => ?_) (fun _ _ _ => ?_))
    | (with_reducible refine HK.cQ (fun _ => ?_) (fun _ => ?_))
    | (with_reducible refine HK.soU ?_)
    | (with_reducible refine HK.soP ?_)
    | (with_reducible refine HK.so1 ?_)
    | (with_reducible refine HK.so2 ?_)
    | (with_reducible refine HK.so3 ?_)
    | (with_reducible refine KP.up ?_ ?_)
    | (exact fun h => by have := hP _ _ h; omega)
    | (exact fun q h => by have := hP _ _ h; omega))

theorem kmq_J182_21 (hP : ∀ a q, P a q → ¬ (a = 376 ∧ q = 57)) {f : Nat} {x1 : Int} {x2 : Int} {m : yM} (hm : KP P m0 m) : HK (fun x => x.2) (KP P m0) (J182_21 f x1 x2 m) := by
  unfold J182_21
  repeat' (first
    | (with_reducible assumption)
    | (with_reducible refine kmq_J182_22 hP ?_)
    | (exact HK.no)
    | (with_reducible refine HK.ite (fun _ => ?_) (fun _ => ?_))
    | (with_reducible refine HK.cU ?_ (fun _ _ => ?_))
    | (with_reducible refine HK.cI ?_ (fun _ _ _ => ?_))
    | (with_reducible refine HK.cP (fun _ _ => ?_))
    | (with_reducible refine HK.cT ?_ (fun _ _ _ => ?_) (fun _ _ _ => ?_))
    | (with_reducible refine HK.cL (HK.yl (fun _ _ _ => ?_) _ _ _ ?_) (fun _ _ _ => ?_) (fun _ _ _ => ?_))
    | (with_reducible refine HK.cQ (fun _ => ?_) (fun _ => ?_))
    | (with_reducible refine HK.soU ?_)
    | (with_reducible refine HK.soP ?_)
    | (with_reducible refine HK.so1 ?_)
    | (with_reducible refine HK.so2 ?_)
    | (with_reducible refine HK.so3 ?_)
    | (with_reducible refine KP.up ?_ ?_)
    | (exact fun h => by have := hP _ _ h; omega)
    | (exact fun q h => by have := hP _ _ h; omega))

theorem kmq_F182 (hP : ∀ a q, P a q → ¬ (a = 376 ∧ q = 57)) {f : Nat} {x1 : Int} {x2 : Int} {m : yM} (hm : KP P m0 m) : HK (fun x => x.2) (KP P m0) (F182 f x1 x2 m) := by
  unfold F182
  repeat' (first
    | (with_reducible assumption)
    | (with_reducible refine kmq_J182_21 hP ?_)
    | (with_reducible refine kmq_J182_22 hP ?_)
    | (exact HK.no)
    | (with_reducible refine HK.ite (fun _ => ?_) (fun _ => ?_))
    | (with_reducible refine HK.cU ?_ (fun _ _ => ?_))
    | (with_reducible refine HK.cI ?_ (fun _ _ _ => ?_))
    | (with_reducible refine HK.cP (fun _ _ => ?_))
    | (with_reducible refine HK.cT ?_ (fun _ _ _ => ?_) (fun _ _ _ => ?_))
    | (with_reducible refine HK.cL (HK.yl (fun _ _ _ => ?_) _ _ _ ?_) (fun _ _ _ => ?_) (fun _ _ _ => ?_))
    | (with_reducible refine HK.cQ (fun _ => ?_) (fun _ => ?_))
    | (with_reducible refine HK.soU ?_)
    | (with_reducible refine HK.soP ?_)
    | (with_reducible refine HK.so1 ?_)
    | (with_reducible refine HK.so2 ?_)
    | (with_reducible refine HK.so3 ?_)
    | (with_reducible refine KP.up ?_ ?_)
    | (exact fun h => by have := hP _ _ h; omega)
    | (exact fun q h => by have := hP _ _ h; omega))

theorem kmq_F185 (hP : ∀ a q, P a q → ¬ (a = 376 ∧ q = 57)) {f : Nat} {x1 : Int} {x2 : Int} {m : yM} (hm : KP P m0 m) : HK (fun x => x.2) (KP P m0) (F185 f x1 x2 m) := by
  unfold F185
  repeat' (first
    | (with_reducible assumption)
    | (with_reducible refine kmq_F162 hP ?_)
    | (with_reducible refine kmq_F23 hP ?_)
    | (exact HK.no)
    | (with_reducible refine HK.ite (fun _ => ?_) (fun _ => ?_))
    | (with_reducible refine HK.cU ?_ (fun _ _ => ?_))
    | (with_reducible refine HK.cI ?_ (fun _ _ _ => ?_))
    | (with_reducible refine HK.cP (fun _ _ => ?_))
    | (with_reducible refine HK.cT ?_ (fun _ _ _ => ?_) (fun _ _ _ => ?_))
    | (with_reducible refine HK.cL (HK.yl (fun _ _ _ => ?_) _ _ _ ?_) (fun _ _ _ => ?_) (fun _ _ _ => ?_))
    | (with_reducible refine HK.cQ (fun _ => ?_) (fun _ => ?_))
    | (with_reducible refine HK.soU ?_)
    | (with_reducible refine HK.soP ?_)
    | (with_reducible refine HK.so1 ?_)
    | (with_reducible refine HK.so2 ?_)
    | (with_reducible refine HK.so3 ?_)
    | (with_reducible refine KP.up ?_ ?_)
    | (exact fun h => by have := hP _ _ h; omega)
    | (exact fun q h => by have := hP _ _ h; omega))

theorem kmq_J214_22 (hP : ∀ a q, P a q → ¬ (a = 376 ∧ q = 57)) {f : Nat} {x1 : Int} {x2 : Int} {xs1 : Int} {m : yM} (hm : KP P m0 m) : HK (fun x => x.2) (KP P m0) (J214_22 f x1 x2 xs1 m) := by
  unfold J214_22
  repeat' (first
    | (with_reducible assumption)
    | (with_reducible refine kmq_F162 hP ?_)
    | (exact HK.no)
    | (with_reducible refine HK.ite (fun _ => ?_) (fun _ => ?_))
    | (with_reducible refine HK.cU ?_ (fun _ _ => ?_))
    | (with_reducible refine HK.cI ?_ (fun _ _ _ => ?_))
    | (with_reducible refine HK.cP (fun _ _ => ?_))
    | (with_reducible refine HK.cT ?_ (fun _ _ _ => ?_) (fun _ _ _ => ?_))
    | (with_reducible refine HK.cL (HK.yl (fun _ _ _ => ?_) _ _ _ ?_) (fun _ _ _ => ?_) (fun _ _ _ => ?_))
    | (with_reducible refine HK.cQ (fun _ => ?_) (fun _ => ?_))
    | (with_reducible refine HK.soU ?_)
    | (with_reducible refine HK.soP ?_)
    | (with_reducible refine HK.so1 ?_)
    | (with_reducible refine HK.so2 ?_)
    | (with_reducible refine HK.so3 ?_)
    | (with_reducible refine KP.up ?_ ?_)
    | (exact fun h => by have := hP _ _ h; omega)
    | (exact fun q h => by have := hP _ _ h; omega))

theorem kmq_J214_21 (hP : ∀ a q, P a q → ¬ (a = 376 ∧ q = 57)) {f : Nat} {x1 : Int} {x2 : Int} {m : yM} (hm : KP P m0 m) : HK (fun x => x.2) (KP P m0) (J214_21 f x1 x2 m) := by
  unfold J214_21
  repeat' (first
    | (with_reducible assumption)
    | (with_reducible refine kmq_J214_22 hP ?_)
    | (exact HK.no)
    | (with_reducible refine HK.ite (fun _ => ?_) (fun _ => ?_))
    | (with_reducible refine HK.cU ?_ (fun _ _ => ?_))
    | (with_reducible refine HK.cI ?_ (fun _ _ _ => ?_))
    | (with_reducible refine HK.cP (fun _ _ => ?_))
    | (with_reducible refine HK.cT ?_ (fun _ _ _ => ?_) (fun _ _ _ => ?_))
    | (with_reducible refine HK.cL (HK.yl (fun _ _ _ => ?_) _ _ _ ?_) (fun _ _ _ => ?_) (fun _ _ _ => ?_))
    | (with_reducible refine HK.cQ (fun _ => ?_) (fun _ => ?_))
    | (with_reducible refine HK.soU ?_)
    | (with_reducible refine HK.soP ?_)
    | (with_reducible refine HK.so1 ?_)
    | (with_reducible refine HK.so2 ?_)
    | (with_reducible refine HK.so3 ?_)
    | (with_reducible refine KP.up ?_ ?_)
    | (exact fun h => by have := hP _ _ h; omega)
    | (exact fun q h => by have := hP _ _ h; omega))

theorem kmq_F214 (hP : ∀ a q, P a q → ¬ (a = 376 ∧ q = 57)) {f : Nat} {x1 : Int} {x2 : Int} {m : yM} (hm : KP P m0 m) : HK (fun x => x.2) (KP P m0) (F214 f x1 x2 m) := by
  unfold F214
  repeat' (first
    | (with_reducible assumption)
    | (with_reducible refine kmq_J214_21 hP ?_)
    | (with_reducible refine kmq_J214_22 hP ?_)
    | (exact HK.no)
    | (with_reducible refine HK.ite (fun _ => ?_) (fun _ => ?_))
    | (with_reducible refine HK.cU ?_ (fun _ _ => ?_))
    | (with_reducible refine HK.cI ?_ (fun _ _ _ => ?_))
    | (with_reducible refine HK.cP (fun _ _ => ?_))
    | (with_reducible refine HK.cT ?_ (fun _ _ _ => ?_) (fun _ _ _ => ?_))
    | (with_reducible refine HK.cL (HK.yl (fun _ _ _ => ?_) _ _ _ ?_) (fun _ _ _ => ?_) (fun _ _ _ => ?_))
    | (with_reducible refine HK.cQ (fun _ => ?_) (fun _ => ?_))
    | (with_reducible refine HK.soU ?_)
    | (with_reducible refine HK.soP ?_)
    | (with_reducible refine HK.so1 ?_)
    | (with_reducible refine HK.so2 ?_)
    | (with_reducible refine HK.so3 ?_)
    | (with_reducible refine KP.up ?_ ?_)
    | (exact fun h => by have := hP _ _ h; omega)
    | (exact fun q h => by have := hP _ _ h; omega))

theorem kmq_F217 (hP : ∀ a q, P a q → ¬ (a = 376 ∧ q = 57)) {f : Nat} {x1 : Int} {m : yM} (hm : KP P m0 m) : HK (fun x => x.2) (KP P m0) (F217 f x1 m) := by
  unfold F217
  repeat' (first
    | (with_reducible assumption)
    | (with_reducible refine kmq_F23 hP ?_)
    | (exact HK.no)
    | (with_reducible refine HK.ite (fun _ => ?_) (fun _ => ?_))
    | (with_reducible refine HK.cU ?_ (fun _ _ => ?_))
    | (with_reducible refine HK.cI ?_ (fun _ _ _ => ?_))
    | (with_reducible refine HK.cP (fun _ _ => ?_))
    | (with_reducible refine HK.cT ?_ (fun _ _ _ => ?_) (fun _ _ _ => ?_))
    | (with_reducible refine HK.cL (HK.yl (fun _ _ _ => ?_) _ _ _ ?_) (fun _ _ _ => ?_) (fun _ _ _ => ?_))
    | (with_reducible refine HK.cQ (fun _ => ?_) (fun _ => ?_))
    | (with_reducible refine HK.soU ?_)
    | (with_reducible refine HK.soP ?_)
    | (with_reducible refine HK.so1 ?_)
    | (with_reducible refine HK.so2 ?_)
    | (with_reducible refine HK.so3 ?_)
    | (with_reducible refine KP.up ?_ ?_)
    | (exact fun h => by have := hP _ _ h; omega)
    | (exact fun q h => by have := hP _ _ h; omega))

end FRmq

def KC (A : Nat) (P : Nat → Nat → Prop) (m0 m : yM) : Prop := KP P m0 m ∧ 0 ≤ m A 16 ∧ m A 16 ≤ 40 ∧ 0 ≤ m A 10 ∧ m A 10 ≤ 10
section FRpa
variable {P : Nat → Nat → Prop} {m0 : yM} {A : Nat}
theorem KC.up {m : yM} {a q : Nat} {v : Int} (h : KC A P m0 m) (hn : ¬ P a q) (h1 : ¬ (a = A ∧ (q = 16 ∨ q = 10))) : KC A P m0 (yup m a q v) := by
  obtain ⟨k0, k1, k2, k3, k4⟩ := h
  refine ⟨k0.up hn, ?_, ?_, ?_, ?_⟩
  · rw [yup_ne (fun e => h1 ⟨e.1.symm, Or.inl e.2.symm⟩)]; exact k1
  · rw [yup_ne (fun e => h1 ⟨e.1.symm, Or.inl e.2.symm⟩)]; exact k2
  · rw [yup_ne (fun e => h1 ⟨e.1.symm, Or.inr e.2.symm⟩)]; exact k3
  · rw [yup_ne (fun e => h1 ⟨e.1.symm, Or.inr e.2.symm⟩)]; exact k4
theorem kpa_u10 (hA : A = 256 ∨ A = 316) (hP : ∀ a q, P a q → a ≠ 2 ∧ a ≠ 3 ∧ a ≠ 5 ∧ a ≠ 6 ∧ a ≠ 7 ∧ ¬ (A ≤ a ∧ a < A + 60 ∧ a ≠ A + 8)) {m : yM} {v : Int} (h : KC A P m0 m) (hv : 0 ≤ v ∧ v ≤ 10) : KC A P m0 (yup m A 10 v) := by
  obtain ⟨k0, k1, k2, k3, k4⟩ := h
  refine ⟨k0.up (fun h => by have := hP _ _ h; omega), ?_, ?_, ?_, ?_⟩
  · rw [yup_nk (by decide)]; exact k1
  · rw [yup_nk (by decide)]; exact k2
  · rw [yup_eq]; exact hv.1
  · rw [yup_eq]; exact hv.2
theorem kpa_u16 (hA : A = 256 ∨ A = 316) (hP : ∀ a q, P a q → a ≠ 2 ∧ a ≠ 3 ∧ a ≠ 5 ∧ a ≠ 6 ∧ a ≠ 7 ∧ ¬ (A ≤ a ∧ a < A + 60 ∧ a ≠ A + 8)) {m : yM} {v : Int} (h : KC A P m0 m) (hv : 0 ≤ v ∧ v ≤ 40) : KC A P m0 (yup m A 16 v) := by
  obtain ⟨k0, k1, k2, k3, k4⟩ := h
  refine ⟨k0.up (fun h => by have := hP _ _ h; omega), ?_, ?_, ?_, ?_⟩
  · rw [yup_eq]; exact hv.1
  · rw [yup_eq]; exact hv.2
  · rw [yup_nk (by decide)]; exact k3
  · rw [yup_nk (by decide)]; exact k4
theorem kpa_rowR (hA : A = 256 ∨ A = 316) (hP : ∀ a q, P a q → a ≠ 2 ∧ a ≠ 3 ∧ a ≠ 5 ∧ a ≠ 6 ∧ a ≠ 7 ∧ ¬ (A ≤ a ∧ a < A + 60 ∧ a ≠ A + 8)) {m : yM} (h : KC A P m0 m) : A + 10 ≤ A + 10 + (wr ((m A 10) - 1)).toNat ∧ A + 10 + (wr ((m A 10) - 1)).toNat < A + 60 := by
  obtain ⟨k0, k1, k2, k3, k4⟩ := h
  rw [wr_i (by omega) (by omega)]
  omega
theorem kpa_rowP (hA : A = 256 ∨ A = 316) (hP : ∀ a q, P a q → a ≠ 2 ∧ a ≠ 3 ∧ a ≠ 5 ∧ a ≠ 6 ∧ a ≠ 7 ∧ ¬ (A ≤ a ∧ a < A + 60 ∧ a ≠ A + 8)) {m : yM} (h : KC A P m0 m) (q : Nat) : ¬ P (A + 10 + (wr ((m A 10) - 1)).toNat) q := fun hq => by
  have h1 := kpa_rowR hA hP h
  have := hP _ _ hq
  omega

theorem kpa_F32 (hA : A = 256 ∨ A = 316) (hP : ∀ a q, P a q → a ≠ 2 ∧ a ≠ 3 ∧ a ≠ 5 ∧ a ≠ 6 ∧ a ≠ 7 ∧ ¬ (A ≤ a ∧ a < A + 60 ∧ a ≠ A + 8)) {f : Nat} {x1 : Int} {x2 : Int} {m : yM} (hm : KC A P m0 m) : HK id (KC A P m0) (F32 f x1 x2 m) := by
  unfold F32
  repeat' (first
    | (with_reducible assumption)
    | (exact HK.no)
    | (with_reducible refine HK.ite (fun _ => ?_) (fun _ => ?_))
    | (with_reducible refine HK.cU ?_ (fun _ _ => ?_))
    | (with_reducible refine HK.cI ?_ (fun _ _ _ => ?_))
    | (with_reducible refine HK.cP (fun _ _ => ?_))
    | (with_reducible refine HK.cL (HK.yl (fun _ _ _ => ?_) _ _ _ ?_) (fun _ _ _ => ?_) (fun _ _ _ => ?_))
    | (with_reducible refine HK.soU ?_)
    | (with_reducible refine HK.soP ?_)
    | (with_reducible refine HK.so1 ?_)
    | (with_reducible refine HK.so2 ?_)
    | (with_reducible refine HK.so3 ?_)
    | (with_reducible refine KC.up ?_ ?_ ?_)
    | (exact kpa_rowP hA hP (by assumption) _)
    | (exact kpa_rowR hA hP (by assumption))
    | (exact fun h => by have := hP _ _ h; omega)
    | (omega)
    | ((obtain ⟨_, _, _, _, _⟩ := hm; omega)))

theorem kpa_J33_12 (hA : A = 256 ∨ A = 316) (hP : ∀ a q, P a q → a ≠ 2 ∧ a ≠ 3 ∧ a ≠ 5 ∧ a ≠ 6 ∧ a ≠ 7 ∧ ¬ (A ≤ a ∧ a < A + 60 ∧ a ≠ A + 8)) {f : Nat} {x1 : Int} {x3 : Int} {m : yM} (hm : KC A P m0 m) : HK id (KC A P m0) (J33_12 f x1 x3 m) := by
  unfold J33_12
  repeat' (first
    | (with_reducible assumption)
    | (exact HK.no)
    | (with_reducible refine HK.ite (fun _ => ?_) (fun _ => ?_))
    | (with_reducible refine HK.cU ?_ (fun _ _ => ?_))
    | (with_reducible refine HK.cI ?_ (fun _ _ _ => ?_))
    | (with_reducible refine HK.cP (fun _ _ => ?_))
    | (with_reducible refine HK.cL (HK.yl (fun _ _ _ => ?_) _ _ _ ?_) (fun _ _ _ => ?_) (fun _ _ _ => ?_))
    | (with_reducible refine HK.soU ?_)
    | (with_reducible refine HK.soP ?_)
    | (with_reducible refine HK.so1 ?_)
    | (with_reducible refine HK.so2 ?_)
    | (with_reducible refine HK.so3 ?_)
    | (with_reducible refine KC.up ?_ ?_ ?_)
    | (exact kpa_rowP hA hP (by assumption) _)
    | (exact kpa_rowR hA hP (by assumption))
    | (exact fun h => by have := hP _ _ h; omega)
    | (omega)
    | ((obtain ⟨_, _, _, _, _⟩ := hm; omega)))

theorem kpa_F33 (hA : A = 256 ∨ A = 316) (hP : ∀ a q, P a q → a ≠ 2 ∧ a ≠ 3 ∧ a ≠ 5 ∧ a ≠ 6 ∧ a ≠ 7 ∧ ¬ (A ≤ a ∧ a < A + 60 ∧ a ≠ A + 8)) {f : Nat} {x1 : Int} {x2 : Int} {x3 : Int} {m : yM} (hm : KC A P m0 m) : HK id (KC A P m0) (F33 f x1 x2 x3 m) := by
  unfold F33
  repeat' (first
    | (with_reducible assumption)
    | (with_reducible refine kpa_F32 hA hP ?_)
    | (with_reducible refine kpa_J33_12 hA hP ?_)
    | (exact HK.no)
    | (with_reducible refine HK.ite (fun _ => ?_) (fun _ => ?_))
    | (with_reducible refine HK.cU ?_ (fun _ _ => ?_))
    | (with_reducible refine HK.cI ?_ (fun _ _ _ => ?_))
    | (with_reducible refine HK.cP (fun _ _ => ?_))
    | (with_reducible refine HK.cL (HK.yl (fun _ _ _ => ?_) _ _ _ ?_) (fun _ _ _ => ?_) (fun _ _ _ => ?_))
    | (with_reducible refine HK.soU ?_)
    | (with_reducible refine HK.soP ?_)
    | (with_reducible refine HK.so1 ?_)
    | (with_reducible refine HK.so2 ?_)
    | (with_reducible refine HK.so3 ?_)
    | (with_reducible refine KC.up ?_ ?_ ?_)
    | (exact kpa_rowP hA hP (by assumption) _)
    | (exact kpa_rowR hA hP (by assumption))
    | (exact fun h => by have := hP _ _ h; omega)
    | (omega)
    | ((obtain ⟨_, _, _, _, _⟩ := hm; omega)))

theorem kpa_J35_54 (hA : A = 256 ∨ A = 316) (hP : ∀ a q, P a q → a ≠ 2 ∧ a ≠ 3 ∧ a ≠ 5 ∧ a ≠ 6 ∧ a ≠ 7 ∧ ¬ (A ≤ a ∧ a < A + 60 ∧ a ≠ A + 8)) {f : Nat} {x1 : Int} {x2 : Int} {m : yM} (hm : KC A P m0 m) : HK mB (KC A P m0) (J35_54 f x1 x2 m) := by
  unfold J35_54
  repeat' (first
    | (with_reducible assumption)
    | (exact HK.no)
    | (with_reducible refine HK.ite (fun _ => ?_) (fun _ => ?_))
    | (with_reducible refine HK.cU ?_ (fun _ _ => ?_))
    | (with_reducible refine HK.cI ?_ (fun _ _ _ => ?_))
    | (with_reducible refine HK.cP (fun _ _ => ?_))
    | (with_reducible refine HK.cL (HK.yl (fun _ _ _ => ?_) _ _ _ ?_) (fun _ _ _ => ?_) (fun _ _ _ => ?_))
    | (with_reducible refine HK.soU ?_)
    | (with_reducible refine HK.soP ?_)
    | (with_reducible refine HK.so1 ?_)
    | (with_reducible refine HK.so2 ?_)
    | (with_reducible refine HK.so3 ?_)
    | (with_reducible refine KC.up ?_ ?_ ?_)
    | (exact kpa_rowP hA hP (by assumption) _)
    | (exact kpa_rowR hA hP (by assumption))
    | (exact fun h => by have := hP _ _ h; omega)
    | (omega)
    | ((obtain ⟨_, _, _, _, _⟩ := hm; omega)))

theorem kpa_B35_12 (hA : A = 256 ∨ A = 316) (hP : ∀ a q, P a q → a ≠ 2 ∧ a ≠ 3 ∧ a ≠ 5 ∧ a ≠ 6 ∧ a ≠ 7 ∧ ¬ (A ≤ a ∧ a < A + 60 ∧ a ≠ A + 8)) {f : Nat} {x1 : Int} {x2 : Int} {m : yM} (hm : KC A P m0 m) : HK mB (KC A P m0) (B35_12 f x1 x2 m) := by
  unfold B35_12
  repeat' (first
    | (with_reducible assumption)
    | (with_reducible refine kpa_J35_54 hA hP ?_)
    | (exact HK.no)
    | (with_reducible refine HK.ite (fun _ => ?_) (fun _ => ?_))
    | (with_reducible refine HK.cU ?_ (fun _ _ => ?_))
    | (with_reducible refine HK.cI ?_ (fun _ _ _ => ?_))
    | (with_reducible refine HK.cP (fun _ _ => ?_))
    | (with_reducible refine HK.cL (HK.yl (fun _ _ _ => ?_) _ _ _ ?_) (fun _ _ _ => ?_) (fun _ _ _ => ?_))
    | (with_reducible refine HK.soU ?_)
    | (with_reducible refine HK.soP ?_)
    | (with_reducible refine HK.so1 ?_)
    | (with_reducible refine HK.so2 ?_)
    | (with_reducible refine HK.so3 ?_)
    | (with_reducible refine KC.up ?_ ?_ ?_)
    | (exact kpa_rowP hA hP (by assumption) _)
    | (exact kpa_rowR hA hP (by assumption))
    | (exact fun h => by have := hP _ _ h; omega)
    | (omega)
    | ((obtain ⟨_, _, _, _, _⟩ := hm; omega)))

theorem kpa_J35_60 (hA : A = 256 ∨ A = 316) (hP : ∀ a q, P a q → a ≠ 2 ∧ a ≠ 3 ∧ a ≠ 5 ∧ a ≠ 6 ∧ a ≠ 7 ∧ ¬ (A ≤ a ∧ a < A + 60 ∧ a ≠ A + 8)) {f : Nat} {x1 : Int} {m : yM} (hm : KC A P m0 m) : HK mB (KC A P m0) (J35_60 f x1 m) := by
  unfold J35_60
  repeat' (first
    | (with_reducible assumption)
    | (exact HK.no)
    | (with_reducible refine HK.ite (fun _ => ?_) (fun _ => ?_))
    | (with_reducible refine HK.cU ?_ (fun _ _ => ?_))
    | (with_reducible refine HK.cI ?_ (fun _ _ _ => ?_))
    | (with_reducible refine HK.cP (fun _ _ => ?_))
    | (with_reducible refine HK.cL (HK.yl (fun _ _ _ => ?_) _ _ _ ?_) (fun _ _ _ => ?_) (fun _ _ _ => ?_))
    | (with_reducible refine HK.soU ?_)
    | (with_reducible refine HK.soP ?_)
    | (with_reducible refine HK.so1 ?_)
    | (with_reducible refine HK.so2 ?_)
    | (with_reducible refine HK.so3 ?_)
    | (with_reducible refine KC.up ?_ ?_ ?_)
    | (exact kpa_rowP hA hP (by assumption) _)
    | (exact kpa_rowR hA hP (by assumption))
    | (exact fun h => by have := hP _ _ h; omega)
    | (omega)
    | ((obtain ⟨_, _, _, _, _⟩ := hm; omega)))

theorem kpa_B35_2 (hA : A = 256 ∨ A = 316) (hP : ∀ a q, P a q → a ≠ 2 ∧ a ≠ 3 ∧ a ≠ 5 ∧ a ≠ 6 ∧ a ≠ 7 ∧ ¬ (A ≤ a ∧ a < A + 60 ∧ a ≠ A + 8)) {f : Nat} {x1 : Int} {m : yM} (hm : KC A P m0 m) : HK mB (KC A P m0) (B35_2 f x1 m) := by
  unfold B35_2
  repeat' (first
    | (with_reducible assumption)
    | (with_reducible refine kpa_B35_12 hA hP ?_)
    | (with_reducible refine kpa_J35_60 hA hP ?_)
    | (exact HK.no)
    | (with_reducible refine HK.ite (fun _ => ?_) (fun _ => ?_))
    | (with_reducible refine HK.cU ?_ (fun _ _ => ?_))
    | (with_reducible refine HK.cI ?_ (fun _ _ _ => ?_))
    | (with_reducible refine HK.cP (fun _ _ => ?_))
    | (with_reducible refine HK.cL (HK.yl (fun _ _ _ => ?_) _ _ _ ?_) (fun _ _ _ => ?_) (fun _ _ _ => ?_))
    | (with_reducible refine HK.soU ?_)
    | (with_reducible refine HK.soP ?_)
    | (with_reducible refine HK.so1 ?_)
    | (with_reducible refine HK.so2 ?_)
    | (with_reducible refine HK.so3 ?_)
    | (with_reducible refine KC.up ?_ ?_ ?_)
    | (exact kpa_rowP hA hP (by assumption) _)
    | (exact kpa_rowR hA hP (by assumption))
    | (exact fun h => by have := hP _ _ h; omega)
    | (omega)
    | ((obtain ⟨_, _, _, _, _⟩ := hm; omega)))

theorem kpa_F35 (hA : A = 256 ∨ A = 316) (hP : ∀ a q, P a q → a ≠ 2 ∧ a ≠ 3 ∧ a ≠ 5 ∧ a ≠ 6 ∧ a ≠ 7 ∧ ¬ (A ≤ a ∧ a < A + 60 ∧ a ≠ A + 8)) {f : Nat} {m : yM} (hm : KC A P m0 m) : HK id (KC A P m0) (F35 f m) := by
  unfold F35
  repeat' (first
    | (with_reducible assumption)
    | (with_reducible refine kpa_B35_2 hA hP ?_)
    | (exact HK.no)
    | (with_reducible refine HK.ite (fun _ => ?_) (fun _ => ?_))
    | (with_reducible refine HK.cU ?_ (fun _ _ => ?_))
    | (with_reducible refine HK.cI ?_ (fun _ _ _ => ?_))
    | (with_reducible refine HK.cP (fun _ _ => ?_))
    | (with_reducible refine HK.cL (HK.yl (fun _ _ _ => ?_) _ _ _ ?_) (fun _ _ _ => ?_) (fun _ _ _ => ?_))
    | (with_reducible refine HK.soU ?_)
    | (with_reducible refine HK.soP ?_)
    | (with_reducible refine HK.so1 ?_)
    | (with_reducible refine HK.so2 ?_)
    | (with_reducible refine HK.so3 ?_)
    | (with_reducible refine KC.up ?_ ?_ ?_)
    | (exact kpa_rowP hA hP (by assumption) _)
    | (exact kpa_rowR hA hP (by assumption))
    | (exact fun h => by have := hP _ _ h; omega)
    | (omega)
    | ((obtain ⟨_, _, _, _, _⟩ := hm; omega)))

theorem kpa_J36_95 (hA : A = 256 ∨ A = 316) (hP : ∀ a q, P a q → a ≠ 2 ∧ a ≠ 3 ∧ a ≠ 5 ∧ a ≠ 6 ∧ a ≠ 7 ∧ ¬ (A ≤ a ∧ a < A + 60 ∧ a ≠ A + 8)) {f : Nat} {x2 : Int} {x4 : Int} {x5 : Int} {xs0 : Int} {m : yM} (hm : KC A P m0 m) : HK mB (KC A P m0) (J36_95 f x2 x4 x5 xs0 m) := by
  unfold J36_95
  repeat' (first
    | (with_reducible assumption)
    | (exact HK.no)
    | (with_reducible refine HK.ite (fun _ => ?_) (fun _ => ?_))
    | (with_reducible refine HK.cU ?_ (fun _ _ => ?_))
    | (with_reducible refine HK.cI ?_ (fun _ _ _ => ?_))
    | (with_reducible refine HK.cP (fun _ _ => ?_))
    | (with_reducible refine HK.cL (HK.yl (fun _ _ _ => ?_) _ _ _ ?_) (fun _ _ _ => ?_) (fun _ _ _ => ?_))
    | (with_reducible refine HK.soU ?_)
    | (with_reducible refine HK.soP ?_)
    | (with_reducible refine HK.so1 ?_)
    | (with_reducible refine HK.so2 ?_)
    | (with_reducible refine HK.so3 ?_)
    | (with_reducible refine KC.up ?_ ?_ ?_)
    | (exact kpa_rowP hA hP (by assumption) _)
    | (exact kpa_rowR hA hP (by assumption))
    | (exact fun h => by have := hP _ _ h; omega)
    | (omega)
    | ((obtain ⟨_, _, _, _, _⟩ := hm; omega)))

theorem kpa_J36_80 (hA : A = 256 ∨ A = 316) (hP : ∀ a q, P a q → a ≠ 2 ∧ a ≠ 3 ∧ a ≠ 5 ∧ a ≠ 6 ∧ a ≠ 7 ∧ ¬ (A ≤ a ∧ a < A + 60 ∧ a ≠ A + 8)) {f : Nat} {x2 : Int} {x3 : Int} {x4 : Int} {x5 : Int} {x6 : Int} {m : yM} (hm : KC A P m0 m) : HK mB (KC A P m0) (J36_80 f x2 x3 x4 x5 x6 m) := by
  unfold J36_80
  repeat' (first
    | (with_reducible assumption)
    | (with_reducible refine kpa_J36_95 hA hP ?_)
    | (exact HK.no)
    | (with_reducible refine HK.ite (fun _ => ?_) (fun _ => ?_))
    | (with_reducible refine HK.cU ?_ (fun _ _ => ?_))
    | (with_reducible refine HK.cI ?_ (fun _ _ _ => ?_))
    | (with_reducible refine HK.cP (fun _ _ => ?_))
    | (with_reducible refine HK.cL (HK.yl (fun _ _ _ => ?_) _ _ _ ?_) (fun _ _ _ => ?_) (fun _ _ _ => ?_))
    | (with_reducible refine HK.soU ?_)
    | (with_reducible refine HK.soP ?_)
    | (with_reducible refine HK.so1 ?_)
    | (with_reducible refine HK.so2 ?_)
    | (with_reducible refine HK.so3 ?_)
    | (with_reducible refine KC.up ?_ ?_ ?_)
    | (exact kpa_rowP hA hP (by assumption) _)
    | (exact kpa_rowR hA hP (by assumption))
    | (exact fun h => by have := hP _ _ h; omega)
    | (omega)
    | ((obtain ⟨_, _, _, _, _⟩ := hm; omega)))

theorem kpa_J36_75 (hA : A = 256 ∨ A = 316) (hP : ∀ a q, P a q → a ≠ 2 ∧ a ≠ 3 ∧ a ≠ 5 ∧ a ≠ 6 ∧ a ≠ 7 ∧ ¬ (A ≤ a ∧ a < A + 60 ∧ a ≠ A + 8)) {f : Nat} {x2 : Int} {x3 : Int} {x4 : Int} {x5 : Int} {x6 : Int} {xs1 : Int} {m : yM} (hm : KC A P m0 m) : HK mB (KC A P m0) (J36_75 f x2 x3 x4 x5 x6 xs1 m) := by
  unfold J36_75
  repeat' (first
    | (with_reducible assumption)
    | (with_reducible refine kpa_F32 hA hP ?_)
    | (with_reducible refine kpa_J36_80 hA hP ?_)
    | (exact HK.no)
    | (with_reducible refine HK.ite (fun _ => ?_) (fun _ => ?_))
    | (with_reducible refine HK.cU ?_ (fun _ _ => ?_))
    | (with_reducible refine HK.cI ?_ (fun _ _ _ => ?_))
    | (with_reducible refine HK.cP (fun _ _ => ?_))
    | (with_reducible refine HK.cL (HK.yl (fun _ _ _ => ?_) _ _ _ ?_) (fun _ _ _ => ?_) (fun _ _ _ => ?_))
    | (with_reducible refine HK.soU ?_)
    | (with_reducible refine HK.soP ?_)
    | (with_reducible refine HK.so1 ?_)
    | (with_reducible refine HK.so2 ?_)
    | (with_reducible refine HK.so3 ?_)
    | (with_reducible refine KC.up ?_ ?_ ?_)
    | (exact kpa_rowP hA hP (by assumption) _)
    | (exact kpa_rowR hA hP (by assumption))
    | (exact fun h => by have := hP _ _ h; omega)
    | (omega)
    | ((obtain ⟨_, _, _, _, _⟩ := hm; omega)))

theorem kpa_B36_13 (hA : A = 256 ∨ A = 316) (hP : ∀ a q, P a q → a ≠ 2 ∧ a ≠ 3 ∧ a ≠ 5 ∧ a ≠ 6 ∧ a ≠ 7 ∧ ¬ (A ≤ a ∧ a < A + 60 ∧ a ≠ A + 8)) {f : Nat} {x2 : Int} {x3 : Int} {x4 : Int} {x5 : Int} {m : yM} (hm : KC A P m0 m) : HK mB (KC A P m0) (B36_13 f x2 x3 x4 x5 m) := by
  unfold B36_13
  repeat' (first
    | (with_reducible assumption)
    | (with_reducible refine kpa_J36_80 hA hP ?_)
    | (with_reducible refine kpa_J36_75 hA hP ?_)
    | (with_reducible refine kpa_F33 hA hP ?_)
    | (exact HK.no)
    | (with_reducible refine HK.ite (fun _ => ?_) (fun _ => ?_))
    | (with_reducible refine HK.cU ?_ (fun _ _ => ?_))
    | (with_reducible refine HK.cI ?_ (fun _ _ _ => ?_))
    | (with_reducible refine HK.cP (fun _ _ => ?_))
    | (with_reducible refine HK.cL (HK.yl (fun _ _ _ => ?_) _ _ _ ?_) (fun _ _ _ => ?_) (fun _ _ _ => ?_))
    | (with_reducible refine HK.soU ?_)
    | (with_reducible refine HK.soP ?_)
    | (with_reducible refine HK.so1 ?_)
    | (with_reducible refine HK.so2 ?_)
    | (with_reducible refine HK.so3 ?_)
    | (with_reducible refine KC.up ?_ ?_ ?_)
    | (exact kpa_rowP hA hP (by assumption) _)
    | (exact kpa_rowR hA hP (by assumption))
    | (exact fun h => by have := hP _ _ h; omega)
    | (omega)
    | ((obtain ⟨_, _, _, _, _⟩ := hm; omega)))

theorem kpa_F36 (hA : A = 256 ∨ A = 316) (hP : ∀ a q, P a q → a ≠ 2 ∧ a ≠ 3 ∧ a ≠ 5 ∧ a ≠ 6 ∧ a ≠ 7 ∧ ¬ (A ≤ a ∧ a < A + 60 ∧ a ≠ A + 8)) {f : Nat} {x2 : Int} {m : yM} (hm : KC A P m0 m) : HK id (KC A P m0) (F36 f x2 m) := by
  unfold F36
  repeat' (first
    | (with_reducible assumption)
    | (with_reducible refine kpa_B36_13 hA hP ?_)
    | (with_reducible refine kpa_F32 hA hP ?_)
    | (with_reducible refine kpa_F35 hA hP ?_)
    | (exact HK.no)
    | (with_reducible refine HK.ite (fun _ => ?_) (fun _ => ?_))
    | (with_reducible refine HK.cU ?_ (fun _ _ => ?_))
    | (with_reducible refine HK.cI ?_ (fun _ _ _ => ?_))
    | (with_reducible refine HK.cP (fun _ _ => ?_))
    | (with_reducible refine HK.cL (HK.yl (fun _ _ _ => ?_) _ _ _ ?_) (fun _ _ _ => ?_) (fun _ _ _ => ?_))
    | (with_reducible refine HK.soU ?_)
    | (with_reducible refine HK.soP ?_)
    | (with_reducible refine HK.so1 ?_)
    | (with_reducible refine HK.so2 ?_)
    | (with_reducible refine HK.so3 ?_)
    | (with_reducible refine KC.up ?_ ?_ ?_)
    | (exact kpa_rowP hA hP (by assumption) _)
    | (exact kpa_rowR hA hP (by assumption))
    | (exact fun h => by have := hP _ _ h; omega)
    | (omega)
    | ((obtain ⟨_, _, _, _, _⟩ := hm; omega)))

theorem kpa_F37 (hA : A = 256 ∨ A = 316) (hP : ∀ a q, P a q → a ≠ 2 ∧ a ≠ 3 ∧ a ≠ 5 ∧ a ≠ 6 ∧ a ≠ 7 ∧ ¬ (A ≤ a ∧ a < A + 60 ∧ a ≠ A + 8)) {f : Nat} {x1 : Int} {m : yM} (hm : KC A P m0 m) : HK (fun x => x.2) (KC A P m0) (F37 f x1 m) := by
  unfold F37
  repeat' (first
    | (with_reducible assumption)
    | (exact HK.no)
    | (with_reducible refine HK.ite (fun _ => ?_) (fun _ => ?_))
    | (with_reducible refine HK.cU ?_ (fun _ _ => ?_))
    | (with_reducible refine HK.cI ?_ (fun _ _ _ => ?_))
    | (with_reducible refine HK.cP (fun _ _ => ?_))
    | (with_reducible refine HK.cL (HK.yl (fun _ _ _ => ?_) _ _ _ ?_) (fun _ _ _ => ?_) (fun _ _ _ => ?_))
    | (with_reducible refine HK.soU ?_)
    | (with_reducible refine HK.soP ?_)
    | (with_reducible refine HK.so1 ?_)
    | (with_reducible refine HK.so2 ?_)
    | (with_reducible refine HK.so3 ?_)
    | (with_reducible refine KC.up ?_ ?_ ?_)
    | (exact kpa_rowP hA hP (by assumption) _)
    | (exact kpa_rowR hA hP (by assumption))
    | (exact fun h => by have := hP _ _ h; omega)
    | (omega)
    | ((obtain ⟨_, _, _, _, _⟩ := hm; omega)))

theorem kpa_F43 (hA : A = 256 ∨ A = 316) (hP : ∀ a q, P a q → a ≠ 2 ∧ a ≠ 3 ∧ a ≠ 5 ∧ a ≠ 6 ∧ a ≠ 7 ∧ ¬ (A ≤ a ∧ a < A + 60 ∧ a ≠ A + 8)) {f : Nat} {m : yM} (hm : KC A P m0 m) : HK (fun x => x.2) (KC A P m0) (F43 f m) := by
  unfold F43
  repeat' (first
    | (with_reducible assumption)
    | (exact HK.no)
    | (with_reducible refine HK.ite (fun _ => ?_) (fun _ => ?_))
    | (with_reducible refine HK.cU ?_ (fun _ _ => ?_))
    | (with_reducible refine HK.cI ?_ (fun _ _ _ => ?_))
    | (with_reducible refine HK.cP (fun _ _ => ?_))
    | (with_reducible refine HK.cL (HK.yl (fun _ _ _ => ?_) _ _ _ ?_) (fun _ _ _ => ?_) (fun _ _ _ => ?_))
    | (with_reducible refine HK.soU ?_)
    | (with_reducible refine HK.soP ?_)
    | (with_reducible refine HK.so1 ?_)
    | (with_reducible refine HK.so2 ?_)
    | (with_reducible refine HK.so3 ?_)
    | (with_reducible refine KC.up ?_ ?_ ?_)
    | (exact kpa_rowP hA hP (by assumption) _)
    | (exact kpa_rowR hA hP (by assumption))
    | (exact fun h => by have := hP _ _ h; omega)
    | (omega)
    | ((obtain ⟨_, _, _, _, _⟩ := hm; omega)))

theorem kpa_F42 (hA : A = 256 ∨ A = 316) (hP : ∀ a q, P a q → a ≠ 2 ∧ a ≠ 3 ∧ a ≠ 5 ∧ a ≠ 6 ∧ a ≠ 7 ∧ ¬ (A ≤ a ∧ a < A + 60 ∧ a ≠ A + 8)) {f : Nat} {x1 : Int} {m : yM} (hm : KC A P m0 m) : HK (fun x => x.2) (KC A P m0) (F42 f A x1 m) := by
  unfold F42
  repeat' (first
    | (with_reducible assumption)
    | (exact HK.no)
    | (with_reducible refine HK.ite (fun _ => ?_) (fun _ => ?_))
    | (with_reducible refine HK.cU ?_ (fun _ _ => ?_))
    | (with_reducible refine HK.cI ?_ (fun _ _ _ => ?_))
    | (with_reducible refine HK.cP (fun _ _ => ?_))
    | (with_reducible refine HK.cL (HK.yl (fun _ _ _ => ?_) _ _ _ ?_) (fun _ _ _ => ?_) (fun _ _ _ => ?_))
    | (with_reducible refine HK.soU ?_)
    | (with_reducible refine HK.soP ?_)
    | (with_reducible refine HK.so1 ?_)
    | (with_reducible refine HK.so2 ?_)
    | (with_reducible refine HK.so3 ?_)
    | (with_reducible refine KC.up ?_ ?_ ?_)
    | (exact kpa_rowP hA hP (by assumption) _)
    | (exact kpa_rowR hA hP (by assumption))
    | (exact fun h => by have := hP _ _ h; omega)
    | (omega)
    | ((obtain ⟨_, _, _, _, _⟩ := hm; omega)))

theorem kpa_F44 (hA : A = 256 ∨ A = 316) (hP : ∀ a q, P a q → a ≠ 2 ∧ a ≠ 3 ∧ a ≠ 5 ∧ a ≠ 6 ∧ a ≠ 7 ∧ ¬ (A ≤ a ∧ a < A + 60 ∧ a ≠ A + 8)) {f : Nat} {x1 : Int} {m : yM} (hm : KC A P m0 m) : HK (fun x => x.2) (KC A P m0) (F44 f A x1 m) := by
  unfold F44
  repeat' (first
    | (with_reducible assumption)
    | (exact HK.no)
    | (with_reducible refine HK.ite (fun _ => ?_) (fun _ => ?_))
    | (with_reducible refine HK.cU ?_ (fun _ _ => ?_))
    | (with_reducible refine HK.cI ?_ (fun _ _ _ => ?_))
    | (with_reducible refine HK.cP (fun _ _ => ?_))
    | (with_reducible refine HK.cL (HK.yl (fun _ _ _ => ?_) _ _ _ ?_) (fun _ _ _ => ?_) (fun _ _ _ => ?_))
    | (with_reducible refine HK.soU ?_)
    | (with_reducible refine HK.soP ?_)
    | (with_reducible refine HK.so1 ?_)
    | (with_reducible refine HK.so2 ?_)
    | (with_reducible refine HK.so3 ?_)
    | (with_reducible refine KC.up ?_ ?_ ?_)
    | (exact kpa_rowP hA hP (by assumption) _)
    | (exact kpa_rowR hA hP (by assumption))
    | (exact fun h => by have := hP _ _ h; omega)
    | (omega)
    | ((obtain ⟨_, _, _, _, _⟩ := hm; omega)))

theorem kpa_J45_33 (hA : A = 256 ∨ A = 316) (hP : ∀ a q, P a q → a ≠ 2 ∧ a ≠ 3 ∧ a ≠ 5 ∧ a ≠ 6 ∧ a ≠ 7 ∧ ¬ (A ≤ a ∧ a < A + 60 ∧ a ≠ A + 8)) {f : Nat} {m : yM} (hm : KC A P m0 m) : HK (fun x => x.2) (KC A P m0) (J45_33 f A m) := by
  unfold J45_33
  repeat' (first
    | (with_reducible assumption)
    | (with_reducible refine kpa_F43 hA hP ?_)
    | (exact HK.no)
    | (with_reducible refine HK.ite (fun _ => ?_) (fun _ => ?_))
    | (with_reducible refine HK.cU ?_ (fun _ _ => ?_))
    | (with_reducible refine HK.cI ?_ (fun _ _ _ => ?_))
    | (with_reducible refine HK.cP (fun _ _ => ?_))
    | (with_reducible refine HK.cL (HK.yl (fun _ _ _ => ?_) _ _ _ ?_) (fun _ _ _ => ?_) (fun _ _ _ => ?_))
    | (with_reducible refine HK.soU ?_)
    | (with_reducible refine HK.soP ?_)
    | (with_reducible refine HK.so1 ?_)
    | (with_reducible refine HK.so2 ?_)
    | (with_reducible refine HK.so3 ?_)
    | (with_reducible refine KC.up ?_ ?_ ?_)
    | (exact kpa_rowP hA hP (by assumption) _)
    | (exact kpa_rowR hA hP (by assumption))
    | (exact fun h => by have := hP _ _ h; omega)
    | (omega)
    | ((obtain ⟨_, _, _, _, _⟩ := hm; omega)))

theorem kpa_J45_105 (hA : A = 256 ∨ A = 316) (hP : ∀ a q, P a q → a ≠ 2 ∧ a ≠ 3 ∧ a ≠ 5 ∧ a ≠ 6 ∧ a ≠ 7 ∧ ¬ (A ≤ a ∧ a < A + 60 ∧ a ≠ A + 8)) {f : Nat} {m : yM} (hm : KC A P m0 m) : HK (fun x => x.2) (KC A P m0) (J45_105 f A m) := by
  unfold J45_105
  repeat' (first
    | (with_reducible assumption)
    | (with_reducible refine kpa_F37 hA hP ?_)
    | (exact HK.no)
    | (with_reducible refine HK.ite (fun _ => ?_) (fun _ => ?_))
    | (with_reducible refine HK.cU ?_ (fun _ _ => ?_))
    | (with_reducible refine HK.cI ?_ (fun _ _ _ => ?_))
    | (with_reducible refine HK.cP (fun _ _ => ?_))
    | (with_reducible refine HK.cL (HK.yl (fun _ _ _ => ?_) _ _ _ ?_) (fun _ _ _ => ?_) (fun _ _ _ => ?_))
    | (with_reducible refine HK.soU ?_)
    | (with_reducible refine HK.soP ?_)
    | (with_reducible refine HK.so1 ?_)
    | (with_reducible refine HK.so2 ?_)
    | (with_reducible refine HK.so3 ?_)
    | (with_reducible refine KC.up ?_ ?_ ?_)
    | (exact kpa_rowP hA hP (by assumption) _)
    | (exact kpa_rowR hA hP (by assumption))
    | (exact fun h => by have := hP _ _ h; omega)
    | (omega)
    | ((obtain ⟨_, _, _, _, _⟩ := hm; omega)))

theorem kpa_J45_90 (hA : A = 256 ∨ A = 316) (hP : ∀ a q, P a q → a ≠ 2 ∧ a ≠ 3 ∧ a ≠ 5 ∧ a ≠ 6 ∧ a ≠ 7 ∧ ¬ (A ≤ a ∧ a < A + 60 ∧ a ≠ A + 8)) {f : Nat} {m : yM} (hm : KC A P m0 m) : HK (fun x => x.2) (KC A P m0) (J45_90 f A m) := by
  unfold J45_90
  repeat' (first
    | (with_reducible assumption)
    | (with_reducible refine kpa_F43 hA hP ?_)
    | (exact HK.no)
    | (with_reducible refine HK.ite (fun _ => ?_) (fun _ => ?_))
    | (with_reducible refine HK.cU ?_ (fun _ _ => ?_))
    | (with_reducible refine HK.cI ?_ (fun _ _ _ => ?_))
    | (with_reducible refine HK.cP (fun _ _ => ?_))
    | (with_reducible refine HK.cL (HK.yl (fun _ _ _ => ?_) _ _ _ ?_) (fun _ _ _ => ?_) (fun _ _ _ => ?_))
    | (with_reducible refine HK.soU ?_)
    | (with_reducible refine HK.soP ?_)
    | (with_reducible refine HK.so1 ?_)
    | (with_reducible refine HK.so2 ?_)
    | (with_reducible refine HK.so3 ?_)
    | (with_reducible refine KC.up ?_ ?_ ?_)
    | (exact kpa_rowP hA hP (by assumption) _)
    | (exact kpa_rowR hA hP (by assumption))
    | (exact fun h => by have := hP _ _ h; omega)
    | (omega)
    | ((obtain ⟨_, _, _, _, _⟩ := hm; omega)))

theorem kpa_F45 (hA : A = 256 ∨ A = 316) (hP : ∀ a q, P a q → a ≠ 2 ∧ a ≠ 3 ∧ a ≠ 5 ∧ a ≠ 6 ∧ a ≠ 7 ∧ ¬ (A ≤ a ∧ a < A + 60 ∧ a ≠ A + 8)) {f : Nat} {m : yM} (hm : KC A P m0 m) : HK (fun x => x.2) (KC A P m0) (F45 f A m) := by
  unfold F45
  repeat' (first
    | (with_reducible assumption)
    | (with_reducible refine kpa_F37 hA hP ?_)
    | (with_reducible refine kpa_F42 hA hP ?_)
    | (with_reducible refine kpa_J45_33 hA hP ?_)
    | (with_reducible refine kpa_F44 hA hP ?_)
    | (with_reducible refine kpa_J45_90 hA hP ?_)
    | (with_reducible refine kpa_J45_105 hA hP ?_)
    | (exact HK.no)
    | (with_reducible refine HK.ite (fun _ => ?_) (fun _ => ?_))
    | (with_reducible refine HK.cU ?_ (fun _ _ => ?_))
    | (with_reducible refine HK.cI ?_ (fun _ _ _ => ?_))
    | (with_reducible refine HK.cP (fun _ _ => ?_))
    | (with_reducible refine HK.cL (HK.yl (fun _ _ _ => ?_) _ _ _ ?_) (fun _ _ _ => ?_) (fun _ _ _ => ?_))
    | (with_reducible refine HK.soU ?_)
    | (with_reducible refine HK.soP ?_)
    | (with_reducible refine HK.so1 ?_)
    | (with_reducible refine HK.so2 ?_)
    | (with_reducible refine HK.so3 ?_)
    | (with_reducible refine KC.up ?_ ?_ ?_)
    | (exact kpa_rowP hA hP (by assumption) _)
    | (exact kpa_rowR hA hP (by assumption))
    | (exact fun h => by have := hP _ _ h; omega)
    | (omega)
    | ((obtain ⟨_, _, _, _, _⟩ := hm; omega)))

theorem kpa_J48_54 (hA : A = 256 ∨ A = 316) (hP : ∀ a q, P a q → a ≠ 2 ∧ a ≠ 3 ∧ a ≠ 5 ∧ a ≠ 6 ∧ a ≠ 7 ∧ ¬ (A ≤ a ∧ a < A + 60 ∧ a ≠ A + 8)) {f : Nat} {x2 : Int} {x3 : Int} {m : yM} (hm : KC A P m0 m) : HK (fun x => x.2) (KC A P m0) (J48_54 f A x2 x3 m) := by
  unfold J48_54
  repeat' (first
    | (with_reducible assumption)
    | (exact HK.no)
    | (with_reducible refine HK.ite (fun _ => ?_) (fun _ => ?_))
    | (with_reducible refine HK.cU ?_ (fun _ _ => ?_))
    | (with_reducible refine HK.cI ?_ (fun _ _ _ => ?_))
    | (with_reducible refine HK.cP (fun _ _ => ?_))
    | (with_reducible refine HK.cL (HK.yl (fun _ _ _ => ?_) _ _ _ ?_) (fun _ _ _ => ?_) (fun _ _ _ => ?_))
    | (with_reducible refine HK.soU ?_)
    | (with_reducible refine HK.soP ?_)
    | (with_reducible refine HK.so1 ?_)
    | (with_reducible refine HK.so2 ?_)
    | (with_reducible refine HK.so3 ?_)
    | (with_reducible refine KC.up ?_ ?_ ?_)
    | (exact kpa_rowP hA hP (by assumption) _)
    | (exact kpa_rowR hA hP (by assumption))
    | (exact fun h => by have := hP _ _ h; omega)
    | (omega)
    | ((obtain ⟨_, _, _, _, _⟩ := hm; omega)))

theorem kpa_F48 (hA : A = 256 ∨ A = 316) (hP : ∀ a q, P a q → a ≠ 2 ∧ a ≠ 3 ∧ a ≠ 5 ∧ a ≠ 6 ∧ a ≠ 7 ∧ ¬ (A ≤ a ∧ a < A + 60 ∧ a ≠ A + 8)) {f : Nat} {x1 : Int} {m : yM} (hm : KC A P m0 m) : HK (fun x => x.2) (KC A P m0) (F48 f A x1 m) := by
  unfold F48
  repeat' (first
    | (with_reducible assumption)
    | (with_reducible refine kpa_J48_54 hA hP ?_)
    | (exact HK.no)
    | (with_reducible refine HK.ite (fun _ => ?_) (fun _ => ?_))
    | (with_reducible refine HK.cU ?_ (fun _ _ => ?_))
    | (with_reducible refine HK.cI ?_ (fun _ _ _ => ?_))
    | (with_reducible refine HK.cP (fun _ _ => ?_))
    | (with_reducible refine HK.cL (HK.yl (fun _ _ _ => ?_) _ _ _ ?_) (fun _ _ _ => ?_) (fun _ _ _ => ?_))
    | (with_reducible refine HK.soU ?_)
    | (with_reducible refine HK.soP ?_)
    | (with_reducible refine HK.so1 ?_)
    | (with_reducible refine HK.so2 ?_)
    | (with_reducible refine HK.so3 ?_)
    | (with_reducible refine KC.up ?_ ?_ ?_)
    | (exact kpa_rowP hA hP (by assumption) _)
    | (exact kpa_rowR hA hP (by assumption))
    | (exact fun h => by have := hP _ _ h; omega)
    | (omega)
    | ((obtain ⟨_, _, _, _, _⟩ := hm; omega)))

theorem kpa_J49_33 (hA : A = 256 ∨ A = 316) (hP : ∀ a q, P a q → a ≠ 2 ∧ a ≠ 3 ∧ a ≠ 5 ∧ a ≠ 6 ∧ a ≠ 7 ∧ ¬ (A ≤ a ∧ a < A + 60 ∧ a ≠ A + 8)) {f : Nat} {m : yM} (hm : KC A P m0 m) : HK (fun x => x.2) (KC A P m0) (J49_33 f A m) := by
  unfold J49_33
  repeat' (first
    | (with_reducible assumption)
    | (with_reducible refine kpa_F43 hA hP ?_)
    | (exact HK.no)
    | (with_reducible refine HK.ite (fun _ => ?_) (fun _ => ?_))
    | (with_reducible refine HK.cU ?_ (fun _ _ => ?_))
    | (with_reducible refine HK.cI ?_ (fun _ _ _ => ?_))
    | (with_reducible refine HK.cP (fun _ _ => ?_))
    | (with_reducible refine HK.cL (HK.yl (fun _ _ _ => ?_) _ _ _ ?_) (fun _ _ _ => ?_) (fun _ _ _ => ?_))
    | (with_reducible refine HK.soU ?_)
    | (with_reducible refine HK.soP ?_)
    | (with_reducible refine HK.so1 ?_)
    | (with_reducible refine HK.so2 ?_)
    | (with_reducible refine HK.so3 ?_)
    | (with_reducible refine KC.up ?_ ?_ ?_)
    | (exact kpa_rowP hA hP (by assumption) _)
    | (exact kpa_rowR hA hP (by assumption))
    | (exact fun h => by have := hP _ _ h; omega)
    | (omega)
    | ((obtain ⟨_, _, _, _, _⟩ := hm; omega)))

theorem kpa_F49 (hA : A = 256 ∨ A = 316) (hP : ∀ a q, P a q → a ≠ 2 ∧ a ≠ 3 ∧ a ≠ 5 ∧ a ≠ 6 ∧ a ≠ 7 ∧ ¬ (A ≤ a ∧ a < A + 60 ∧ a ≠ A + 8)) {f : Nat} {m : yM} (hm : KC A P m0 m) : HK (fun x => x.2) (KC A P m0) (F49 f A m) := by
  unfold F49
  repeat' (first
    | (with_reducible assumption)
    | (with_reducible refine kpa_F48 hA hP ?_)
    | (with_reducible refine kpa_J49_33 hA hP ?_)
    | (with_reducible refine kpa_F37 hA hP ?_)
    | (exact HK.no)
    | (with_reducible refine HK.ite (fun _ => ?_) (fun _ => ?_))
    | (with_reducible refine HK.cU ?_ (fun _ _ => ?_))
    | (with_reducible refine HK.cI ?_ (fun _ _ _ => ?_))
    | (with_reducible refine HK.cP (fun _ _ => ?_))
    | (with_reducible refine HK.cL (HK.yl (fun _ _ _ => ?_) _ _ _ ?_) (fun _ _ _ => ?_) (fun _ _ _ => ?_))
    | (with_reducible refine HK.soU ?_)
    | (with_reducible refine HK.soP ?_)
    | (with_reducible refine HK.so1 ?_)
    | (with_reducible refine HK.so2 ?_)
    | (with_reducible refine HK.so3 ?_)
    | (with_reducible refine KC.up ?_ ?_ ?_)
    | (exact kpa_rowP hA hP (by assumption) _)
    | (exact kpa_rowR hA hP (by assumption))
    | (exact fun h => by have := hP _ _ h; omega)
    | (omega)
    | ((obtain ⟨_, _, _, _, _⟩ := hm; omega)))

theorem kpa_F51 (hA : A = 256 ∨ A = 316) (hP : ∀ a q, P a q → a ≠ 2 ∧ a ≠ 3 ∧ a ≠ 5 ∧ a ≠ 6 ∧ a ≠ 7 ∧ ¬ (A ≤ a ∧ a < A + 60 ∧ a ≠ A + 8)) {f : Nat} {x1 : Int} {m : yM} (hm : KC A P m0 m) : HK (fun x => x.2) (KC A P m0) (F51 f A x1 m) := by
  intro b h
  unfold F51 at h
  have hk := hm
  obtain ⟨k0, k1, k2, k3, k4⟩ := hk
  rcases ite1 h with ⟨q, h⟩ | ⟨q, h⟩
  · cases h; exact hm
  rcases ite1 h with ⟨q2, h⟩ | ⟨q2, h⟩
  · cases h; exact hm
  obtain ⟨r, -, h⟩ := bP_e h
  rcases ite1 h with ⟨-, h⟩ | ⟨-, h⟩
  · rw [wr_i (x := m A 10 + 1) (by omega) (by omega)] at h
    cases h
    show KC A P m0 _
    have c : ∀ q', ¬ P (A + 10 + (m A 10).toNat) q' := fun q' h => by have := hP _ _ h; omega
    have d : ∀ q', ¬ P (A + 5) q' := fun q' h => by have := hP _ _ h; omega
    have e : ∀ q', ¬ P A q' := fun q' h => by have := hP _ _ h; omega
    exact ((((kpa_u10 hA hP ((((hm.up (c _) (by omega)).up (c _) (by omega)).up (c _) (by omega)).up (c _) (by omega)) (by omega)).up (d _) (by omega)).up (d _) (by omega)).up (e _) (by omega))
  · cases h; exact hm

theorem kpa_B52_15 (hA : A = 256 ∨ A = 316) (hP : ∀ a q, P a q → a ≠ 2 ∧ a ≠ 3 ∧ a ≠ 5 ∧ a ≠ 6 ∧ a ≠ 7 ∧ ¬ (A ≤ a ∧ a < A + 60 ∧ a ≠ A + 8)) {f : Nat} {x1 : Int} {x2 : Int} {m : yM} (hm : KC A P m0 m) : HK mB (KC A P m0) (B52_15 f A x1 x2 m) := by
  unfold B52_15
  repeat' (first
    | (with_reducible assumption)
    | (exact HK.no)
    | (with_reducible refine HK.ite (fun _ => ?_) (fun _ => ?_))
    | (with_reducible refine HK.cU ?_ (fun _ _ => ?_))
    | (with_reducible refine HK.cI ?_ (fun _ _ _ => ?_))
    | (with_reducible refine HK.cP (fun _ _ => ?_))
    | (with_reducible refine HK.cL (HK.yl (fun _ _ _ => ?_) _ _ _ ?_) (fun _ _ _ => ?_) (fun _ _ _ => ?_))
    | (with_reducible refine HK.soU ?_)
    | (with_reducible refine HK.soP ?_)
    | (with_reducible refine HK.so1 ?_)
    | (with_reducible refine HK.so2 ?_)
    | (with_reducible refine HK.so3 ?_)
    | (with_reducible refine KC.up ?_ ?_ ?_)
    | (exact kpa_rowP hA hP (by assumption) _)
    | (exact kpa_rowR hA hP (by assumption))
    | (exact fun h => by have := hP _ _ h; omega)
    | (omega)
    | ((obtain ⟨_, _, _, _, _⟩ := hm; omega)))

theorem kpa_F52 (hA : A = 256 ∨ A = 316) (hP : ∀ a q, P a q → a ≠ 2 ∧ a ≠ 3 ∧ a ≠ 5 ∧ a ≠ 6 ∧ a ≠ 7 ∧ ¬ (A ≤ a ∧ a < A + 60 ∧ a ≠ A + 8)) {f : Nat} {x1 : Int} {m : yM} (hm : KC A P m0 m) : HK (fun x => x.2) (KC A P m0) (F52 f A x1 m) := by
  unfold F52
  repeat' (first
    | (with_reducible assumption)
    | (with_reducible refine kpa_B52_15 hA hP ?_)
    | (exact HK.no)
    | (with_reducible refine HK.ite (fun _ => ?_) (fun _ => ?_))
    | (with_reducible refine HK.cU ?_ (fun _ _ => ?_))
    | (with_reducible refine HK.cI ?_ (fun _ _ _ => ?_))
    | (with_reducible refine HK.cP (fun _ _ => ?_))
    | (with_reducible refine HK.cL (HK.yl (fun _ _ _ => ?_) _ _ _ ?_) (fun _ _ _ => ?_) (fun _ _ _ => ?_))
    | (with_reducible refine HK.soU ?_)
    | (with_reducible refine HK.soP ?_)
    | (with_reducible refine HK.so1 ?_)
    | (with_reducible refine HK.so2 ?_)
    | (with_reducible refine HK.so3 ?_)
    | (with_reducible refine KC.up ?_ ?_ ?_)
    | (exact kpa_rowP hA hP (by assumption) _)
    | (exact kpa_rowR hA hP (by assumption))
    | (exact fun h => by have := hP _ _ h; omega)
    | (omega)
    | ((obtain ⟨_, _, _, _, _⟩ := hm; omega)))

theorem kpa_F53 (hA : A = 256 ∨ A = 316) (hP : ∀ a q, P a q → a ≠ 2 ∧ a ≠ 3 ∧ a ≠ 5 ∧ a ≠ 6 ∧ a ≠ 7 ∧ ¬ (A ≤ a ∧ a < A + 60 ∧ a ≠ A + 8)) {f : Nat} {x1 : Int} {m : yM} (hm : KC A P m0 m) : HK (fun x => x.2) (KC A P m0) (F53 f A x1 m) := by
  unfold F53
  repeat' (first
    | (with_reducible assumption)
    | (with_reducible refine kpa_F52 hA hP ?_)
    | (exact HK.no)
    | (with_reducible refine HK.ite (fun _ => ?_) (fun _ => ?_))
    | (with_reducible refine HK.cU ?_ (fun _ _ => ?_))
    | (with_reducible refine HK.cI ?_ (fun _ _ _ => ?_))
    | (with_reducible refine HK.cP (fun _ _ => ?_))
    | (with_reducible refine HK.cL (HK.yl (fun _ _ _ => ?_) _ _ _ ?_) (fun _ _ _ => ?_) (fun _ _ _ => ?_))
    | (with_reducible refine HK.soU ?_)
    | (with_reducible refine HK.soP ?_)
    | (with_reducible refine HK.so1 ?_)
    | (with_reducible refine HK.so2 ?_)
    | (with_reducible refine HK.so3 ?_)
    | (with_reducible refine KC.up ?_ ?_ ?_)
    | (exact kpa_rowP hA hP (by assumption) _)
    | (exact kpa_rowR hA hP (by assumption))
    | (exact fun h => by have := hP _ _ h; omega)
    | (omega)
    | ((obtain ⟨_, _, _, _, _⟩ := hm; omega)))

theorem kpa_J54_23 (hA : A = 256 ∨ A = 316) (hP : ∀ a q, P a q → a ≠ 2 ∧ a ≠ 3 ∧ a ≠ 5 ∧ a ≠ 6 ∧ a ≠ 7 ∧ ¬ (A ≤ a ∧ a < A + 60 ∧ a ≠ A + 8)) {f : Nat} {m : yM} (hm : KC A P m0 m) : HK (fun x => x.2) (KC A P m0) (J54_23 f A m) := by
  unfold J54_23
  repeat' (first
    | (with_reducible assumption)
    | (with_reducible refine kpa_F43 hA hP ?_)
    | (exact HK.no)
    | (with_reducible refine HK.ite (fun _ => ?_) (fun _ => ?_))
    | (with_reducible refine HK.cU ?_ (fun _ _ => ?_))
    | (with_reducible refine HK.cI ?_ (fun _ _ _ => ?_))
    | (with_reducible refine HK.cP (fun _ _ => ?_))
    | (with_reducible refine HK.cL (HK.yl (fun _ _ _ => ?_) _ _ _ ?_) (fun _ _ _ => ?_) (fun _ _ _ => ?_))
    | (with_reducible refine HK.soU ?_)
    | (with_reducible refine HK.soP ?_)
    | (with_reducible refine HK.so1 ?_)
    | (with_reducible refine HK.so2 ?_)
    | (with_reducible refine HK.so3 ?_)
    | (with_reducible refine KC.up ?_ ?_ ?_)
    | (exact kpa_rowP hA hP (by assumption) _)
    | (exact kpa_rowR hA hP (by assumption))
    | (exact fun h => by have := hP _ _ h; omega)
    | (omega)
    | ((obtain ⟨_, _, _, _, _⟩ := hm; omega)))

theorem kpa_F54 (hA : A = 256 ∨ A = 316) (hP : ∀ a q, P a q → a ≠ 2 ∧ a ≠ 3 ∧ a ≠ 5 ∧ a ≠ 6 ∧ a ≠ 7 ∧ ¬ (A ≤ a ∧ a < A + 60 ∧ a ≠ A + 8)) {f : Nat} {m : yM} (hm : KC A P m0 m) : HK (fun x => x.2) (KC A P m0) (F54 f A m) := by
  unfold F54
  repeat' (first
    | (with_reducible assumption)
    | (with_reducible refine kpa_F53 hA hP ?_)
    | (with_reducible refine kpa_J54_23 hA hP ?_)
    | (exact HK.no)
    | (with_reducible refine HK.ite (fun _ => ?_) (fun _ => ?_))
    | (with_reducible refine HK.cU ?_ (fun _ _ => ?_))
    | (with_reducible refine HK.cI ?_ (fun _ _ _ => ?_))
    | (with_reducible refine HK.cP (fun _ _ => ?_))
    | (with_reducible refine HK.cL (HK.yl (fun _ _ _ => ?_) _ _ _ ?_) (fun _ _ _ => ?_) (fun _ _ _ => ?_))
    | (with_reducible refine HK.soU ?_)
    | (with_reducible refine HK.soP ?_)
    | (with_reducible refine HK.so1 ?_)
    | (with_reducible refine HK.so2 ?_)
    | (with_reducible refine HK.so3 ?_)
    | (with_reducible refine KC.up ?_ ?_ ?_)
    | (exact kpa_rowP hA hP (by assumption) _)
    | (exact kpa_rowR hA hP (by assumption))
    | (exact fun h => by have := hP _ _ h; omega)
    | (omega)
    | ((obtain ⟨_, _, _, _, _⟩ := hm; omega)))

theorem kpa_F55 (hA : A = 256 ∨ A = 316) (hP : ∀ a q, P a q → a ≠ 2 ∧ a ≠ 3 ∧ a ≠ 5 ∧ a ≠ 6 ∧ a ≠ 7 ∧ ¬ (A ≤ a ∧ a < A + 60 ∧ a ≠ A + 8)) {f : Nat} {m : yM} (hm : KC A P m0 m) : HK (fun x => x.2) (KC A P m0) (F55 f A m) := by
  unfold F55
  repeat' (first
    | (with_reducible assumption)
    | (with_reducible refine kpa_F54 hA hP ?_)
    | (exact HK.no)
    | (with_reducible refine HK.ite (fun _ => ?_) (fun _ => ?_))
    | (with_reducible refine HK.cU ?_ (fun _ _ => ?_))
    | (with_reducible refine HK.cI ?_ (fun _ _ _ => ?_))
    | (with_reducible refine HK.cP (fun _ _ => ?_))
    | (with_reducible refine HK.cL (HK.yl (fun _ _ _ => ?_) _ _ _ ?_) (fun _ _ _ => ?_) (fun _ _ _ => ?_))
    | (with_reducible refine HK.soU ?_)
    | (with_reducible refine HK.soP ?_)
    | (with_reducible refine HK.so1 ?_)
    | (with_reducible refine HK.so2 ?_)
    | (with_reducible refine HK.so3 ?_)
    | (with_reducible refine KC.up ?_ ?_ ?_)
    | (exact kpa_rowP hA hP (by assumption) _)
    | (exact kpa_rowR hA hP (by assumption))
    | (exact fun h => by have := hP _ _ h; omega)
    | (omega)
    | ((obtain ⟨_, _, _, _, _⟩ := hm; omega)))

theorem kpa_F56 (hA : A = 256 ∨ A = 316) (hP : ∀ a q, P a q → a ≠ 2 ∧ a ≠ 3 ∧ a ≠ 5 ∧ a ≠ 6 ∧ a ≠ 7 ∧ ¬ (A ≤ a ∧ a < A + 60 ∧ a ≠ A + 8)) {f r : Nat} {m m' : yM} (hm : KC A P m0 m) (h16 : ¬ (m A 16 = 40)) (h : F56 f A m = some (r, m')) : KC A P m0 m' ∧ A + 10 ≤ r ∧ r < A + 60 := by
  have hk := hm
  obtain ⟨k0, k1, k2, k3, k4⟩ := hk
  unfold F56 at h
  rw [wr_i (x := m A 16 + 1) (by omega) (by omega)] at h
  cases h
  have c : ∀ q', ¬ P (A + 20 + (m A 16).toNat) q' := fun q' h => by have := hP _ _ h; omega
  exact ⟨kpa_u16 hA hP (((hm.up (c _) (by omega)).up (c _) (by omega)).up (c _) (by omega)) (by omega), by omega, by omega⟩

theorem kpa_J58_56 (hA : A = 256 ∨ A = 316) (hP : ∀ a q, P a q → a ≠ 2 ∧ a ≠ 3 ∧ a ≠ 5 ∧ a ≠ 6 ∧ a ≠ 7 ∧ ¬ (A ≤ a ∧ a < A + 60 ∧ a ≠ A + 8)) {f : Nat} {x1 : Int} {m : yM} (hm : KC A P m0 m) : HK (fun x => x.2) (KC A P m0) (J58_56 f A x1 m) := by
  unfold J58_56
  repeat' (first
    | (with_reducible assumption)
    | (with_reducible refine kpa_F43 hA hP ?_)
    | (exact HK.no)
    | (with_reducible refine HK.ite (fun _ => ?_) (fun _ => ?_))
    | (with_reducible refine HK.cU ?_ (fun _ _ => ?_))
    | (with_reducible refine HK.cI ?_ (fun _ _ _ => ?_))
    | (with_reducible refine HK.cP (fun _ _ => ?_))
    | (with_reducible refine HK.cL (HK.yl (fun _ _ _ => ?_) _ _ _ ?_) (fun _ _ _ => ?_) (fun _ _ _ => ?_))
    | (with_reducible refine HK.soU ?_)
    | (with_reducible refine HK.soP ?_)
    | (with_reducible refine HK.so1 ?_)
    | (with_reducible refine HK.so2 ?_)
    | (with_reducible refine HK.so3 ?_)
    | (with_reducible refine KC.up ?_ ?_ ?_)
    | (exact kpa_rowP hA hP (by assumption) _)
    | (exact kpa_rowR hA hP (by assumption))
    | (exact fun h => by have := hP _ _ h; omega)
    | (omega)
    | ((obtain ⟨_, _, _, _, _⟩ := hm; omega)))

theorem kpa_F58 (hA : A = 256 ∨ A = 316) (hP : ∀ a q, P a q → a ≠ 2 ∧ a ≠ 3 ∧ a ≠ 5 ∧ a ≠ 6 ∧ a ≠ 7 ∧ ¬ (A ≤ a ∧ a < A + 60 ∧ a ≠ A + 8)) {f : Nat} {m : yM} (hm : KC A P m0 m) : HK (fun x => x.2) (KC A P m0) (F58 f A m) := by
  unfold F58
  repeat' (first
    | (with_reducible assumption)
    | (with_reducible refine kpa_J58_56 hA hP ?_)
    | (with_reducible refine kpa_F52 hA hP ?_)
    | (exact HK.no)
    | (with_reducible refine HK.ite (fun _ => ?_) (fun _ => ?_))
    | (with_reducible refine HK.cU ?_ (fun _ _ => ?_))
    | (with_reducible refine HK.cI ?_ (fun _ _ _ => ?_))
    | (with_reducible refine HK.cP (fun _ _ => ?_))
    | (with_reducible refine HK.cL (HK.yl (fun _ _ _ => ?_) _ _ _ ?_) (fun _ _ _ => ?_) (fun _ _ _ => ?_))
    | (with_reducible refine HK.soU ?_)
    | (with_reducible refine HK.soP ?_)
    | (with_reducible refine HK.so1 ?_)
    | (with_reducible refine HK.so2 ?_)
    | (with_reducible refine HK.so3 ?_)
    | (with_reducible refine KC.up ?_ ?_ ?_)
    | (exact kpa_rowP hA hP (by assumption) _)
    | (exact kpa_rowR hA hP (by assumption))
    | (exact fun h => by have := hP _ _ h; omega)
    | (omega)
    | ((obtain ⟨_, _, _, _, _⟩ := hm; omega)))

theorem kpa_J59_15 (hA : A = 256 ∨ A = 316) (hP : ∀ a q, P a q → a ≠ 2 ∧ a ≠ 3 ∧ a ≠ 5 ∧ a ≠ 6 ∧ a ≠ 7 ∧ ¬ (A ≤ a ∧ a < A + 60 ∧ a ≠ A + 8)) {f : Nat} {rc : Int → yM → Option (Int × yM)} {a1 : Nat} {x2 : Int} {as0 : Nat} {xs1 : Int} (ha1 : A + 10 ≤ a1 ∧ a1 < A + 60) (has0 : A + 10 ≤ as0 ∧ as0 < A + 60) (hrc : ∀ y0 m, KC A P m0 m → HK (fun x => x.2) (KC A P m0) (rc y0 m)) {m : yM} (hm : KC A P m0 m) : HK (fun x => x.2) (KC A P m0) (J59_15 f rc A a1 x2 as0 xs1 m) := by
  unfold J59_15
  repeat' (first
    | (with_reducible assumption)
    | (with_reducible refine kpa_F58 hA hP ?_)
    | (with_reducible refine hrc _ _ ?_)
    | (exact HK.no)
    | (with_reducible refine HK.ite (fun _ => ?_) (fun _ => ?_))
    | (with_reducible refine HK.cU ?_ (fun _ _ => ?_))
    | (with_reducible refine HK.cI ?_ (fun _ _ _ => ?_))
    | (with_reducible refine HK.cP (fun _ _ => ?_))
    | (with_reducible refine HK.cL (HK.yl (fun _ _ _ => ?_) _ _ _ ?_) (fun _ _ _ => ?_) (fun _ _ _ => ?_))
    | (with_reducible refine HK.soU ?_)
    | (with_reducible refine HK.soP ?_)
    | (with_reducible refine HK.so1 ?_)
    | (with_reducible refine HK.so2 ?_)
    | (with_reducible refine HK.so3 ?_)
    | (with_reducible refine KC.up ?_ ?_ ?_)
    | (exact kpa_rowP hA hP (by assumption) _)
    | (exact kpa_rowR hA hP (by assumption))
    | (exact fun h => by have := hP _ _ h; omega)
    | (omega)
    | ((obtain ⟨_, _, _, _, _⟩ := hm; omega)))

theorem kpa_F59 (hA : A = 256 ∨ A = 316) (hP : ∀ a q, P a q → a ≠ 2 ∧ a ≠ 3 ∧ a ≠ 5 ∧ a ≠ 6 ∧ a ≠ 7 ∧ ¬ (A ≤ a ∧ a < A + 60 ∧ a ≠ A + 8)) {f : Nat} {rc : Int → yM → Option (Int × yM)} {a1 : Nat} {x2 : Int} (ha1 : A + 10 ≤ a1 ∧ a1 < A + 60) (hrc : ∀ y0 m, KC A P m0 m → HK (fun x => x.2) (KC A P m0) (rc y0 m)) {m : yM} (hm : KC A P m0 m) : HK (fun x => x.2) (KC A P m0) (F59 f rc A a1 x2 m) := by
  unfold F59
  repeat' (first
    | (with_reducible assumption)
    | (with_reducible refine kpa_J59_15 hA hP ?_ ?_ hrc ?_)
    | (with_reducible refine hrc _ _ ?_)
    | (exact HK.no)
    | (with_reducible refine HK.ite (fun _ => ?_) (fun _ => ?_))
    | (with_reducible refine HK.cU ?_ (fun _ _ => ?_))
    | (with_reducible refine HK.cI ?_ (fun _ _ _ => ?_))
    | (with_reducible refine HK.cP (fun _ _ => ?_))
    | (with_reducible refine HK.cL (HK.yl (fun _ _ _ => ?_) _ _ _ ?_) (fun _ _ _ => ?_) (fun _ _ _ => ?_))
    | (with_reducible refine HK.soU ?_)
    | (with_reducible refine HK.soP ?_)
    | (with_reducible refine HK.so1 ?_)
    | (with_reducible refine HK.so2 ?_)
    | (with_reducible refine HK.so3 ?_)
    | (with_reducible refine KC.up ?_ ?_ ?_)
    | (exact kpa_rowP hA hP (by assumption) _)
    | (exact kpa_rowR hA hP (by assumption))
    | (exact fun h => by have := hP _ _ h; omega)
    | (omega)
    | ((obtain ⟨_, _, _, _, _⟩ := hm; omega)))

theorem kpa_F62 (hA : A = 256 ∨ A = 316) (hP : ∀ a q, P a q → a ≠ 2 ∧ a ≠ 3 ∧ a ≠ 5 ∧ a ≠ 6 ∧ a ≠ 7 ∧ ¬ (A ≤ a ∧ a < A + 60 ∧ a ≠ A + 8)) {f : Nat} {x1 : Int} {a2 : Nat} (ha2 : A + 10 ≤ a2 ∧ a2 < A + 60) {m : yM} (hm : KC A P m0 m) : HK (fun x => x.2) (KC A P m0) (F62 f x1 a2 m) := by
  unfold F62
  repeat' (first
    | (with_reducible assumption)
    | (with_reducible refine kpa_F37 hA hP ?_)
    | (exact HK.no)
    | (with_reducible refine HK.ite (fun _ => ?_) (fun _ => ?_))
    | (with_reducible refine HK.cU ?_ (fun _ _ => ?_))
    | (with_reducible refine HK.cI ?_ (fun _ _ _ => ?_))
    | (with_reducible refine HK.cP (fun _ _ => ?_))
    | (with_reducible refine HK.cL (HK.yl (fun _ _ _ => ?_) _ _ _ ?_) (fun _ _ _ => ?_) (fun _ _ _ => ?_))
    | (with_reducible refine HK.soU ?_)
    | (with_reducible refine HK.soP ?_)
    | (with_reducible refine HK.so1 ?_)
    | (with_reducible refine HK.so2 ?_)
    | (with_reducible refine HK.so3 ?_)
    | (with_reducible refine KC.up ?_ ?_ ?_)
    | (exact kpa_rowP hA hP (by assumption) _)
    | (exact kpa_rowR hA hP (by assumption))
    | (exact fun h => by have := hP _ _ h; omega)
    | (omega)
    | ((obtain ⟨_, _, _, _, _⟩ := hm; omega)))

theorem kpa_F67 (hA : A = 256 ∨ A = 316) (hP : ∀ a q, P a q → a ≠ 2 ∧ a ≠ 3 ∧ a ≠ 5 ∧ a ≠ 6 ∧ a ≠ 7 ∧ ¬ (A ≤ a ∧ a < A + 60 ∧ a ≠ A + 8)) {f : Nat} {a1 : Nat} (ha1 : A + 10 ≤ a1 ∧ a1 < A + 60) {m : yM} (hm : KC A P m0 m) : HK (fun x => x.2) (KC A P m0) (F67 f A a1 m) := by
  unfold F67
  repeat' (first
    | (with_reducible assumption)
    | (with_reducible refine kpa_F37 hA hP ?_)
    | (with_reducible refine kpa_F58 hA hP ?_)
    | (exact HK.no)
    | (with_reducible refine HK.ite (fun _ => ?_) (fun _ => ?_))
    | (with_reducible refine HK.cU ?_ (fun _ _ => ?_))
    | (with_reducible refine HK.cI ?_ (fun _ _ _ => ?_))
    | (with_reducible refine HK.cP (fun _ _ => ?_))
    | (with_reducible refine HK.cL (HK.yl (fun _ _ _ => ?_) _ _ _ ?_) (fun _ _ _ => ?_) (fun _ _ _ => ?_))
    | (with_reducible refine HK.soU ?_)
    | (with_reducible refine HK.soP ?_)
    | (with_reducible refine HK.so1 ?_)
    | (with_reducible refine HK.so2 ?_)
    | (with_reducible refine HK.so3 ?_)
    | (with_reducible refine KC.up ?_ ?_ ?_)
    | (exact kpa_rowP hA hP (by assumption) _)
    | (exact kpa_rowR hA hP (by assumption))
    | (exact fun h => by have := hP _ _ h; omega)
    | (omega)
    | ((obtain ⟨_, _, _, _, _⟩ := hm; omega)))

theorem kpa_F65 (hA : A = 256 ∨ A = 316) (hP : ∀ a q, P a q → a ≠ 2 ∧ a ≠ 3 ∧ a ≠ 5 ∧ a ≠ 6 ∧ a ≠ 7 ∧ ¬ (A ≤ a ∧ a < A + 60 ∧ a ≠ A + 8)) {f : Nat} {a1 : Nat} (ha1 : A + 10 ≤ a1 ∧ a1 < A + 60) {m : yM} (hm : KC A P m0 m) : HK (fun x => x.2) (KC A P m0) (F65 f A a1 m) := by
  unfold F65
  repeat' (first
    | (with_reducible assumption)
    | (exact HK.no)
    | (with_reducible refine HK.ite (fun _ => ?_) (fun _ => ?_))
    | (with_reducible refine HK.cU ?_ (fun _ _ => ?_))
    | (with_reducible refine HK.cI ?_ (fun _ _ _ => ?_))
    | (with_reducible refine HK.cP (fun _ _ => ?_))
    | (with_reducible refine HK.cL (HK.yl (fun _ _ _ => ?_) _ _ _ ?_) (fun _ _ _ => ?_) (fun _ _ _ => ?_))
    | (with_reducible refine HK.soU ?_)
    | (with_reducible refine HK.soP ?_)
    | (with_reducible refine HK.so1 ?_)
    | (with_reducible refine HK.so2 ?_)
    | (with_reducible refine HK.so3 ?_)
    | (with_reducible refine KC.up ?_ ?_ ?_)
    | (exact kpa_rowP hA hP (by assumption) _)
    | (exact kpa_rowR hA hP (by assumption))
    | (exact fun h => by have := hP _ _ h; omega)
    | (omega)
    | ((obtain ⟨_, _, _, _, _⟩ := hm; omega)))

theorem kpa_J66_113 (hA : A = 256 ∨ A = 316) (hP : ∀ a q, P a q → a ≠ 2 ∧ a ≠ 3 ∧ a ≠ 5 ∧ a ≠ 6 ∧ a ≠ 7 ∧ ¬ (A ≤ a ∧ a < A + 60 ∧ a ≠ A + 8)) {f : Nat} {m : yM} (hm : KC A P m0 m) : HK (fun x => x.2) (KC A P m0) (J66_113 f A m) := by
  unfold J66_113
  repeat' (first
    | (with_reducible assumption)
    | (with_reducible refine kpa_F37 hA hP ?_)
    | (exact HK.no)
    | (with_reducible refine HK.ite (fun _ => ?_) (fun _ => ?_))
    | (with_reducible refine HK.cU ?_ (fun _ _ => ?_))
    | (with_reducible refine HK.cI ?_ (fun _ _ _ => ?_))
    | (with_reducible refine HK.cP (fun _ _ => ?_))
    | (with_reducible refine HK.cL (HK.yl (fun _ _ _ => ?_) _ _ _ ?_) (fun _ _ _ => ?_) (fun _ _ _ => ?_))
    | (with_reducible refine HK.soU ?_)
    | (with_reducible refine HK.soP ?_)
    | (with_reducible refine HK.so1 ?_)
    | (with_reducible refine HK.so2 ?_)
    | (with_reducible refine HK.so3 ?_)
    | (with_reducible refine KC.up ?_ ?_ ?_)
    | (exact kpa_rowP hA hP (by assumption) _)
    | (exact kpa_rowR hA hP (by assumption))
    | (exact fun h => by have := hP _ _ h; omega)
    | (omega)
    | ((obtain ⟨_, _, _, _, _⟩ := hm; omega)))

theorem kpa_J66_63 (hA : A = 256 ∨ A = 316) (hP : ∀ a q, P a q → a ≠ 2 ∧ a ≠ 3 ∧ a ≠ 5 ∧ a ≠ 6 ∧ a ≠ 7 ∧ ¬ (A ≤ a ∧ a < A + 60 ∧ a ≠ A + 8)) {f : Nat} {a1 : Nat} (ha1 : A + 10 ≤ a1 ∧ a1 < A + 60) {m : yM} (hm : KC A P m0 m) : HK (fun x => x.2) (KC A P m0) (J66_63 f A a1 m) := by
  unfold J66_63
  repeat' (first
    | (with_reducible assumption)
    | (with_reducible refine kpa_F58 hA hP ?_)
    | (with_reducible refine kpa_J66_113 hA hP ?_)
    | (exact HK.no)
    | (with_reducible refine HK.ite (fun _ => ?_) (fun _ => ?_))
    | (with_reducible refine HK.cU ?_ (fun _ _ => ?_))
    | (with_reducible refine HK.cI ?_ (fun _ _ _ => ?_))
    | (with_reducible refine HK.cP (fun _ _ => ?_))
    | (with_reducible refine HK.cL (HK.yl (fun _ _ _ => ?_) _ _ _ ?_) (fun _ _ _ => ?_) (fun _ _ _ => ?_))
    | (with_reducible refine HK.soU ?_)
    | (with_reducible refine HK.soP ?_)
    | (with_reducible refine HK.so1 ?_)
    | (with_reducible refine HK.so2 ?_)
    | (with_reducible refine HK.so3 ?_)
    | (with_reducible refine KC.up ?_ ?_ ?_)
    | (exact kpa_rowP hA hP (by assumption) _)
    | (exact kpa_rowR hA hP (by assumption))
    | (exact fun h => by have := hP _ _ h; omega)
    | (omega)
    | ((obtain ⟨_, _, _, _, _⟩ := hm; omega)))

theorem kpa_F66 (hA : A = 256 ∨ A = 316) (hP : ∀ a q, P a q → a ≠ 2 ∧ a ≠ 3 ∧ a ≠ 5 ∧ a ≠ 6 ∧ a ≠ 7 ∧ ¬ (A ≤ a ∧ a < A + 60 ∧ a ≠ A + 8)) {f : Nat} {a1 : Nat} (ha1 : A + 10 ≤ a1 ∧ a1 < A + 60) {m : yM} (hm : KC A P m0 m) : HK (fun x => x.2) (KC A P m0) (F66 f A a1 m) := by
  unfold F66
  repeat' (first
    | (with_reducible assumption)
    | (with_reducible refine kpa_F65 hA hP ?_ ?_)
    | (with_reducible refine kpa_J66_63 hA hP ?_ ?_)
    | (with_reducible refine kpa_F58 hA hP ?_)
    | (exact HK.no)
    | (with_reducible refine HK.ite (fun _ => ?_) (fun _ => ?_))
    | (with_reducible refine HK.cU ?_ (fun _ _ => ?_))
    | (with_reducible refine HK.cI ?_ (fun _ _ _ => ?_))
    | (with_reducible refine HK.cP (fun _ _ => ?_))
    | (with_reducible refine HK.cL (HK.yl (fun _ _ _ => ?_) _ _ _ ?_) (fun _ _ _ => ?_) (fun _ _ _ => ?_))
    | (with_reducible refine HK.soU ?_)
    | (with_reducible refine HK.soP ?_)
    | (with_reducible refine HK.so1 ?_)
    | (with_reducible refine HK.so2 ?_)
    | (with_reducible refine HK.so3 ?_)
    | (with_reducible refine KC.up ?_ ?_ ?_)
    | (exact kpa_rowP hA hP (by assumption) _)
    | (exact kpa_rowR hA hP (by assumption))
    | (exact fun h => by have := hP _ _ h; omega)
    | (omega)
    | ((obtain ⟨_, _, _, _, _⟩ := hm; omega)))

theorem kpa_F61 (hA : A = 256 ∨ A = 316) (hP : ∀ a q, P a q → a ≠ 2 ∧ a ≠ 3 ∧ a ≠ 5 ∧ a ≠ 6 ∧ a ≠ 7 ∧ ¬ (A ≤ a ∧ a < A + 60 ∧ a ≠ A + 8)) {f : Nat} {a1 : Nat} (ha1 : A + 10 ≤ a1 ∧ a1 < A + 60) {m : yM} (hm : KC A P m0 m) : HK (fun x => x.2) (KC A P m0) (F61 f A a1 m) := by
  unfold F61
  repeat' (first
    | (with_reducible assumption)
    | (exact HK.no)
    | (with_reducible refine HK.ite (fun _ => ?_) (fun _ => ?_))
    | (with_reducible refine HK.cU ?_ (fun _ _ => ?_))
    | (with_reducible refine HK.cI ?_ (fun _ _ _ => ?_))
    | (with_reducible refine HK.cP (fun _ _ => ?_))
    | (with_reducible refine HK.cL (HK.yl (fun _ _ _ => ?_) _ _ _ ?_) (fun _ _ _ => ?_) (fun _ _ _ => ?_))
    | (with_reducible refine HK.soU ?_)
    | (with_reducible refine HK.soP ?_)
    | (with_reducible refine HK.so1 ?_)
    | (with_reducible refine HK.so2 ?_)
    | (with_reducible refine HK.so3 ?_)
    | (with_reducible refine KC.up ?_ ?_ ?_)
    | (exact kpa_rowP hA hP (by assumption) _)
    | (exact kpa_rowR hA hP (by assumption))
    | (exact fun h => by have := hP _ _ h; omega)
    | (omega)
    | ((obtain ⟨_, _, _, _, _⟩ := hm; omega)))

theorem kpa_F63 (hA : A = 256 ∨ A = 316) (hP : ∀ a q, P a q → a ≠ 2 ∧ a ≠ 3 ∧ a ≠ 5 ∧ a ≠ 6 ∧ a ≠ 7 ∧ ¬ (A ≤ a ∧ a < A + 60 ∧ a ≠ A + 8)) {f : Nat} {a1 : Nat} (ha1 : A + 10 ≤ a1 ∧ a1 < A + 60) {m : yM} (hm : KC A P m0 m) : HK (fun x => x.2) (KC A P m0) (F63 f A a1 m) := by
  unfold F63
  repeat' (first
    | (with_reducible assumption)
    | (exact HK.no)
    | (with_reducible refine HK.ite (fun _ => ?_) (fun _ => ?_))
    | (with_reducible refine HK.cU ?_ (fun _ _ => ?_))
    | (with_reducible refine HK.cI ?_ (fun _ _ _ => ?_))
    | (with_reducible refine HK.cP (fun _ _ => ?_))
    | (with_reducible refine HK.cL (HK.yl (fun _ _ _ => ?_) _ _ _ ?_) (fun _ _ _ => ?_) (fun _ _ _ => ?_))
    | (with_reducible refine HK.soU ?_)
    | (with_reducible refine HK.soP ?_)
    | (with_reducible refine HK.so1 ?_)
    | (with_reducible refine HK.so2 ?_)
    | (with_reducible refine HK.so3 ?_)
    | (with_reducible refine KC.up ?_ ?_ ?_)
    | (exact kpa_rowP hA hP (by assumption) _)
    | (exact kpa_rowR hA hP (by assumption))
    | (exact fun h => by have := hP _ _ h; omega)
    | (omega)
    | ((obtain ⟨_, _, _, _, _⟩ := hm; omega)))

theorem kpa_J64_161 (hA : A = 256 ∨ A = 316) (hP : ∀ a q, P a q → a ≠ 2 ∧ a ≠ 3 ∧ a ≠ 5 ∧ a ≠ 6 ∧ a ≠ 7 ∧ ¬ (A ≤ a ∧ a < A + 60 ∧ a ≠ A + 8)) {f : Nat} {a1 : Nat} {as0 : Nat} {xs1 : Int} (ha1 : A + 10 ≤ a1 ∧ a1 < A + 60) (has0 : A + 10 ≤ as0 ∧ as0 < A + 60) {m : yM} (hm : KC A P m0 m) : HK (fun x => x.2) (KC A P m0) (J64_161 f A a1 as0 xs1 m) := by
  unfold J64_161
  repeat' (first
    | (with_reducible assumption)
    | (with_reducible refine kpa_F62 hA hP ?_ ?_)
    | (exact HK.no)
    | (with_reducible refine HK.ite (fun _ => ?_) (fun _ => ?_))
    | (with_reducible refine HK.cU ?_ (fun _ _ => ?_))
    | (with_reducible refine HK.cI ?_ (fun _ _ _ => ?_))
    | (with_reducible refine HK.cP (fun _ _ => ?_))
    | (with_reducible refine HK.cL (HK.yl (fun _ _ _ => ?_) _ _ _ ?_) (fun _ _ _ => ?_) (fun _ _ _ => ?_))
    | (with_reducible refine HK.soU ?_)
    | (with_reducible refine HK.soP ?_)
    | (with_reducible refine HK.so1 ?_)
    | (with_reducible refine HK.so2 ?_)
    | (with_reducible refine HK.so3 ?_)
    | (with_reducible refine KC.up ?_ ?_ ?_)
    | (exact kpa_rowP hA hP (by assumption) _)
    | (exact kpa_rowR hA hP (by assumption))
    | (exact fun h => by have := hP _ _ h; omega)
    | (omega)
    | ((obtain ⟨_, _, _, _, _⟩ := hm; omega)))

theorem kpa_F64 (hA : A = 256 ∨ A = 316) (hP : ∀ a q, P a q → a ≠ 2 ∧ a ≠ 3 ∧ a ≠ 5 ∧ a ≠ 6 ∧ a ≠ 7 ∧ ¬ (A ≤ a ∧ a < A + 60 ∧ a ≠ A + 8)) {f : Nat} {a1 : Nat} (ha1 : A + 10 ≤ a1 ∧ a1 < A + 60) {m : yM} (hm : KC A P m0 m) : HK (fun x => x.2) (KC A P m0) (F64 f A a1 m) := by
  unfold F64
  repeat' (first
    | (with_reducible assumption)
    | (with_reducible refine kpa_F61 hA hP ?_ ?_)
    | (with_reducible refine kpa_F43 hA hP ?_)
    | (with_reducible refine kpa_F62 hA hP ?_ ?_)
    | (with_reducible refine kpa_F37 hA hP ?_)
    | (with_reducible refine kpa_F63 hA hP ?_ ?_)
    | (with_reducible refine kpa_F58 hA hP ?_)
    | (with_reducible refine kpa_J64_161 hA hP ?_ ?_ ?_)
    | (exact HK.no)
    | (with_reducible refine HK.ite (fun _ => ?_) (fun _ => ?_))
    | (with_reducible refine HK.cU ?_ (fun _ _ => ?_))
    | (with_reducible refine HK.cI ?_ (fun _ _ _ => ?_))
    | (with_reducible refine HK.cP (fun _ _ => ?_))
    | (with_reducible refine HK.cL (HK.yl (fun _ _ _ => ?_) _ _ _ ?_) (fun _ _ _ => ?_) (fun _ _ _ => ?_))
    | (with_reducible refine HK.soU ?_)
    | (with_reducible refine HK.soP ?_)
    | (with_reducible refine HK.so1 ?_)
    | (with_reducible refine HK.so2 ?_)
    | (with_reducible refine HK.so3 ?_)
    | (with_reducible refine KC.up ?_ ?_ ?_)
    | (exact kpa_rowP hA hP (by assumption) _)
    | (exact kpa_rowR hA hP (by assumption))
    | (exact fun h => by have := hP _ _ h; omega)
    | (omega)
    | ((obtain ⟨_, _, _, _, _⟩ := hm; omega)))

theorem kpa_J68_124 (hA : A = 256 ∨ A = 316) (hP : ∀ a q, P a q → a ≠ 2 ∧ a ≠ 3 ∧ a ≠ 5 ∧ a ≠ 6 ∧ a ≠ 7 ∧ ¬ (A ≤ a ∧ a < A + 60 ∧ a ≠ A + 8)) {f : Nat} {a1 : Nat} {x4 : Int} (ha1 : A + 10 ≤ a1 ∧ a1 < A + 60) {m : yM} (hm : KC A P m0 m) : HK (fun x => x.2) (KC A P m0) (J68_124 f A a1 x4 m) := by
  unfold J68_124
  repeat' (first
    | (with_reducible assumption)
    | (with_reducible refine kpa_F67 hA hP ?_ ?_)
    | (exact HK.no)
    | (with_reducible refine HK.ite (fun _ => ?_) (fun _ => ?_))
    | (with_reducible refine HK.cU ?_ (fun _ _ => ?_))
    | (with_reducible refine HK.cI ?_ (fun _ _ _ => ?_))
    | (with_reducible refine HK.cP (fun _ _ => ?_))
    | (with_reducible refine HK.cL (HK.yl (fun _ _ _ => ?_) _ _ _ ?_) (fun _ _ _ => ?_) (fun _ _ _ => ?_))
    | (with_reducible refine HK.soU ?_)
    | (with_reducible refine HK.soP ?_)
    | (with_reducible refine HK.so1 ?_)
    | (with_reducible refine HK.so2 ?_)
    | (with_reducible refine HK.so3 ?_)
    | (with_reducible refine KC.up ?_ ?_ ?_)
    | (exact kpa_rowP hA hP (by assumption) _)
    | (exact kpa_rowR hA hP (by assumption))
    | (exact fun h => by have := hP _ _ h; omega)
    | (omega)
    | ((obtain ⟨_, _, _, _, _⟩ := hm; omega)))

theorem kpa_J68_100 (hA : A = 256 ∨ A = 316) (hP : ∀ a q, P a q → a ≠ 2 ∧ a ≠ 3 ∧ a ≠ 5 ∧ a ≠ 6 ∧ a ≠ 7 ∧ ¬ (A ≤ a ∧ a < A + 60 ∧ a ≠ A + 8)) {f : Nat} {a1 : Nat} {x4 : Int} (ha1 : A + 10 ≤ a1 ∧ a1 < A + 60) {m : yM} (hm : KC A P m0 m) : HK (fun x => x.2) (KC A P m0) (J68_100 f A a1 x4 m) := by
  unfold J68_100
  repeat' (first
    | (with_reducible assumption)
    | (with_reducible refine kpa_F66 hA hP ?_ ?_)
    | (with_reducible refine kpa_J68_124 hA hP ?_ ?_)
    | (exact HK.no)
    | (with_reducible refine HK.ite (fun _ => ?_) (fun _ => ?_))
    | (with_reducible refine HK.cU ?_ (fun _ _ => ?_))
    | (with_reducible refine HK.cI ?_ (fun _ _ _ => ?_))
    | (with_reducible refine HK.cP (fun _ _ => ?_))
    | (with_reducible refine HK.cL (HK.yl (fun _ _ _ => ?_) _ _ _ ?_) (fun _ _ _ => ?_) (fun _ _ _ => ?_))
    | (with_reducible refine HK.soU ?_)
    | (with_reducible refine HK.soP ?_)
    | (with_reducible refine HK.so1 ?_)
    | (with_reducible refine HK.so2 ?_)
    | (with_reducible refine HK.so3 ?_)
    | (with_reducible refine KC.up ?_ ?_ ?_)
    | (exact kpa_rowP hA hP (by assumption) _)
    | (exact kpa_rowR hA hP (by assumption))
    | (exact fun h => by have := hP _ _ h; omega)
    | (omega)
    | ((obtain ⟨_, _, _, _, _⟩ := hm; omega)))

theorem kpa_J68_45 (hA : A = 256 ∨ A = 316) (hP : ∀ a q, P a q → a ≠ 2 ∧ a ≠ 3 ∧ a ≠ 5 ∧ a ≠ 6 ∧ a ≠ 7 ∧ ¬ (A ≤ a ∧ a < A + 60 ∧ a ≠ A + 8)) {f : Nat} {a1 : Nat} {x3 : Int} {xs0 : Int} (ha1 : A + 10 ≤ a1 ∧ a1 < A + 60) {m : yM} (hm : KC A P m0 m) : HK (fun x => x.2) (KC A P m0) (J68_45 f A a1 x3 xs0 m) := by
  unfold J68_45
  repeat' (first
    | (with_reducible assumption)
    | (with_reducible refine kpa_F62 hA hP ?_ ?_)
    | (with_reducible refine kpa_J68_100 hA hP ?_ ?_)
    | (with_reducible refine kpa_F64 hA hP ?_ ?_)
    | (exact HK.no)
    | (with_reducible refine HK.ite (fun _ => ?_) (fun _ => ?_))
    | (with_reducible refine HK.cU ?_ (fun _ _ => ?_))
    | (with_reducible refine HK.cI ?_ (fun _ _ _ => ?_))
    | (with_reducible refine HK.cP (fun _ _ => ?_))
    | (with_reducible refine HK.cL (HK.yl (fun _ _ _ => ?_) _ _ _ ?_) (fun _ _ _ => ?_) (fun _ _ _ => ?_))
    | (with_reducible refine HK.soU ?_)
    | (with_reducible refine HK.soP ?_)
    | (with_reducible refine HK.so1 ?_)
    | (with_reducible refine HK.so2 ?_)
    | (with_reducible refine HK.so3 ?_)
    | (with_reducible refine KC.up ?_ ?_ ?_)
    | (exact kpa_rowP hA hP (by assumption) _)
    | (exact kpa_rowR hA hP (by assumption))
    | (exact fun h => by have := hP _ _ h; omega)
    | (omega)
    | ((obtain ⟨_, _, _, _, _⟩ := hm; omega)))

theorem kpa_J68_44 (hA : A = 256 ∨ A = 316) (hP : ∀ a q, P a q → a ≠ 2 ∧ a ≠ 3 ∧ a ≠ 5 ∧ a ≠ 6 ∧ a ≠ 7 ∧ ¬ (A ≤ a ∧ a < A + 60 ∧ a ≠ A + 8)) {f : Nat} {a1 : Nat} {x3 : Int} (ha1 : A + 10 ≤ a1 ∧ a1 < A + 60) {m : yM} (hm : KC A P m0 m) : HK (fun x => x.2) (KC A P m0) (J68_44 f A a1 x3 m) := by
  unfold J68_44
  repeat' (first
    | (with_reducible assumption)
    | (with_reducible refine kpa_J68_45 hA hP ?_ ?_)
    | (exact HK.no)
    | (with_reducible refine HK.ite (fun _ => ?_) (fun _ => ?_))
    | (with_reducible refine HK.cU ?_ (fun _ _ => ?_))
    | (with_reducible refine HK.cI ?_ (fun _ _ _ => ?_))
    | (with_reducible refine HK.cP (fun _ _ => ?_))
    | (with_reducible refine HK.cL (HK.yl (fun _ _ _ => ?_) _ _ _ ?_) (fun _ _ _ => ?_) (fun _ _ _ => ?_))
    | (with_reducible refine HK.soU ?_)
    | (with_reducible refine HK.soP ?_)
    | (with_reducible refine HK.so1 ?_)
    | (with_reducible refine HK.so2 ?_)
    | (with_reducible refine HK.so3 ?_)
    | (with_reducible refine KC.up ?_ ?_ ?_)
    | (exact kpa_rowP hA hP (by assumption) _)
    | (exact kpa_rowR hA hP (by assumption))
    | (exact fun h => by have := hP _ _ h; omega)
    | (omega)
    | ((obtain ⟨_, _, _, _, _⟩ := hm; omega)))

theorem kpa_J68_14 (hA : A = 256 ∨ A = 316) (hP : ∀ a q, P a q → a ≠ 2 ∧ a ≠ 3 ∧ a ≠ 5 ∧ a ≠ 6 ∧ a ≠ 7 ∧ ¬ (A ≤ a ∧ a < A + 60 ∧ a ≠ A + 8)) {f : Nat} {a1 : Nat} {xs0 : Int} (ha1 : A + 10 ≤ a1 ∧ a1 < A + 60) {m : yM} (hm : KC A P m0 m) : HK (fun x => x.2) (KC A P m0) (J68_14 f A a1 xs0 m) := by
  unfold J68_14
  repeat' (first
    | (with_reducible assumption)
    | (with_reducible refine kpa_F58 hA hP ?_)
    | (with_reducible refine kpa_J68_44 hA hP ?_ ?_)
    | (with_reducible refine kpa_J68_45 hA hP ?_ ?_)
    | (exact HK.no)
    | (with_reducible refine HK.ite (fun _ => ?_) (fun _ => ?_))
    | (with_reducible refine HK.cU ?_ (fun _ _ => ?_))
    | (with_reducible refine HK.cI ?_ (fun _ _ _ => ?_))
    | (with_reducible refine HK.cP (fun _ _ => ?_))
    | (with_reducible refine HK.cL (HK.yl (fun _ _ _ => ?_) _ _ _ ?_) (fun _ _ _ => ?_) (fun _ _ _ => ?_))
    | (with_reducible refine HK.soU ?_)
    | (with_reducible refine HK.soP ?_)
    | (with_reducible refine HK.so1 ?_)
    | (with_reducible refine HK.so2 ?_)
    | (with_reducible refine HK.so3 ?_)
    | (with_reducible refine KC.up ?_ ?_ ?_)
    | (exact kpa_rowP hA hP (by assumption) _)
    | (exact kpa_rowR hA hP (by assumption))
    | (exact fun h => by have := hP _ _ h; omega)
    | (omega)
    | ((obtain ⟨_, _, _, _, _⟩ := hm; omega)))

theorem kpa_F68 (hA : A = 256 ∨ A = 316) (hP : ∀ a q, P a q → a ≠ 2 ∧ a ≠ 3 ∧ a ≠ 5 ∧ a ≠ 6 ∧ a ≠ 7 ∧ ¬ (A ≤ a ∧ a < A + 60 ∧ a ≠ A + 8)) {f : Nat} {a1 : Nat} (ha1 : A + 10 ≤ a1 ∧ a1 < A + 60) {m : yM} (hm : KC A P m0 m) : HK (fun x => x.2) (KC A P m0) (F68 f A a1 m) := by
  unfold F68
  repeat' (first
    | (with_reducible assumption)
    | (with_reducible refine kpa_J68_14 hA hP ?_ ?_)
    | (exact HK.no)
    | (with_reducible refine HK.ite (fun _ => ?_) (fun _ => ?_))
    | (with_reducible refine HK.cU ?_ (fun _ _ => ?_))
    | (with_reducible refine HK.cI ?_ (fun _ _ _ => ?_))
    | (with_reducible refine HK.cP (fun _ _ => ?_))
    | (with_reducible refine HK.cL (HK.yl (fun _ _ _ => ?_) _ _ _ ?_) (fun _ _ _ => ?_) (fun _ _ _ => ?_))
    | (with_reducible refine HK.soU ?_)
    | (with_reducible refine HK.soP ?_)
    | (with_reducible refine HK.so1 ?_)
    | (with_reducible refine HK.so2 ?_)
    | (with_reducible refine HK.so3 ?_)
    | (with_reducible refine KC.up ?_ ?_ ?_)
    | (exact kpa_rowP hA hP (by assumption) _)
    | (exact kpa_rowR hA hP (by assumption))
    | (exact fun h => by have := hP _ _ h; omega)
    | (omega)
    | ((obtain ⟨_, _, _, _, _⟩ := hm; omega)))

theorem kpa_F60 (hA : A = 256 ∨ A = 316) (hP : ∀ a q, P a q → a ≠ 2 ∧ a ≠ 3 ∧ a ≠ 5 ∧ a ≠ 6 ∧ a ≠ 7 ∧ ¬ (A ≤ a ∧ a < A + 60 ∧ a ≠ A + 8)) {f : Nat} {a1 : Nat} (ha1 : A + 10 ≤ a1 ∧ a1 < A + 60) {m : yM} (hm : KC A P m0 m) : HK (fun x => x.2) (KC A P m0) (F60 f A a1 m) := by
  unfold F60
  repeat' (first
    | (with_reducible assumption)
    | (with_reducible refine kpa_F58 hA hP ?_)
    | (exact HK.no)
    | (with_reducible refine HK.ite (fun _ => ?_) (fun _ => ?_))
    | (with_reducible refine HK.cU ?_ (fun _ _ => ?_))
    | (with_reducible refine HK.cI ?_ (fun _ _ _ => ?_))
    | (with_reducible refine HK.cP (fun _ _ => ?_))
    | (with_reducible refine HK.cL (HK.yl (fun _ _ _ => ?_) _ _ _ ?_) (fun _ _ _ => ?_) (fun _ _ _ => ?_))
    | (with_reducible refine HK.soU ?_)
    | (with_reducible refine HK.soP ?_)
    | (with_reducible refine HK.so1 ?_)
    | (with_reducible refine HK.so2 ?_)
    | (with_reducible refine HK.so3 ?_)
    | (with_reducible refine KC.up ?_ ?_ ?_)
    | (exact kpa_rowP hA hP (by assumption) _)
    | (exact kpa_rowR hA hP (by assumption))
    | (exact fun h => by have := hP _ _ h; omega)
    | (omega)
    | ((obtain ⟨_, _, _, _, _⟩ := hm; omega)))

theorem kpa_J69_162 (hA : A = 256 ∨ A = 316) (hP : ∀ a q, P a q → a ≠ 2 ∧ a ≠ 3 ∧ a ≠ 5 ∧ a ≠ 6 ∧ a ≠ 7 ∧ ¬ (A ≤ a ∧ a < A + 60 ∧ a ≠ A + 8)) {f : Nat} {rc : Int → yM → Option (Int × yM)} {x1 : Int} {x2 : Int} {x3 : Int} {a4 : Nat} (ha4 : A + 10 ≤ a4 ∧ a4 < A + 60) (hrc : ∀ y0 m, KC A P m0 m → HK (fun x => x.2) (KC A P m0) (rc y0 m)) {m : yM} (hm : KC A P m0 m) : HK mB (KC A P m0) (J69_162 f rc A x1 x2 x3 a4 m) := by
  unfold J69_162
  repeat' (first
    | (with_reducible assumption)
    | (with_reducible refine hrc _ _ ?_)
    | (exact HK.no)
    | (with_reducible refine HK.ite (fun _ => ?_) (fun _ => ?_))
    | (with_reducible refine HK.cU ?_ (fun _ _ => ?_))
    | (with_reducible refine HK.cI ?_ (fun _ _ _ => ?_))
    | (with_reducible refine HK.cP (fun _ _ => ?_))
    | (with_reducible refine HK.cL (HK.yl (fun _ _ _ => ?_) _ _ _ ?_) (fun _ _ _ => ?_) (fun _ _ _ => ?_))
    | (with_reducible refine HK.soU ?_)
    | (with_reducible refine HK.soP ?_)
    | (with_reducible refine HK.so1 ?_)
    | (with_reducible refine HK.so2 ?_)
    | (with_reducible refine HK.so3 ?_)
    | (with_reducible refine KC.up ?_ ?_ ?_)
    | (exact kpa_rowP hA hP (by assumption) _)
    | (exact kpa_rowR hA hP (by assumption))
    | (exact fun h => by have := hP _ _ h; omega)
    | (omega)
    | ((obtain ⟨_, _, _, _, _⟩ := hm; omega)))

theorem kpa_J69_161 (hA : A = 256 ∨ A = 316) (hP : ∀ a q, P a q → a ≠ 2 ∧ a ≠ 3 ∧ a ≠ 5 ∧ a ≠ 6 ∧ a ≠ 7 ∧ ¬ (A ≤ a ∧ a < A + 60 ∧ a ≠ A + 8)) {f : Nat} {rc : Int → yM → Option (Int × yM)} {x1 : Int} {x3 : Int} {a4 : Nat} {xs0 : Int} (ha4 : A + 10 ≤ a4 ∧ a4 < A + 60) (hrc : ∀ y0 m, KC A P m0 m → HK (fun x => x.2) (KC A P m0) (rc y0 m)) {m : yM} (hm : KC A P m0 m) : HK mB (KC A P m0) (J69_161 f rc A x1 x3 a4 xs0 m) := by
  unfold J69_161
  repeat' (first
    | (with_reducible assumption)
    | (with_reducible refine kpa_J69_162 hA hP ?_ hrc ?_)
    | (with_reducible refine hrc _ _ ?_)
    | (exact HK.no)
    | (with_reducible refine HK.ite (fun _ => ?_) (fun _ => ?_))
    | (with_reducible refine HK.cU ?_ (fun _ _ => ?_))
    | (with_reducible refine HK.cI ?_ (fun _ _ _ => ?_))
    | (with_reducible refine HK.cP (fun _ _ => ?_))
    | (with_reducible refine HK.cL (HK.yl (fun _ _ _ => ?_) _ _ _ ?_) (fun _ _ _ => ?_) (fun _ _ _ => ?_))
    | (with_reducible refine HK.soU ?_)
    | (with_reducible refine HK.soP ?_)
    | (with_reducible refine HK.so1 ?_)
    | (with_reducible refine HK.so2 ?_)
    | (with_reducible refine HK.so3 ?_)
    | (with_reducible refine KC.up ?_ ?_ ?_)
    | (exact kpa_rowP hA hP (by assumption) _)
    | (exact kpa_rowR hA hP (by assumption))
    | (exact fun h => by have := hP _ _ h; omega)
    | (omega)
    | ((obtain ⟨_, _, _, _, _⟩ := hm; omega)))

theorem kpa_J69_160 (hA : A = 256 ∨ A = 316) (hP : ∀ a q, P a q → a ≠ 2 ∧ a ≠ 3 ∧ a ≠ 5 ∧ a ≠ 6 ∧ a ≠ 7 ∧ ¬ (A ≤ a ∧ a < A + 60 ∧ a ≠ A + 8)) {f : Nat} {rc : Int → yM → Option (Int × yM)} {x1 : Int} {x3 : Int} {a4 : Nat} (ha4 : A + 10 ≤ a4 ∧ a4 < A + 60) (hrc : ∀ y0 m, KC A P m0 m → HK (fun x => x.2) (KC A P m0) (rc y0 m)) {m : yM} (hm : KC A P m0 m) : HK mB (KC A P m0) (J69_160 f rc A x1 x3 a4 m) := by
  unfold J69_160
  repeat' (first
    | (with_reducible assumption)
    | (with_reducible refine kpa_J69_161 hA hP ?_ hrc ?_)
    | (with_reducible refine hrc _ _ ?_)
    | (exact HK.no)
    | (with_reducible refine HK.ite (fun _ => ?_) (fun _ => ?_))
    | (with_reducible refine HK.cU ?_ (fun _ _ => ?_))
    | (with_reducible refine HK.cI ?_ (fun _ _ _ => ?_))
    | (with_reducible refine HK.cP (fun _ _ => ?_))
    | (with_reducible refine HK.cL (HK.yl (fun _ _ _ => ?_) _ _ _ ?_) (fun _ _ _ => ?_) (fun _ _ _ => ?_))
    | (with_reducible refine HK.soU ?_)
    | (with_reducible refine HK.soP ?_)
    | (with_reducible refine HK.so1 ?_)
    | (with_reducible refine HK.so2 ?_)
    | (with_reducible refine HK.so3 ?_)
    | (with_reducible refine KC.up ?_ ?_ ?_)
    | (exact kpa_rowP hA hP (by assumption) _)
    | (exact kpa_rowR hA hP (by assumption))
    | (exact fun h => by have := hP _ _ h; omega)
    | (omega)
    | ((obtain ⟨_, _, _, _, _⟩ := hm; omega)))

theorem kpa_J69_134 (hA : A = 256 ∨ A = 316) (hP : ∀ a q, P a q → a ≠ 2 ∧ a ≠ 3 ∧ a ≠ 5 ∧ a ≠ 6 ∧ a ≠ 7 ∧ ¬ (A ≤ a ∧ a < A + 60 ∧ a ≠ A + 8)) {f : Nat} {rc : Int → yM → Option (Int × yM)} {x1 : Int} {x3 : Int} {a4 : Nat} {xs0 : Int} (ha4 : A + 10 ≤ a4 ∧ a4 < A + 60) (hrc : ∀ y0 m, KC A P m0 m → HK (fun x => x.2) (KC A P m0) (rc y0 m)) {m : yM} (hm : KC A P m0 m) : HK mB (KC A P m0) (J69_134 f rc A x1 x3 a4 xs0 m) := by
  unfold J69_134
  repeat' (first
    | (with_reducible assumption)
    | (with_reducible refine kpa_J69_162 hA hP ?_ hrc ?_)
    | (with_reducible refine hrc _ _ ?_)
    | (exact HK.no)
    | (with_reducible refine HK.ite (fun _ => ?_) (fun _ => ?_))
    | (with_reducible refine HK.cU ?_ (fun _ _ => ?_))
    | (with_reducible refine HK.cI ?_ (fun _ _ _ => ?_))
    | (with_reducible refine HK.cP (fun _ _ => ?_))
    | (with_reducible refine HK.cL (HK.yl (fun _ _ _ => ?_) _ _ _ ?_) (fun _ _ _ => ?_) (fun _ _ _ => ?_))
    | (with_reducible refine HK.soU ?_)
    | (with_reducible refine HK.soP ?_)
    | (with_reducible refine HK.so1 ?_)
    | (with_reducible refine HK.so2 ?_)
    | (with_reducible refine HK.so3 ?_)
    | (with_reducible refine KC.up ?_ ?_ ?_)
    | (exact kpa_rowP hA hP (by assumption) _)
    | (exact kpa_rowR hA hP (by assumption))
    | (exact fun h => by have := hP _ _ h; omega)
    | (omega)
    | ((obtain ⟨_, _, _, _, _⟩ := hm; omega)))

theorem kpa_J69_133 (hA : A = 256 ∨ A = 316) (hP : ∀ a q, P a q → a ≠ 2 ∧ a ≠ 3 ∧ a ≠ 5 ∧ a ≠ 6 ∧ a ≠ 7 ∧ ¬ (A ≤ a ∧ a < A + 60 ∧ a ≠ A + 8)) {f : Nat} {rc : Int → yM → Option (Int × yM)} {x1 : Int} {x3 : Int} {a4 : Nat} (ha4 : A + 10 ≤ a4 ∧ a4 < A + 60) (hrc : ∀ y0 m, KC A P m0 m → HK (fun x => x.2) (KC A P m0) (rc y0 m)) {m : yM} (hm : KC A P m0 m) : HK mB (KC A P m0) (J69_133 f rc A x1 x3 a4 m) := by
  unfold J69_133
  repeat' (first
    | (with_reducible assumption)
    | (with_reducible refine kpa_J69_134 hA hP ?_ hrc ?_)
    | (with_reducible refine hrc _ _ ?_)
    | (exact HK.no)
    | (with_reducible refine HK.ite (fun _ => ?_) (fun _ => ?_))
    | (with_reducible refine HK.cU ?_ (fun _ _ => ?_))
    | (with_reducible refine HK.cI ?_ (fun _ _ _ => ?_))
    | (with_reducible refine HK.cP (fun _ _ => ?_))
    | (with_reducible refine HK.cL (HK.yl (fun _ _ _ => ?_) _ _ _ ?_) (fun _ _ _ => ?_) (fun _ _ _ => ?_))
    | (with_reducible refine HK.soU ?_)
    | (with_reducible refine HK.soP ?_)
    | (with_reducible refine HK.so1 ?_)
    | (with_reducible refine HK.so2 ?_)
    | (with_reducible refine HK.so3 ?_)
    | (with_reducible refine KC.up ?_ ?_ ?_)
    | (exact kpa_rowP hA hP (by assumption) _)
    | (exact kpa_rowR hA hP (by assumption))
    | (exact fun h => by have := hP _ _ h; omega)
    | (omega)
    | ((obtain ⟨_, _, _, _, _⟩ := hm; omega)))

theorem kpa_B69_19 (hA : A = 256 ∨ A = 316) (hP : ∀ a q, P a q → a ≠ 2 ∧ a ≠ 3 ∧ a ≠ 5 ∧ a ≠ 6 ∧ a ≠ 7 ∧ ¬ (A ≤ a ∧ a < A + 60 ∧ a ≠ A + 8)) {f : Nat} {rc : Int → yM → Option (Int × yM)} {x1 : Int} {x2 : Int} {x3 : Int} (hrc : ∀ y0 m, KC A P m0 m → HK (fun x => x.2) (KC A P m0) (rc y0 m)) {m : yM} (hm : KC A P m0 m) : HK mB (KC A P m0) (B69_19 f rc A x1 x2 x3 m) := by
  unfold B69_19
  repeat' (first
    | (with_reducible assumption)
    | (with_reducible refine kpa_F43 hA hP ?_)
    | (with_reducible refine kpa_F59 hA hP ?_ hrc ?_)
    | (with_reducible refine kpa_J69_162 hA hP ?_ hrc ?_)
    | (with_reducible refine kpa_F68 hA hP ?_ ?_)
    | (with_reducible refine kpa_J69_160 hA hP ?_ hrc ?_)
    | (with_reducible refine kpa_F37 hA hP ?_)
    | (with_reducible refine kpa_J69_161 hA hP ?_ hrc ?_)
    | (with_reducible refine kpa_F60 hA hP ?_ ?_)
    | (with_reducible refine kpa_J69_133 hA hP ?_ hrc ?_)
    | (with_reducible refine kpa_J69_134 hA hP ?_ hrc ?_)
    | (with_reducible refine hrc _ _ ?_)
    | (exact HK.no)
    | (with_reducible refine HK.ite (fun _ => ?_) (fun _ => ?_))
    | (with_reducible refine HK.cI2 (o := F56 f A _) (fun r m e => ?_); obtain ⟨_, _, _⟩ := kpa_F56 hA hP (by assumption) (by assumption) e)
    | (with_reducible refine HK.cU ?_ (fun _ _ => ?_))
    | (with_reducible refine HK.cI ?_ (fun _ _ _ => ?_))
    | (with_reducible refine HK.cP (fun _ _ => ?_))
    | (with_reducible refine HK.cL (HK.yl (fun _ _ _ => ?_) _ _ _ ?_) (fun _ _ _ => ?_) (fun _ _ _ => ?_))
    | (with_reducible refine HK.soU ?_)
    | (with_reducible refine HK.soP ?_)
    | (with_reducible refine HK.so1 ?_)
    | (with_reducible refine HK.so2 ?_)
    | (with_reducible refine HK.so3 ?_)
    | (with_reducible refine KC.up ?_ ?_ ?_)
    | (exact kpa_rowP hA hP (by assumption) _)
    | (exact kpa_rowR hA hP (by assumption))
    | (exact fun h => by have := hP _ _ h; omega)
    | (omega)
    | ((obtain ⟨_, _, _, _, _⟩ := hm; omega)))

theorem kpa_J69_180 (hA : A = 256 ∨ A = 316) (hP : ∀ a q, P a q → a ≠ 2 ∧ a ≠ 3 ∧ a ≠ 5 ∧ a ≠ 6 ∧ a ≠ 7 ∧ ¬ (A ≤ a ∧ a < A + 60 ∧ a ≠ A + 8)) {f : Nat} {rc : Int → yM → Option (Int × yM)} {x2 : Int} (hrc : ∀ y0 m, KC A P m0 m → HK (fun x => x.2) (KC A P m0) (rc y0 m)) {m : yM} (hm : KC A P m0 m) : HK (fun x => x.2) (KC A P m0) (J69_180 f rc A x2 m) := by
  unfold J69_180
  repeat' (first
    | (with_reducible assumption)
    | (with_reducible refine kpa_F37 hA hP ?_)
    | (with_reducible refine hrc _ _ ?_)
    | (exact HK.no)
    | (with_reducible refine HK.ite (fun _ => ?_) (fun _ => ?_))
    | (with_reducible refine HK.cU ?_ (fun _ _ => ?_))
    | (with_reducible refine HK.cI ?_ (fun _ _ _ => ?_))
    | (with_reducible refine HK.cP (fun _ _ => ?_))
    | (with_reducible refine HK.cL (HK.yl (fun _ _ _ => ?_) _ _ _ ?_) (fun _ _ _ => ?_) (fun _ _ _ => ?_))
    | (with_reducible refine HK.soU ?_)
    | (with_reducible refine HK.soP ?_)
    | (with_reducible refine HK.so1 ?_)
    | (with_reducible refine HK.so2 ?_)
    | (with_reducible refine HK.so3 ?_)
    | (with_reducible refine KC.up ?_ ?_ ?_)
    | (exact kpa_rowP hA hP (by assumption) _)
    | (exact kpa_rowR hA hP (by assumption))
    | (exact fun h => by have := hP _ _ h; omega)
    | (omega)
    | ((obtain ⟨_, _, _, _, _⟩ := hm; omega)))

theorem kpa_G69 (hA : A = 256 ∨ A = 316) (hP : ∀ a q, P a q → a ≠ 2 ∧ a ≠ 3 ∧ a ≠ 5 ∧ a ≠ 6 ∧ a ≠ 7 ∧ ¬ (A ≤ a ∧ a < A + 60 ∧ a ≠ A + 8)) {f : Nat} {rc : Int → yM → Option (Int × yM)} {x1 : Int} (hrc : ∀ y0 m, KC A P m0 m → HK (fun x => x.2) (KC A P m0) (rc y0 m)) {m : yM} (hm : KC A P m0 m) : HK (fun x => x.2) (KC A P m0) (G69 f rc A x1 m) := by
  unfold G69
  repeat' (first
    | (with_reducible assumption)
    | (with_reducible refine kpa_F43 hA hP ?_)
    | (with_reducible refine kpa_F37 hA hP ?_)
    | (with_reducible refine kpa_B69_19 hA hP hrc ?_)
    | (with_reducible refine kpa_J69_180 hA hP hrc ?_)
    | (with_reducible refine hrc _ _ ?_)
    | (exact HK.no)
    | (with_reducible refine HK.ite (fun _ => ?_) (fun _ => ?_))
    | (with_reducible refine HK.cU ?_ (fun _ _ => ?_))
    | (with_reducible refine HK.cI ?_ (fun _ _ _ => ?_))
    | (with_reducible refine HK.cP (fun _ _ => ?_))
    | (with_reducible refine HK.cL (HK.yl (fun _ _ _ => ?_) _ _ _ ?_) (fun _ _ _ => ?_) (fun _ _ _ => ?_))
    | (with_reducible refine HK.soU ?_)
    | (with_reducible refine HK.soP ?_)
    | (with_reducible refine HK.so1 ?_)
    | (with_reducible refine HK.so2 ?_)
    | (with_reducible refine HK.so3 ?_)
    | (with_reducible refine KC.up ?_ ?_ ?_)
    | (exact kpa_rowP hA hP (by assumption) _)
    | (exact kpa_rowR hA hP (by assumption))
    | (exact fun h => by have := hP _ _ h; omega)
    | (omega)
    | ((obtain ⟨_, _, _, _, _⟩ := hm; omega)))

theorem kpa_J70_33 (hA : A = 256 ∨ A = 316) (hP : ∀ a q, P a q → a ≠ 2 ∧ a ≠ 3 ∧ a ≠ 5 ∧ a ≠ 6 ∧ a ≠ 7 ∧ ¬ (A ≤ a ∧ a < A + 60 ∧ a ≠ A + 8)) {f : Nat} {m : yM} (hm : KC A P m0 m) : HK (fun x => x.2) (KC A P m0) (J70_33 f A m) := by
  unfold J70_33
  repeat' (first
    | (with_reducible assumption)
    | (with_reducible refine kpa_F43 hA hP ?_)
    | (exact HK.no)
    | (with_reducible refine HK.ite (fun _ => ?_) (fun _ => ?_))
    | (with_reducible refine HK.cU ?_ (fun _ _ => ?_))
    | (with_reducible refine HK.cI ?_ (fun _ _ _ => ?_))
    | (with_reducible refine HK.cP (fun _ _ => ?_))
    | (with_reducible refine HK.cL (HK.yl (fun _ _ _ => ?_) _ _ _ ?_) (fun _ _ _ => ?_) (fun _ _ _ => ?_))
    | (with_reducible refine HK.soU ?_)
    | (with_reducible refine HK.soP ?_)
    | (with_reducible refine HK.so1 ?_)
    | (with_reducible refine HK.so2 ?_)
    | (with_reducible refine HK.so3 ?_)
    | (with_reducible refine KC.up ?_ ?_ ?_)
    | (exact kpa_rowP hA hP (by assumption) _)
    | (exact kpa_rowR hA hP (by assumption))
    | (exact fun h => by have := hP _ _ h; omega)
    | (omega)
    | ((obtain ⟨_, _, _, _, _⟩ := hm; omega)))

theorem kpa_J70_115 (hA : A = 256 ∨ A = 316) (hP : ∀ a q, P a q → a ≠ 2 ∧ a ≠ 3 ∧ a ≠ 5 ∧ a ≠ 6 ∧ a ≠ 7 ∧ ¬ (A ≤ a ∧ a < A + 60 ∧ a ≠ A + 8)) {f : Nat} {a1 : Nat} {xs0 : Int} (ha1 : A + 10 ≤ a1 ∧ a1 < A + 60) {m : yM} (hm : KC A P m0 m) : HK (fun x => x.2) (KC A P m0) (J70_115 f A a1 xs0 m) := by
  unfold J70_115
  repeat' (first
    | (with_reducible assumption)
    | (exact HK.no)
    | (with_reducible refine HK.ite (fun _ => ?_) (fun _ => ?_))
    | (with_reducible refine HK.cU ?_ (fun _ _ => ?_))
    | (with_reducible refine HK.cI ?_ (fun _ _ _ => ?_))
    | (with_reducible refine HK.cP (fun _ _ => ?_))
    | (with_reducible refine HK.cL (HK.yl (fun _ _ _ => ?_) _ _ _ ?_) (fun _ _ _ => ?_) (fun _ _ _ => ?_))
    | (with_reducible refine HK.soU ?_)
    | (with_reducible refine HK.soP ?_)
    | (with_reducible refine HK.so1 ?_)
    | (with_reducible refine HK.so2 ?_)
    | (with_reducible refine HK.so3 ?_)
    | (with_reducible refine KC.up ?_ ?_ ?_)
    | (exact kpa_rowP hA hP (by assumption) _)
    | (exact kpa_rowR hA hP (by assumption))
    | (exact fun h => by have := hP _ _ h; omega)
    | (omega)
    | ((obtain ⟨_, _, _, _, _⟩ := hm; omega)))

theorem kpa_J70_114 (hA : A = 256 ∨ A = 316) (hP : ∀ a q, P a q → a ≠ 2 ∧ a ≠ 3 ∧ a ≠ 5 ∧ a ≠ 6 ∧ a ≠ 7 ∧ ¬ (A ≤ a ∧ a < A + 60 ∧ a ≠ A + 8)) {f : Nat} {a1 : Nat} (ha1 : A + 10 ≤ a1 ∧ a1 < A + 60) {m : yM} (hm : KC A P m0 m) : HK (fun x => x.2) (KC A P m0) (J70_114 f A a1 m) := by
  unfold J70_114
  repeat' (first
    | (with_reducible assumption)
    | (with_reducible refine kpa_J70_115 hA hP ?_ ?_)
    | (exact HK.no)
    | (with_reducible refine HK.ite (fun _ => ?_) (fun _ => ?_))
    | (with_reducible refine HK.cU ?_ (fun _ _ => ?_))
    | (with_reducible refine HK.cI ?_ (fun _ _ _ => ?_))
    | (with_reducible refine HK.cP (fun _ _ => ?_))
    | (with_reducible refine HK.cL (HK.yl (fun _ _ _ => ?_) _ _ _ ?_) (fun _ _ _ => ?_) (fun _ _ _ => ?_))
    | (with_reducible refine HK.soU ?_)
    | (with_reducible refine HK.soP ?_)
    | (with_reducible refine HK.so1 ?_)
    | (with_reducible refine HK.so2 ?_)
    | (with_reducible refine HK.so3 ?_)
    | (with_reducible refine KC.up ?_ ?_ ?_)
    | (exact kpa_rowP hA hP (by assumption) _)
    | (exact kpa_rowR hA hP (by assumption))
    | (exact fun h => by have := hP _ _ h; omega)
    | (omega)
    | ((obtain ⟨_, _, _, _, _⟩ := hm; omega)))

theorem kpa_F69 (hA : A = 256 ∨ A = 316) (hP : ∀ a q, P a q → a ≠ 2 ∧ a ≠ 3 ∧ a ≠ 5 ∧ a ≠ 6 ∧ a ≠ 7 ∧ ¬ (A ≤ a ∧ a < A + 60 ∧ a ≠ A + 8)) {f : Nat} : ∀ (g : Nat) (x0 : Int) (m : yM), KC A P m0 m → HK (fun x => x.2) (KC A P m0) (F69 f A g x0 m) := by
  intro g
  induction g with
  | zero => intro x0 m _ b e; cases e
  | succ g ih => intro x0 m hm; exact kpa_G69 hA hP (fun x0 m hm => ih x0 m hm) hm

theorem kpa_F70 (hA : A = 256 ∨ A = 316) (hP : ∀ a q, P a q → a ≠ 2 ∧ a ≠ 3 ∧ a ≠ 5 ∧ a ≠ 6 ∧ a ≠ 7 ∧ ¬ (A ≤ a ∧ a < A + 60 ∧ a ≠ A + 8)) {f : Nat} {m : yM} (hm : KC A P m0 m) : HK (fun x => x.2) (KC A P m0) (F70 f A m) := by
  unfold F70
  repeat' (first
    | (with_reducible assumption)
    | (with_reducible refine kpa_F51 hA hP ?_)
    | (with_reducible refine kpa_J70_33 hA hP ?_)
    | (with_reducible refine kpa_F37 hA hP ?_)
    | (with_reducible refine kpa_J70_114 hA hP ?_ ?_)
    | (with_reducible refine kpa_F55 hA hP ?_)
    | (with_reducible refine kpa_F69 hA hP _ _ _ ?_)
    | (with_reducible refine kpa_J70_115 hA hP ?_ ?_)
    | (exact HK.no)
    | (with_reducible refine HK.ite (fun _ => ?_) (fun _ => ?_))
    | (with_reducible refine HK.cU ?_ (fun _ _ => ?_))
    | (with_reducible refine HK.cI ?_ (fun _ _ _ => ?_))
    | (with_reducible refine HK.cP (fun _ _ => ?_))
    | (with_reducible refine HK.cL (HK.yl (fun _ _ _ => ?_) _ _ _ ?_) (fun _ _ _ => ?_) (fun _ _ _ => ?_))
    | (with_reducible refine HK.soU ?_)
    | (with_reducible refine HK.soP ?_)
    | (with_reducible refine HK.so1 ?_)
    | (with_reducible refine HK.so2 ?_)
    | (with_reducible refine HK.so3 ?_)
    | (with_reducible refine KC.up ?_ ?_ ?_)
    | (exact kpa_rowP hA hP (by assumption) _)
    | (exact kpa_rowR hA hP (by assumption))
    | (exact fun h => by have := hP _ _ h; omega)
    | (omega)
    | ((obtain ⟨_, _, _, _, _⟩ := hm; omega)))

theorem kpa_J71_23 (hA : A = 256 ∨ A = 316) (hP : ∀ a q, P a q → a ≠ 2 ∧ a ≠ 3 ∧ a ≠ 5 ∧ a ≠ 6 ∧ a ≠ 7 ∧ ¬ (A ≤ a ∧ a < A + 60 ∧ a ≠ A + 8)) {f : Nat} {xs1 : Int} {m : yM} (hm : KC A P m0 m) : HK (fun x => x.2) (KC A P m0) (J71_23 f A xs1 m) := by
  unfold J71_23
  repeat' (first
    | (with_reducible assumption)
    | (with_reducible refine kpa_F45 hA hP ?_)
    | (exact HK.no)
    | (with_reducible refine HK.ite (fun _ => ?_) (fun _ => ?_))
    | (with_reducible refine HK.cU ?_ (fun _ _ => ?_))
    | (with_reducible refine HK.cI ?_ (fun _ _ _ => ?_))
    | (with_reducible refine HK.cP (fun _ _ => ?_))
    | (with_reducible refine HK.cL (HK.yl (fun _ _ _ => ?_) _ _ _ ?_) (fun _ _ _ => ?_) (fun _ _ _ => ?_))
    | (with_reducible refine HK.soU ?_)
    | (with_reducible refine HK.soP ?_)
    | (with_reducible refine HK.so1 ?_)
    | (with_reducible refine HK.so2 ?_)
    | (with_reducible refine HK.so3 ?_)
    | (with_reducible refine KC.up ?_ ?_ ?_)
    | (exact kpa_rowP hA hP (by assumption) _)
    | (exact kpa_rowR hA hP (by assumption))
    | (exact fun h => by have := hP _ _ h; omega)
    | (omega)
    | ((obtain ⟨_, _, _, _, _⟩ := hm; omega)))

theorem kpa_F71 (hA : A = 256 ∨ A = 316) (hP : ∀ a q, P a q → a ≠ 2 ∧ a ≠ 3 ∧ a ≠ 5 ∧ a ≠ 6 ∧ a ≠ 7 ∧ ¬ (A ≤ a ∧ a < A + 60 ∧ a ≠ A + 8)) {f : Nat} {m : yM} (hm : KC A P m0 m) : HK (fun x => x.2) (KC A P m0) (F71 f A m) := by
  unfold F71
  repeat' (first
    | (with_reducible assumption)
    | (with_reducible refine kpa_J71_23 hA hP ?_)
    | (exact HK.no)
    | (with_reducible refine HK.ite (fun _ => ?_) (fun _ => ?_))
    | (with_reducible refine HK.cU ?_ (fun _ _ => ?_))
    | (with_reducible refine HK.cI ?_ (fun _ _ _ => ?_))
    | (with_reducible refine HK.cP (fun _ _ => ?_))
    | (with_reducible refine HK.cL (HK.yl (fun _ _ _ => ?_) _ _ _ ?_) (fun _ _ _ => ?_) (fun _ _ _ => ?_))
    | (with_reducible refine HK.soU ?_)
    | (with_reducible refine HK.soP ?_)
    | (with_reducible refine HK.so1 ?_)
    | (with_reducible refine HK.so2 ?_)
    | (with_reducible refine HK.so3 ?_)
    | (with_reducible refine KC.up ?_ ?_ ?_)
    | (exact kpa_rowP hA hP (by assumption) _)
    | (exact kpa_rowR hA hP (by assumption))
    | (exact fun h => by have := hP _ _ h; omega)
    | (omega)
    | ((obtain ⟨_, _, _, _, _⟩ := hm; omega)))

theorem kpa_J73_112 (hA : A = 256 ∨ A = 316) (hP : ∀ a q, P a q → a ≠ 2 ∧ a ≠ 3 ∧ a ≠ 5 ∧ a ≠ 6 ∧ a ≠ 7 ∧ ¬ (A ≤ a ∧ a < A + 60)) {f : Nat} {x1 : Int} {m : yM} (hm : KC A P m0 m) : HK mB (KC A P m0) (J73_112 f A x1 m) := by
  unfold J73_112
  repeat' (first
    | (with_reducible assumption)
    | (exact HK.no)
    | (with_reducible refine HK.ite (fun _ => ?_) (fun _ => ?_))
    | (with_reducible refine HK.cU ?_ (fun _ _ => ?_))
    | (with_reducible refine HK.cI ?_ (fun _ _ _ => ?_))
    | (with_reducible refine HK.cP (fun _ _ => ?_))
    | (with_reducible refine HK.cL (HK.yl (fun _ _ _ => ?_) _ _ _ ?_) (fun _ _ _ => ?_) (fun _ _ _ => ?_))
    | (with_reducible refine HK.soU ?_)
    | (with_reducible refine HK.soP ?_)
    | (with_reducible refine HK.so1 ?_)
    | (with_reducible refine HK.so2 ?_)
    | (with_reducible refine HK.so3 ?_)
    | (with_reducible refine KC.up ?_ ?_ ?_)
    | (exact kpa_rowP hA hP (by assumption) _)
    | (exact kpa_rowR hA hP (by assumption))
    | (exact fun h => by have := hP _ _ h; omega)
    | (omega)
    | ((obtain ⟨_, _, _, _, _⟩ := hm; omega)))

theorem kpa_J73_34 (hA : A = 256 ∨ A = 316) (hP : ∀ a q, P a q → a ≠ 2 ∧ a ≠ 3 ∧ a ≠ 5 ∧ a ≠ 6 ∧ a ≠ 7 ∧ ¬ (A ≤ a ∧ a < A + 60)) {f : Nat} {x1 : Int} {a2 : Nat} (ha2 : A + 10 ≤ a2 ∧ a2 < A + 60) {m : yM} (hm : KC A P m0 m) : HK mB (KC A P m0) (J73_34 f A x1 a2 m) := by
  unfold J73_34
  repeat' (first
    | (with_reducible assumption)
    | (with_reducible refine kpa_J73_112 hA hP ?_)
    | (exact HK.no)
    | (with_reducible refine HK.ite (fun _ => ?_) (fun _ => ?_))
    | (with_reducible refine HK.cU ?_ (fun _ _ => ?_))
    | (with_reducible refine HK.cI ?_ (fun _ _ _ => ?_))
    | (with_reducible refine HK.cP (fun _ _ => ?_))
    | (with_reducible refine HK.cL (HK.yl (fun _ _ _ => ?_) _ _ _ ?_) (fun _ _ _ => ?_) (fun _ _ _ => ?_))
    | (with_reducible refine HK.soU ?_)
    | (with_reducible refine HK.soP ?_)
    | (with_reducible refine HK.so1 ?_)
    | (with_reducible refine HK.so2 ?_)
    | (with_reducible refine HK.so3 ?_)
    | (with_reducible refine KC.up ?_ ?_ ?_)
    | (exact kpa_rowP hA hP (by assumption) _)
    | (exact kpa_rowR hA hP (by assumption))
    | (exact fun h => by have := hP _ _ h; omega)
    | (omega)
    | ((obtain ⟨_, _, _, _, _⟩ := hm; omega)))

theorem kpa_J73_66 (hA : A = 256 ∨ A = 316) (hP : ∀ a q, P a q → a ≠ 2 ∧ a ≠ 3 ∧ a ≠ 5 ∧ a ≠ 6 ∧ a ≠ 7 ∧ ¬ (A ≤ a ∧ a < A + 60)) {f : Nat} {x1 : Int} {a2 : Nat} (ha2 : A + 10 ≤ a2 ∧ a2 < A + 60) {m : yM} (hm : KC A P m0 m) : HK mB (KC A P m0) (J73_66 f A x1 a2 m) := by
  unfold J73_66
  repeat' (first
    | (with_reducible assumption)
    | (with_reducible refine kpa_J73_112 hA hP ?_)
    | (exact HK.no)
    | (with_reducible refine HK.ite (fun _ => ?_) (fun _ => ?_))
    | (with_reducible refine HK.cU ?_ (fun _ _ => ?_))
    | (with_reducible refine HK.cI ?_ (fun _ _ _ => ?_))
    | (with_reducible refine HK.cP (fun _ _ => ?_))
    | (with_reducible refine HK.cL (HK.yl (fun _ _ _ => ?_) _ _ _ ?_) (fun _ _ _ => ?_) (fun _ _ _ => ?_))
    | (with_reducible refine HK.soU ?_)
    | (with_reducible refine HK.soP ?_)
    | (with_reducible refine HK.so1 ?_)
    | (with_reducible refine HK.so2 ?_)
    | (with_reducible refine HK.so3 ?_)
    | (with_reducible refine KC.up ?_ ?_ ?_)
    | (exact kpa_rowP hA hP (by assumption) _)
    | (exact kpa_rowR hA hP (by assumption))
    | (exact fun h => by have := hP _ _ h; omega)
    | (omega)
    | ((obtain ⟨_, _, _, _, _⟩ := hm; omega)))

theorem kpa_B73_2 (hA : A = 256 ∨ A = 316) (hP : ∀ a q, P a q → a ≠ 2 ∧ a ≠ 3 ∧ a ≠ 5 ∧ a ≠ 6 ∧ a ≠ 7 ∧ ¬ (A ≤ a ∧ a < A + 60)) {f : Nat} {x1 : Int} {m : yM} (hm : KC A P m0 m) : HK mB (KC A P m0) (B73_2 f A x1 m) := by
  unfold B73_2
  repeat' (first
    | (with_reducible assumption)
    | (with_reducible refine kpa_J73_34 hA hP ?_ ?_)
    | (with_reducible refine kpa_J73_66 hA hP ?_ ?_)
    | (with_reducible refine kpa_J73_112 hA hP ?_)
    | (exact HK.no)
    | (with_reducible refine HK.ite (fun _ => ?_) (fun _ => ?_))
    | (with_reducible refine HK.cU ?_ (fun _ _ => ?_))
    | (with_reducible refine HK.cI ?_ (fun _ _ _ => ?_))
    | (with_reducible refine HK.cP (fun _ _ => ?_))
    | (with_reducible refine HK.cL (HK.yl (fun _ _ _ => ?_) _ _ _ ?_) (fun _ _ _ => ?_) (fun _ _ _ => ?_))
    | (with_reducible refine HK.soU ?_)
    | (with_reducible refine HK.soP ?_)
    | (with_reducible refine HK.so1 ?_)
    | (with_reducible refine HK.so2 ?_)
    | (with_reducible refine HK.so3 ?_)
    | (with_reducible refine KC.up ?_ ?_ ?_)
    | (exact kpa_rowP hA hP (by assumption) _)
    | (exact kpa_rowR hA hP (by assumption))
    | (exact fun h => by have := hP _ _ h; omega)
    | (omega)
    | ((obtain ⟨_, _, _, _, _⟩ := hm; omega)))

theorem kpa_F73 (hA : A = 256 ∨ A = 316) (hP : ∀ a q, P a q → a ≠ 2 ∧ a ≠ 3 ∧ a ≠ 5 ∧ a ≠ 6 ∧ a ≠ 7 ∧ ¬ (A ≤ a ∧ a < A + 60)) {f : Nat} {m : yM} (hm : KC A P m0 m) : HK (fun x => x.2) (KC A P m0) (F73 f A m) := by
  unfold F73
  repeat' (first
    | (with_reducible assumption)
    | (with_reducible refine kpa_B73_2 hA hP ?_)
    | (exact HK.no)
    | (with_reducible refine HK.ite (fun _ => ?_) (fun _ => ?_))
    | (with_reducible refine HK.cU ?_ (fun _ _ => ?_))
    | (with_reducible refine HK.cI ?_ (fun _ _ _ => ?_))
    | (with_reducible refine HK.cP (fun _ _ => ?_))
    | (with_reducible refine HK.cL (HK.yl (fun _ _ _ => ?_) _ _ _ ?_) (fun _ _ _ => ?_) (fun _ _ _ => ?_))
    | (with_reducible refine HK.soU ?_)
    | (with_reducible refine HK.soP ?_)
    | (with_reducible refine HK.so1 ?_)
    | (with_reducible refine HK.so2 ?_)
    | (with_reducible refine HK.so3 ?_)
    | (with_reducible refine KC.up ?_ ?_ ?_)
    | (exact kpa_rowP hA hP (by assumption) _)
    | (exact kpa_rowR hA hP (by assumption))
    | (exact fun h => by have := hP _ _ h; omega)
    | (omega)
    | ((obtain ⟨_, _, _, _, _⟩ := hm; omega)))

theorem kpa_J74_133 (hA : A = 256 ∨ A = 316) (hP : ∀ a q, P a q → a ≠ 2 ∧ a ≠ 3 ∧ a ≠ 5 ∧ a ≠ 6 ∧ a ≠ 7 ∧ ¬ (A ≤ a ∧ a < A + 60 ∧ a ≠ A + 8)) {f : Nat} {x4 : Int} {x5 : Int} {m : yM} (hm : KC A P m0 m) : HK mB (KC A P m0) (J74_133 f A x4 x5 m) := by
  unfold J74_133
  repeat' (first
    | (with_reducible assumption)
    | (exact HK.no)
    | (with_reducible refine HK.ite (fun _ => ?_) (fun _ => ?_))
    | (with_reducible refine HK.cU ?_ (fun _ _ => ?_))
    | (with_reducible refine HK.cI ?_ (fun _ _ _ => ?_))
    | (with_reducible refine HK.cP (fun _ _ => ?_))
    | (with_reducible refine HK.cL (HK.yl (fun _ _ _ => ?_) _ _ _ ?_) (fun _ _ _ => ?_) (fun _ _ _ => ?_))
    | (with_reducible refine HK.soU ?_)
    | (with_reducible refine HK.soP ?_)
    | (with_reducible refine HK.so1 ?_)
    | (with_reducible refine HK.so2 ?_)
    | (with_reducible refine HK.so3 ?_)
    | (with_reducible refine KC.up ?_ ?_ ?_)
    | (exact kpa_rowP hA hP (by assumption) _)
    | (exact kpa_rowR hA hP (by assumption))
    | (exact fun h => by have := hP _ _ h; omega)
    | (omega)
    | ((obtain ⟨_, _, _, _, _⟩ := hm; omega)))

theorem kpa_B74_40 (hA : A = 256 ∨ A = 316) (hP : ∀ a q, P a q → a ≠ 2 ∧ a ≠ 3 ∧ a ≠ 5 ∧ a ≠ 6 ∧ a ≠ 7 ∧ ¬ (A ≤ a ∧ a < A + 60 ∧ a ≠ A + 8)) {f : Nat} {x4 : Int} {x5 : Int} {m : yM} (hm : KC A P m0 m) : HK mB (KC A P m0) (B74_40 f A x4 x5 m) := by
  unfold B74_40
  repeat' (first
    | (with_reducible assumption)
    | (with_reducible refine kpa_F49 hA hP ?_)
    | (with_reducible refine kpa_J74_133 hA hP ?_)
    | (with_reducible refine kpa_F70 hA hP ?_)
    | (with_reducible refine kpa_F71 hA hP ?_)
    | (with_reducible refine kpa_F43 hA hP ?_)
    | (exact HK.no)
    | (with_reducible refine HK.ite (fun _ => ?_) (fun _ => ?_))
    | (with_reducible refine HK.cU ?_ (fun _ _ => ?_))
    | (with_reducible refine HK.cI ?_ (fun _ _ _ => ?_))
    | (with_reducible refine HK.cP (fun _ _ => ?_))
    | (with_reducible refine HK.cL (HK.yl (fun _ _ _ => ?_) _ _ _ ?_) (fun _ _ _ => ?_) (fun _ _ _ => ?_))
    | (with_reducible refine HK.soU ?_)
    | (with_reducible refine HK.soP ?_)
    | (with_reducible refine HK.so1 ?_)
    | (with_reducible refine HK.so2 ?_)
    | (with_reducible refine HK.so3 ?_)
    | (with_reducible refine KC.up ?_ ?_ ?_)
    | (exact kpa_rowP hA hP (by assumption) _)
    | (exact kpa_rowR hA hP (by assumption))
    | (exact fun h => by have := hP _ _ h; omega)
    | (omega)
    | ((obtain ⟨_, _, _, _, _⟩ := hm; omega)))

theorem kpa_J74_139 (hA : A = 256 ∨ A = 316) (hP : ∀ a q, P a q → a ≠ 2 ∧ a ≠ 3 ∧ a ≠ 5 ∧ a ≠ 6 ∧ a ≠ 7 ∧ ¬ (A ≤ a ∧ a < A + 60)) {f : Nat} {x4 : Int} {m : yM} (hm : KC A P m0 m) : HK (fun x => x.2) (KC A P m0) (J74_139 f A x4 m) := by
  unfold J74_139
  repeat' (first
    | (with_reducible assumption)
    | (with_reducible refine kpa_F73 hA hP ?_)
    | (exact HK.no)
    | (with_reducible refine HK.ite (fun _ => ?_) (fun _ => ?_))
    | (with_reducible refine HK.cU ?_ (fun _ _ => ?_))
    | (with_reducible refine HK.cI ?_ (fun _ _ _ => ?_))
    | (with_reducible refine HK.cP (fun _ _ => ?_))
    | (with_reducible refine HK.cL (HK.yl (fun _ _ _ => ?_) _ _ _ ?_) (fun _ _ _ => ?_) (fun _ _ _ => ?_))
    | (with_reducible refine HK.soU ?_)
    | (with_reducible refine HK.soP ?_)
    | (with_reducible refine HK.so1 ?_)
    | (with_reducible refine HK.so2 ?_)
    | (with_reducible refine HK.so3 ?_)
    | (with_reducible refine KC.up ?_ ?_ ?_)
    | (exact kpa_rowP hA hP (by assumption) _)
    | (exact kpa_rowR hA hP (by assumption))
    | (exact fun h => by have := hP _ _ h; omega)
    | (omega)
    | ((obtain ⟨_, _, _, _, _⟩ := hm; omega)))

end FRpa
end
section
/-! READING A TEXT, whole: the same fault -/
section RDW
variable {A p : Nat} {mc mm mc' m2 : yM}
theorem clear_c {f : Nat} {m m1 : yM} (h : F30 f A m = some m1) : (∀ a q, ¬ (a = A ∧ 9 ≤ q ∧ q ≤ 16) → m1 a q = m a q) ∧ m1 A 9 = 0 ∧ m1 A 10 = 0 ∧ m1 A 11 = 0 ∧ m1 A 12 = 0 ∧ m1 A 13 = 0 ∧ m1 A 14 = 1 ∧ m1 A 15 = 0 ∧ m1 A 16 = 0 := by
  unfold F30 at h
  cases h
  refine ⟨fun a q hq => ?_, ?_, ?_, ?_, ?_, ?_, ?_, ?_, ?_⟩
  · rw [yup_ne (by omega), yup_ne (by omega), yup_ne (by omega), yup_ne (by omega), yup_ne (by omega), yup_ne (by omega), yup_ne (by omega), yup_ne (by omega)]
  · rw [yup_nk (by decide), yup_nk (by decide), yup_nk (by decide), yup_nk (by decide), yup_nk (by decide), yup_nk (by decide), yup_nk (by decide), yup_eq]
  · rw [yup_nk (by decide), yup_nk (by decide), yup_nk (by decide), yup_nk (by decide), yup_nk (by decide), yup_nk (by decide), yup_eq]
  · rw [yup_nk (by decide), yup_nk (by decide), yup_nk (by decide), yup_nk (by decide), yup_nk (by decide), yup_eq]
  · rw [yup_nk (by decide), yup_nk (by decide), yup_nk (by decide), yup_nk (by decide), yup_eq]
  · rw [yup_nk (by decide), yup_nk (by decide), yup_nk (by decide), yup_eq]
  · rw [yup_nk (by decide), yup_nk (by decide), yup_eq]
  · rw [yup_nk (by decide), yup_eq]
  · rw [yup_eq]
theorem PRG.z (h9 : mc A 9 = 0) (h10 : mc A 10 = 0) (h11 : mc A 11 = 0) (h12 : mc A 12 = 0) (h13 : mc A 13 = 0) (h14 : mc A 14 = 1) (h15 : mc A 15 = 0) (h16 : mc A 16 = 0) (g : ∀ b, 383 ≤ b → b ≤ 390 → b ≠ 388 → mm b p = 0) (g8 : mm 388 p = 1) (g9 : mm 376 9 = 0) (g17 : mm 376 17 = 0) (g400 : mm 400 (12 * p) = 0) : PRG A p 0 0 0 0 mc mm := by
  have a3 := g 383 (by omega) (by omega) (by omega)
  have a4 := g 384 (by omega) (by omega) (by omega)
  have a5 := g 385 (by omega) (by omega) (by omega)
  have a6 := g 386 (by omega) (by omega) (by omega)
  have a7 := g 387 (by omega) (by omega) (by omega)
  have a9 := g 389 (by omega) (by omega) (by omega)
  have a10 := g 390 (by omega) (by omega) (by omega)
  refine ⟨⟨by omega, by omega, by omega, fun k hk => by omega⟩, ⟨by omega, by omega, by omega, fun k hk => by omega⟩, fun k hk => by omega, ⟨by omega, by omega, by omega, fun k hk => by omega⟩, ⟨by omega, by omega, by omega, by omega, by omega, by omega, by omega, by omega, by omega⟩, by omega, ⟨by omega, by omega, by omega⟩, ⟨by omega, by omega, by omega, by omega, by omega, by omega, by omega, g400, fun c hc => by omega, fun j hj => by omega, fun j hj => by omega⟩, rfl, rfl, rfl⟩
def RO (f g A p : Nat) (mc mm mm' : yM) (r : Int) (mc' : yM) : Prop := (0 ≤ r ∧ mm' 376 8 = r ∧ (((∀ q, mc' (A + 8) q = mc (A + 8) q) ∧ (∀ a q, ¬ arM p a q → mm' a q = mm a q)) ∨ ∃ (k s o a : Nat) (M N : yM), PRG A p k s o a M N ∧ (∀ q, M (A + 8) q = mc (A + 8) q) ∧ F73 f A M = some (r, mc') ∧ F141 g p N = some mm' ∧ (∀ a q, ¬ arM p a q → N a q = mm a q))) ∨ (r = -1 ∧ mm' 376 8 = -1 ∧ ∃ (k s o a : Nat) (M N : yM), PRG A p k s o a M N ∧ 1 ≤ M A 9 ∧ N 376 8 = -1 ∧ F73 f A M = some (-1, mc') ∧ F141 g p N = some mm' ∧ (∀ q, M (A + 8) q = mc (A + 8) q))
theorem read_m {g : Nat} {b : Int} (hp : p ≤ 1) (h18 : mm 376 18 = 1 - (p : Int)) (h : F152 g mm = some (b, m2)) : ∃ m0 m1 m3 H fin, (∀ a q, ¬ arM p a q → m0 a q = mm a q) ∧ (∀ b, 383 ≤ b → b ≤ 390 → b ≠ 388 → m0 b p = 0) ∧ m0 388 p = 1 ∧ m0 376 9 = 0 ∧ m0 376 17 = 0 ∧ m0 400 (12 * p) = 0 ∧ m0 376 6 = 0 ∧ m0 376 8 = -1 ∧ F99 g m0 = some m1 ∧ F119 g m1 = some m3 ∧ MRest g p g H m3 fin ∧ J152_120 g p fin = some (b, m2) := by
  have e96 : F96 mm = p := by
    unfold F96
    rw [h18, wr_i (by omega) (by omega)]
    omega
  unfold F152 at h
  rw [e96, Int.toNat_natCast, wr_i (x := 12 * (p : Int)) (by omega) (by omega), show (12 * (p : Int)).toNat = 12 * p by omega] at h
  replace h := bU_e h
  obtain ⟨m1, e1, h⟩ := h
  replace h := bU_e h
  obtain ⟨m5, e2, h⟩ := h
  unfold F140 at e2
  replace e2 := bU_e e2
  obtain ⟨m3, e3, e2⟩ := e2
  have key : ∃ fin, yloop (fun (_ : Unit) ml => B152_99 g p ml) g () m5 = some (.inl ((), fin)) ∧ J152_120 g p fin = some (b, m2) := by
    rcases bL_e h with ⟨l, m, e4, e5⟩ | ⟨l, m, e4, e5⟩
    · exact ⟨m, e4, e5⟩
    · exfalso
      obtain ⟨l', m', -, e6⟩ := yloop_inv (fun _ _ => True) (fun _ _ _ _ _ _ => trivial) _ _ _ _ trivial e4
      unfold B152_99 at e6
      rcases ite1 e6 with ⟨-, e6⟩ | ⟨-, e6⟩
      · rcases ite1 e6 with ⟨-, e6⟩ | ⟨-, e6⟩
        · cases e6
        · replace e6 := bU_e e6
          obtain ⟨m7, -, e6⟩ := e6
          cases e6
      · cases e6
  obtain ⟨fin, e4, e5⟩ := key
  refine ⟨_, m1, m3, g, fin, ?_, ?_, ?_, ?_, ?_, ?_, ?_, ?_, e1, e3, ⟨m5, e2, e4⟩, e5⟩
  · intro a q ha
    have n1 : ∀ b q', arM p b q' → ¬ (a = b ∧ q = q') := fun b q' hb e => ha (by rw [e.1, e.2]; exact hb)
    rw [yup_ne (n1 _ _ (by unfold arM; omega)), yup_ne (n1 _ _ (by unfold arM; omega)), yup_ne (n1 _ _ (by unfold arM; omega)), yup_ne (n1 _ _ (by unfold arM; omega)), yup_ne (n1 _ _ (by unfold arM; omega)), yup_ne (n1 _ _ (by unfold arM; omega)), yup_ne (n1 _ _ (by unfold arM; omega)), yup_ne (n1 _ _ (by unfold arM; omega)), yup_ne (n1 _ _ (by unfold arM; omega)), yup_ne (n1 _ _ (by unfold arM; omega)), yup_ne (n1 _ _ (by unfold arM; omega)), yup_ne (n1 _ _ (by unfold arM; omega)), yup_ne (n1 _ _ (by unfold arM; omega))]
  · intro b b1 b2 b3
    rcases (show b = 383 ∨ b = 384 ∨ b = 385 ∨ b = 386 ∨ b = 387 ∨ b = 389 ∨ b = 390 by omega) with rfl | rfl | rfl | rfl | rfl | rfl | rfl
    · rw [yup_na (by decide), yup_na (by decide), yup_na (by decide), yup_na (by decide), yup_na (by decide), yup_na (by decide), yup_na (by decide), yup_na (by decide), yup_na (by decide), yup_na (by decide), yup_na (by decide), yup_na (by decide), yup_eq]
    · rw [yup_na (by decide), yup_na (by decide), yup_na (by decide), yup_na (by decide), yup_na (by decide), yup_na (by decide), yup_na (by decide), yup_na (by decide), yup_na (by decide), yup_na (by decide), yup_na (by decide), yup_eq]
    · rw [yup_na (by decide), yup_na (by decide), yup_na (by decide), yup_na (by decide), yup_na (by decide), yup_na (by decide), yup_na (by decide), yup_na (by decide), yup_na (by decide), yup_na (by decide), yup_eq]
    · rw [yup_na (by decide), yup_na (by decide), yup_na (by decide), yup_na (by decide), yup_na (by decide), yup_na (by decide), yup_na (by decide), yup_na (by decide), yup_na (by decide), yup_eq]
    · rw [yup_na (by decide), yup_na (by decide), yup_na (by decide), yup_na (by decide), yup_na (by decide), yup_na (by decide), yup_na (by decide), yup_na (by decide), yup_eq]
    · rw [yup_na (by decide), yup_na (by decide), yup_na (by decide), yup_na (by decide), yup_na (by decide), yup_na (by decide), yup_eq]
    · rw [yup_na (by decide), yup_na (by decide), yup_na (by decide), yup_na (by decide), yup_na (by decide), yup_eq]
  · rw [yup_na (by decide), yup_na (by decide), yup_na (by decide), yup_na (by decide), yup_na (by decide), yup_na (by decide), yup_na (by decide), yup_eq]
  · rw [yup_nk (by decide), yup_nk (by decide), yup_nk (by decide), yup_eq]
  · rw [yup_nk (by decide), yup_nk (by decide), yup_eq]
  · rw [yup_na (by decide), yup_na (by decide), yup_na (by decide), yup_na (by decide), yup_eq]
  · rw [yup_nk (by decide), yup_eq]
  · rw [yup_eq]
theorem parse_r {f g : Nat} {len r b : Int} (h0 : 0 ≤ len ∧ len ≤ 320) (hA : A = 256 ∨ A = 316) (hp : p ≤ 1) (h18 : mm 376 18 = 1 - (p : Int)) (hK : KW mc) (ht : ∀ t : Int, 0 ≤ t → t < len → mm 377 t.toNat = mc 1 t.toNat ∧ 32 ≤ mc 1 t.toNat ∧ mc 1 t.toNat ≤ 126) (hl : mm 376 1 = len) (h1 : F74 f len A mc = some (r, mc')) (h2 : F152 g mm = some (b, m2)) : (∀ a q, a ≠ 2 → a ≠ 3 → a ≠ 5 → a ≠ 6 → a ≠ 7 → ¬ (A ≤ a ∧ a < A + 60) → mc' a q = mc a q) ∧ ∃ mm', J152_132 g p mm' = some (b, m2) ∧ (∀ a q, ¬ arM p a q → a ≠ 400 → a ≠ 402 → a ≠ 403 → mm' a q = mm a q) ∧ RO f g A p mc mm mm' r mc' := by
  obtain ⟨m0, m1, m3, H, fin, k1, k2, k3, k4, k5, k5b, k6, k7, k8, k9, k10, k11⟩ := read_m hp h18 h2
  unfold F74 at h1
  replace h1 := bU_e h1
  obtain ⟨c1, e1, h1⟩ := h1
  obtain ⟨w0, w9, w10, w11, w12, w13, w14, w15, w16⟩ := clear_c e1
  replace h1 := bU_e h1
  obtain ⟨c2, e2, h1⟩ := h1
  have c1t : ∀ a q, a ≠ 2 → ¬ (A ≤ a ∧ a < A + 60) → c1 a q = mc a q := fun a q z1 z2 => by rw [w0 a q (by omega), yup_na z1]
  obtain ⟨⟨n, en, T⟩, w2⟩ := F36_r (m := c1) h0.1 h0.2 (fun t t1 t2 => by rw [c1t _ _ (by omega) (by omega)]; exact (ht t t1 t2).2) (fun j j1 j2 => by rw [c1t _ _ (by omega) (by omega)]; exact hK j j1 j2) e2
  replace h1 := bI_e h1
  obtain ⟨r1, c3, e3, h1⟩ := h1
  have hP8 : ∀ a q : Nat, (fun (a _ : Nat) => a = A + 8) a q → a ≠ 2 ∧ a ≠ 3 ∧ a ≠ 5 ∧ a ≠ 6 ∧ a ≠ 7 ∧ ¬ (A ≤ a ∧ a < A + 60 ∧ a ≠ A + 8) := fun a q h => by
    have h : a = A + 8 := h
    omega
  have k81 : KC A (fun (a _ : Nat) => a = A + 8) mc c1 := ⟨fun a q ha => by
    have ha : a = A + 8 := ha
    rw [w0 a q (by omega), yup_na (by omega)], by omega, by omega, by omega, by omega⟩
  have k82 : KC A (fun (a _ : Nat) => a = A + 8) mc c2 := kpa_F36 hA hP8 k81 _ e2
  have k83 : KC A (fun (a _ : Nat) => a = A + 8) mc c3 := kpa_F45 hA hP8 ((KC.up (a := 2) (q := 2) (v := 0) k82 (fun h => by have h : 2 = A + 8 := h; omega) (by omega)).up (a := 2) (q := 3) (v := 0) (fun h => by have h : 2 = A + 8 := h; omega) (by omega)) _ e3
  have c2t : ∀ a q, a ≠ 2 → a ≠ 3 → a ≠ 5 → a ≠ 6 → a ≠ 7 → yup (yup c2 2 2 0) 2 3 0 a q = c1 a q := fun a q z1 z2 z3 z4 z5 => by rw [yup_na z1, yup_na z1, w2 a q z2 z3 z4 z5]
  have hC : CT (c2 5) (c2 6) (c2 7) 0 (yup (yup c2 2 2 0) 2 3 0) := ⟨by rw [yup_nk (by decide), yup_eq]; rfl, fun j => by rw [yup_na (by decide), yup_na (by decide)], fun j => by rw [yup_na (by decide), yup_na (by decide)], fun j => by rw [yup_na (by decide), yup_na (by decide)]⟩
  have t0 : ∀ t : Int, 0 ≤ t → t < len → m0 377 t.toNat = c1 1 t.toNat := fun t z1 z2 => by rw [k1 377 _ (by unfold arM; omega), c1t _ _ (by omega) (by omega)]; exact (ht t z1 z2).1
  have m01 : m0 376 1 = len := by rw [k1 376 1 (by unfold arM; omega)]; exact hl
  obtain ⟨f9, hk9⟩ := F99_r T h0.2 m01 t0 (i := 0) (by omega) (by rw [k6, T.1]) k8
  have hM : MT (fun t => c1 1 t.toNat) len n en (c2 5) (c2 6) (c2 7) p 0 m1 := ⟨by rw [f9 376 1 (by omega)]; exact m01, fun t z1 z2 => by rw [f9 377 _ (by omega)]; exact t0 t z1 z2, by rw [f9 376 18 (by omega), k1 376 18 (by unfold arM; omega)]; exact h18, by rw [f9 376 8 (by omega)]; exact k7, hk9⟩
  have e5A : ∀ q, yup (yup c2 2 2 0) 2 3 0 A q = c1 A q := fun q => c2t A q (by omega) (by omega) (by omega) (by omega) (by omega)
  have hP : PRG A p 0 0 0 0 (yup (yup c2 2 2 0) 2 3 0) m1 := PRG.z (by rw [e5A]; exact w9) (by rw [e5A]; exact w10) (by rw [e5A]; exact w11) (by rw [e5A]; exact w12) (by rw [e5A]; exact w13) (by rw [e5A]; exact w14) (by rw [e5A]; exact w15) (by rw [e5A]; exact w16) (fun b b1 b2 b3 => by rw [f9 b p (by omega)]; exact k2 b b1 b2 b3) (by rw [f9 388 p (by omega)]; exact k3) (by rw [f9 376 9 (by omega)]; exact k4) (by rw [f9 376 17 (by omega)]; exact k5) (by rw [f9 400 _ (by omega)]; exact k5b)
  have hP0 := hP
  obtain ⟨p1, p2, p3, -⟩ := hP
  have x23 : yup (yup c2 2 2 0) 2 3 0 2 3 = 0 := yup_eq _ _ _ _
  generalize yup (yup c2 2 2 0) 2 3 0 = mc0 at *
  have fmc : ∀ {M : yM}, FrC A mc0 M → (∀ a q, a ≠ 2 → a ≠ 3 → a ≠ 5 → a ≠ 6 → a ≠ 7 → ¬ (A ≤ a ∧ a < A + 60) → M a q = mc a q) := fun hF a q z1 z2 z3 z4 z5 z6 => by rw [hF a q z1 z6, c2t a q z1 z2 z3 z4 z5, c1t a q z1 z6]
  have fmm : ∀ {N : yM}, FrM p m1 N → (∀ a q, ¬ arM p a q → N a q = mm a q) := fun hF a q z => by rw [hF a q z, f9 a q (fun e => z (Or.inl ⟨e.1, by omega⟩)), k1 a q z]
  obtain ⟨fc, fm, hr⟩ := head_r T h0.2 hA hp hC hM p1 e3 k9
  -- what the class and the model do behind the loops
  have bad : ∀ {M : yM} {x : Int}, FrC A mc0 M → FrM p m1 fin → Flt M fin → (∀ q, M (A + 8) q = mc (A + 8) q) → J74_139 f A 0 M = some (r, mc') → ((∀ a q, a ≠ 2 → a ≠ 3 → a ≠ 5 → a ≠ 6 → a ≠ 7 → ¬ (A ≤ a ∧ a < A + 60) → mc' a q = mc a q) ∧ ∃ mm', J152_132 g p mm' = some (b, m2) ∧ (∀ a q, ¬ arM p a q → a ≠ 400 → a ≠ 402 → a ≠ 403 → mm' a q = mm a q) ∧ RO f g A p mc mm mm' r mc') := by
    intro M x hF1 hF2 hF3 h8 e
    unfold J74_139 at e
    rw [if_pos rfl] at e
    cases e
    unfold J152_120 at k11
    have q := hF3.2
    rw [if_neg (by omega)] at k11
    exact ⟨fmc hF1, fin, k11, fun a q z _ _ _ => fmm hF2 a q z, Or.inl ⟨by rw [hF3.1]; exact q, hF3.1.symm, Or.inl ⟨h8, fmm hF2⟩⟩⟩
  have key : ∃ l M, CLM f A f (r1, 0) c3 = some (.inl (l, M)) ∧ J74_139 f A l.1 M = some (r, mc') := by
    rcases bL_e h1 with ⟨l, M, e4, e5⟩ | ⟨l, M, e4, e5⟩
    · exact ⟨l, M, e4, e5⟩
    · exfalso
      obtain ⟨l', m', -, e6⟩ := yloop_inv (fun _ _ => True) (fun _ _ _ _ _ _ => trivial) _ _ _ _ trivial e4
      unfold B74_40 J74_133 at e6
      rcases ite1 e6 with ⟨-, e6⟩ | ⟨-, e6⟩
      · rcases ite1 e6 with ⟨-, e6⟩ | ⟨-, e6⟩
        · cases e6
        rcases ite1 e6 with ⟨-, e6⟩ | ⟨-, e6⟩
        · rcases ite1 e6 with ⟨-, e6⟩ | ⟨-, e6⟩
          · obtain ⟨_, _, -, e6⟩ := bI_e e6; cases e6
          rcases ite1 e6 with ⟨-, e6⟩ | ⟨-, e6⟩
          · obtain ⟨_, _, -, e6⟩ := bI_e e6; cases e6
          rcases ite1 e6 with ⟨-, e6⟩ | ⟨-, e6⟩
          · obtain ⟨_, _, -, e6⟩ := bI_e e6; cases e6
          · obtain ⟨_, _, -, e6⟩ := bI_e e6; cases e6
        · cases e6
      · cases e6
  obtain ⟨l, M, e4, e5⟩ := key
  have m8 : ∀ q, M (A + 8) q = mc (A + 8) q := fun q => (show KC A (fun (a _ : Nat) => a = A + 8) mc M from HK.yl (fun (l : Int × Int) m hm => kpa_B74_40 (f := f) (x4 := l.1) (x5 := l.2) hA hP8 hm) f (r1, 0) c3 k83 _ e4).1 (A + 8) q rfl
  rcases hr with ⟨rfl, hF⟩ | ⟨rfl, -, i', i1, d1, d2, d3, d4, d5, d6, d7, d8⟩
  · have z := k10.w hF.2
    subst z
    have z2 := CLM.z (Or.inl rfl) e4
    cases z2
    exact bad (x := 0) fc fm hF m8 e5
  · have E9 : c3 A 9 = 1 := by rw [d4, e5A]; omega
    have hP3 : PRG A p 0 0 0 0 c3 m3 := hP0.fr d3 (p2.fr (d5 _ _ (by omega) (by omega) (by omega) (by omega) (by omega)) (fun q => d5 _ _ (by omega) (by omega) (by omega) (by omega) (by omega)) (fun b q hb => d7 _ _ (by omega) (by omega) (by omega) (by omega) (by omega))) (p3.hd d8 (d5 _ _ (by omega) (by omega) (by omega) (by omega) (by omega))) (by omega) (fun b q hb => d5 _ _ (by omega) (by omega) (by omega) (by omega) (by omega)) (fun b q hb => d7 _ _ (by omega) (by omega) (by omega) (by omega) (by omega))
    obtain ⟨x4, x5, M', g1, g2, g3, g4⟩ := cls_r T h0.2 hA hp f i' 0 0 0 0 g H 0 c3 m3 fin _ d1 d2 hP3 (by omega) (by rw [d6]; exact x23) (by omega) (by omega) e4 k10
    cases g1
    rcases g4 with ⟨rfl, hF⟩ | ⟨rfl, g5, g6, k, s, o, a, hPf⟩
    · exact bad (x := 0) (fc.tr g2) (fm.tr g3) hF m8 e5
    · have e5' : J74_139 f A 1 M = some (r, mc') := e5
      unfold J74_139 at e5'
      rw [if_neg (by decide)] at e5'
      replace e5' := bI_e e5'
      obtain ⟨r7, M7, e7, e8⟩ := e5'
      cases e8
      unfold J152_120 at k11
      rw [if_pos (by omega)] at k11
      replace k11 := bU_e k11
      obtain ⟨mm', e9, k11⟩ := k11
      obtain ⟨f1, f2, f3⟩ := F73_r hp hPf g5 e7 e9
      refine ⟨fun a q z1 z2 z3 z4 z5 z6 => ?_, mm', k11, fun a q z z1 z2 z3 => ?_, ?_⟩
      · rw [f1 a q (by omega) (by omega) (by omega)]
        exact fmc (fc.tr g2) a q z1 z2 z3 z4 z5 z6
      · rw [f2 a q (fun e => z (Or.inl ⟨e.1, by omega⟩)) z1 z2 z3]
        exact fmm (fm.tr g3) a q z
      · rcases f3 with f3 | ⟨f3, f4⟩
        · exact Or.inl ⟨f3.1, f3.2, Or.inr ⟨k, s, o, a, M, fin, hPf, m8, e7, e9, fmm (fm.tr g3)⟩⟩
        · subst f3
          exact Or.inr ⟨rfl, f4, k, s, o, a, M, fin, hPf, g6, g5, e7, e9, m8⟩
end RDW
end
section
/-! READING, for every claim: what the class and the model do around the two readers -/
section CM
variable {m m1 m2 : yM} {f g : Nat}
theorem KP.tr {P : Nat → Nat → Prop} (h : KP P m m1) (h' : KP P m1 m2) : KP P m m2 := fun a q ha => (h' a q ha).trans (h a q ha)
theorem KP.rf {P : Nat → Nat → Prop} : KP P m m := fun _ _ _ => rfl
theorem pA_d {x y : Int} (h : (x = 0 ∧ y = 1) ∨ (x = 1 ∧ y = 0)) : (pA x = 256 ∧ pA y = 316) ∨ (pA x = 316 ∧ pA y = 256) := by
  rcases h with ⟨rfl, rfl⟩ | ⟨rfl, rfl⟩
  · exact Or.inl ⟨rfl, rfl⟩
  · exact Or.inr ⟨rfl, rfl⟩
theorem F74_fr {A : Nat} {len r : Int} (hA : A = 256 ∨ A = 316) (h : F74 f len A m = some (r, m1)) : ∀ a q, a ≠ 2 → a ≠ 3 → a ≠ 5 → a ≠ 6 → a ≠ 7 → ¬ (A ≤ a ∧ a < A + 60) → m1 a q = m a q := by
  have hP : ∀ a q : Nat, (fun (a _ : Nat) => a ≠ 2 ∧ a ≠ 3 ∧ a ≠ 5 ∧ a ≠ 6 ∧ a ≠ 7 ∧ ¬ (A ≤ a ∧ a < A + 60)) a q → a ≠ 2 ∧ a ≠ 3 ∧ a ≠ 5 ∧ a ≠ 6 ∧ a ≠ 7 ∧ ¬ (A ≤ a ∧ a < A + 60) := fun a q h => h
  have hW : ∀ a q : Nat, (fun (a _ : Nat) => a ≠ 2 ∧ a ≠ 3 ∧ a ≠ 5 ∧ a ≠ 6 ∧ a ≠ 7 ∧ ¬ (A ≤ a ∧ a < A + 60)) a q → a ≠ 2 ∧ a ≠ 3 ∧ a ≠ 5 ∧ a ≠ 6 ∧ a ≠ 7 ∧ ¬ (A ≤ a ∧ a < A + 60 ∧ a ≠ A + 8) := fun a q h => ⟨h.1, h.2.1, h.2.2.1, h.2.2.2.1, h.2.2.2.2.1, fun z => h.2.2.2.2.2 ⟨z.1, z.2.1⟩⟩
  unfold F74 at h
  replace h := bU_e h
  obtain ⟨c1, e1, h⟩ := h
  obtain ⟨w0, w9, w10, w11, w12, w13, w14, w15, w16⟩ := clear_c e1
  have k1 : KC A (fun (a _ : Nat) => a ≠ 2 ∧ a ≠ 3 ∧ a ≠ 5 ∧ a ≠ 6 ∧ a ≠ 7 ∧ ¬ (A ≤ a ∧ a < A + 60)) m c1 := ⟨fun a q ha => by
    obtain ⟨z1, z2, z3, z4, z5, z6⟩ := ha
    rw [w0 a q (by omega), yup_na z1], by omega, by omega, by omega, by omega⟩
  replace h := bU_e h
  obtain ⟨c2, e2, h⟩ := h
  have k2 := kpa_F36 hA hW k1 _ e2
  replace h := bI_e h
  obtain ⟨r3, c3, e3, h⟩ := h
  have k3 := kpa_F45 hA hW ((KC.up (a := 2) (q := 2) (v := 0) k2 (fun h => absurd rfl h.1) (by omega)).up (a := 2) (q := 3) (v := 0) (fun h => absurd rfl h.1) (by omega)) _ e3
  have kl := HK.yl (fun (l : Int × Int) m hm => kpa_B74_40 (f := f) (x4 := l.1) (x5 := l.2) hA hW hm) f (r3, 0) c3 k3
  intro a q z1 z2 z3 z4 z5 z6
  rcases bL_e h with ⟨l, m', e4, e5⟩ | ⟨l, m', e4, e5⟩
  · have k4 := kl _ e4
    exact (kpa_J74_139 hA hP k4 _ e5).1 a q ⟨z1, z2, z3, z4, z5, z6⟩
  · have k4 := kl _ e4
    cases e5
    exact k4.1 a q ⟨z1, z2, z3, z4, z5, z6⟩
/-- the class's read -/
theorem F95_r {r : Int} (h : F95 f m = some (r, m1)) : ∃ r7 m7, F74 f (m 0 6) (pA (m 0 5)) m = some (r7, m7) ∧ ((r7 ≠ -1 ∧ m1 = yup m7 0 7 r7) ∨ (r7 = -1 ∧ ∀ a q, a < 8 ∨ 256 ≤ a → a ≠ 413 → m1 a q = yup (yup (yup m7 0 7 r7) 0 4 (pX (pA (m7 0 5)))) 0 5 (pX (pA (m7 0 4))) a q)) := by
  have main : ∀ z, F94 f m = some z → ∃ r7 m7, F74 f (m 0 6) (pA (m 0 5)) m = some (r7, m7) ∧ ((r7 ≠ -1 ∧ z = (.inr 9, yup m7 0 7 r7)) ∨ (r7 = -1 ∧ ∃ v m9, z = (.inl v, m9) ∧ ∀ a q, a < 8 ∨ 256 ≤ a → m9 a q = yup (yup (yup m7 0 7 r7) 0 4 (pX (pA (m7 0 5)))) 0 5 (pX (pA (m7 0 4))) a q)) := by
    intro z e
    unfold F94 at e
    replace e := bI_e e
    obtain ⟨r7, m7, e7, e⟩ := e
    refine ⟨r7, m7, e7, ?_⟩
    rcases ite1 e with ⟨q, e⟩ | ⟨q, e⟩
    · replace e := bU_e e
      obtain ⟨m8, e8, e⟩ := e
      replace e := bU_e e
      obtain ⟨m9, e9, e⟩ := e
      replace e := bP_e e
      obtain ⟨r9, -, e⟩ := e
      cases e
      have k8 := kan_F91 (P := fun a _ => a < 8 ∨ 256 ≤ a) (fun a q h => by omega) KP.rf _ e8
      have k9 := ksn_F92 (P := fun a _ => a < 8 ∨ 256 ≤ a) (fun a q h => by omega) k8 _ e9
      exact Or.inr ⟨q, _, _, rfl, k9⟩
    · cases e
      exact Or.inl ⟨q, rfl⟩
  unfold F95 at h
  rcases bT_e h with ⟨r2, m2, e1, e2⟩ | ⟨r2, m2, e1, e2⟩
  · obtain ⟨r7, m7, a1, ⟨-, a2⟩ | ⟨a2, v, m9, a3, a4⟩⟩ := main _ e1
    · cases a2
    · cases a3
      cases e2
      exact ⟨r7, m7, a1, Or.inr ⟨a2, fun a q z1 z2 => by rw [yup_na z2]; exact a4 a q z1⟩⟩
  · obtain ⟨r7, m7, a1, ⟨a0, a2⟩ | ⟨a2, v, m9, a3, a4⟩⟩ := main _ e1
    · cases a2
      rw [if_pos rfl] at e2
      cases e2
      exact ⟨r7, m7, a1, Or.inl ⟨a0, rfl⟩⟩
    · cases a3
/-- the model, behind the reading -/
theorem J132_r {p b : Int} (h : J152_132 g p m = some (b, m2)) : (0 ≤ m 376 8 ∧ ∃ c, m2 = yup (yup m 376 2 (m 376 8)) 376 57 c) ∨ (m 376 8 < 0 ∧ ∃ N, KP (fun a q => ¬ (a = 376 ∧ 45 ≤ q ∧ q ≤ 47) ∧ ¬ (404 ≤ a ∧ a ≤ 408)) N m2 ∧ ∃ c, N = yup (yup (yup (yup (yup m 376 2 (m 376 8)) 376 57 c) 376 18 p) 376 19 1) 376 51 0) := by
  unfold J152_132 at h
  have key : ∀ {x : Int}, J152_153 g p x (yup m 376 2 (m 376 8)) = some (b, m2) → (x = 0 → ∃ c, m2 = yup (yup m 376 2 (m 376 8)) 376 57 c) ∧ (x ≠ 0 → ∃ N, KP (fun a q => ¬ (a = 376 ∧ 45 ≤ q ∧ q ≤ 47) ∧ ¬ (404 ≤ a ∧ a ≤ 408)) N m2 ∧ ∃ c, N = yup (yup (yup (yup (yup m 376 2 (m 376 8)) 376 57 c) 376 18 p) 376 19 1) 376 51 0) := by
    intro x e
    unfold J152_153 at e
    replace e := bI_e e
    obtain ⟨r1, n1, e1, e⟩ := e
    obtain ⟨rfl, c, rfl⟩ := F23_r e1
    refine ⟨fun z => ?_, fun z => ?_⟩
    · rw [if_pos z] at e
      cases e
      exact ⟨c, rfl⟩
    · rw [if_neg z] at e
      refine ⟨_, ?_, c, rfl⟩
      have hB : ∀ (l : Int) (mi : yM), KP (fun a q => ¬ (a = 376 ∧ 45 ≤ q ∧ q ≤ 47) ∧ ¬ (404 ≤ a ∧ a ≤ 408)) (yup (yup (yup (yup (yup m 376 2 (m 376 8)) 376 57 c) 376 18 p) 376 19 1) 376 51 0) mi → HK mB (KP (fun a q => ¬ (a = 376 ∧ 45 ≤ q ∧ q ≤ 47) ∧ ¬ (404 ≤ a ∧ a ≤ 408)) (yup (yup (yup (yup (yup m 376 2 (m 376 8)) 376 57 c) 376 18 p) 376 19 1) 376 51 0)) (B152_179 g l mi) := by
        intro l mi hm
        unfold B152_179
        refine HK.ite (fun _ => HK.so1 (KP.up hm (fun h => by omega))) (fun _ => HK.so2 hm)
      have hB2 : ∀ (l : Int × Int) (mi : yM), KP (fun a q => ¬ (a = 376 ∧ 45 ≤ q ∧ q ≤ 47) ∧ ¬ (404 ≤ a ∧ a ≤ 408)) (yup (yup (yup (yup (yup m 376 2 (m 376 8)) 376 57 c) 376 18 p) 376 19 1) 376 51 0) mi → HK mB (KP (fun a q => ¬ (a = 376 ∧ 45 ≤ q ∧ q ≤ 47) ∧ ¬ (404 ≤ a ∧ a ≤ 408)) (yup (yup (yup (yup (yup m 376 2 (m 376 8)) 376 57 c) 376 18 p) 376 19 1) 376 51 0)) (B152_207 g l.1 l.2 mi) := by
        intro l mi hm
        unfold B152_207 J152_226
        refine HK.ite (fun _ => HK.ite (fun _ => HK.so1 hm) (fun _ => HK.so1 hm)) (fun _ => HK.so2 hm)
      have hE : HK (fun x : Int × yM => x.2) (KP (fun a q => ¬ (a = 376 ∧ 45 ≤ q ∧ q ≤ 47) ∧ ¬ (404 ≤ a ∧ a ≤ 408)) (yup (yup (yup (yup (yup m 376 2 (m 376 8)) 376 57 c) 376 18 p) 376 19 1) 376 51 0)) _ := HK.cL (HK.yl hB g 0 _ KP.rf) (fun l mi hm => HK.cU (kma_F151 (f := g) (fun a q h => by omega) hm) (fun mi hm => HK.cL (HK.yl hB2 g (0, 0) mi hm) (fun l mi hm => HK.soP (r := l.1) hm) (fun r mi hm => HK.soP (r := r) hm))) (fun r mi hm => HK.soP (r := r) hm)
      exact hE _ e
  rcases ite1 h with ⟨q, h⟩ | ⟨q, h⟩
  · exact Or.inr ⟨q, (key h).2 (by decide)⟩
  · exact Or.inl ⟨by omega, (key h).1 rfl⟩
theorem F155_1 {x n : Int} : F155 x n ≠ 0 ↔ (0 ≤ x ∧ x < n) := by
  unfold F155
  split
  · simp; omega
  · split
    · simp; omega
    · simp; omega
theorem i2l_i {r : Int} (h : rg r) : (i2l r).toInt = r := by
  unfold i2l
  rw [Int32.toInt_toInt64]
  exact y_rng h
theorem F162_r {x b : Int} (h : F162 g x m = some (b, m1)) : (m 376 19 ≠ 0 ∧ x ≠ 0 ∧ b = 1 ∧ m1 = yup m 376 57 0) ∨ (¬ (m 376 19 ≠ 0 ∧ x ≠ 0) ∧ b = 0 ∧ m1 = yup m 376 57 1) := by
  unfold F162 at h
  have J : ∀ {z : Int}, J162_17 g z m = some (b, m1) → b = z ∧ m1 = yup m 376 57 (if z = 0 then 1 else 0) := by
    intro z e
    unfold J162_17 F23 J23_10 at e
    replace e := bI_e e
    obtain ⟨r, n1, e1, e⟩ := e
    cases e
    rcases ite1 e1 with ⟨q, e1⟩ | ⟨q, e1⟩
    · cases e1
      exact ⟨rfl, by rw [if_pos q]⟩
    · cases e1
      exact ⟨rfl, by rw [if_neg q]⟩
  rcases ite1 h with ⟨q, h⟩ | ⟨q, h⟩
  · unfold J162_16 at h
    obtain ⟨e1, e2⟩ := J h
    exact Or.inr ⟨fun w => w.1 q, e1, e2⟩
  rcases ite1 h with ⟨q2, h⟩ | ⟨q2, h⟩
  · unfold J162_16 at h
    obtain ⟨e1, e2⟩ := J h
    exact Or.inr ⟨fun w => w.2 q2, e1, e2⟩
  · obtain ⟨e1, e2⟩ := J h
    exact Or.inl ⟨q, q2, e1, e2⟩
theorem F22_1 {x a b : Int} : F22 x a b ≠ 0 ↔ (a ≤ x ∧ x ≤ b) := by
  have := F22_0 (x := x) (a := a) (b := b)
  omega
end CM
end
section
/-! BELOW AND FOUND: a class below another, the method that is found for a class: alike -/
theorem ploop_s {α γ : Type} {B : α → Option (α ⊕ (α ⊕ γ))} {f : Nat} {l : α} {r : α ⊕ γ} (h : ploop B f l = some r) : ∃ f', f = f' + 1 ∧ ((∃ l', B l = some (.inl l') ∧ ploop B f' l' = some r) ∨ B l = some (.inr r)) := by
  cases f with
  | zero => cases h
  | succ f =>
    refine ⟨f, rfl, ?_⟩
    unfold ploop at h
    split at h
    · cases h
    · exact Or.inl ⟨_, by assumption, h⟩
    · cases h
      exact Or.inr (by assumption)
section FI
variable {A p f g : Nat} {mc mm : yM}
theorem rCl.up (hr : rCl A p mc mm) (hp : p ≤ 1) {k : Int} (h0 : 0 ≤ k) (h1 : k < mc A 9) : mc (A + 2) k.toNat = mm 392 (wr ((wr (6 * (p : Int))) + k)).toNat ∧ -1 ≤ mc (A + 2) k.toNat ∧ mc (A + 2) k.toNat < k := by
  have h6 := hr.2.2.1
  have e : (wr ((wr (6 * (p : Int))) + k)).toNat = 6 * p + k.toNat := by
    rw [wr_i (x := 6 * (p : Int)) (by omega) (by omega), wr_i (by omega) (by omega)]
    omega
  rw [e]
  obtain ⟨-, g2, g3, g4, -⟩ := hr.2.2.2 k.toNat (by omega)
  exact ⟨g2, g3, by omega⟩
theorem below_l (hr : rCl A p mc mm) (hp : p ≤ 1) {x2 : Int} (h2 : 0 ≤ x2) : ∀ (n : Nat) (k j : Int) (F G : Nat) (r : (Int × Int) ⊕ Int) (r' : Int ⊕ Int), -1 ≤ k → k < n → 0 ≤ j → n + j ≤ 6 → k < mc A 9 → ploop (fun (l : Int × Int) => B81_5 f A x2 l.1 l.2 mc) F (k, j) = some r → ploop (fun (l : Int) => B149_3 g p x2 l mm) G k = some r' → (∃ l l', r = .inl l ∧ r' = .inl l' ∧ l' ≠ x2) ∨ (r = .inr 1 ∧ r' = .inl x2) := by
  intro n
  induction n with
  | zero =>
    intro k j F G r r' k1 k2 j1 j2 k3 h h'
    have hB : ∃ l, B81_5 f A x2 k j mc = some (.inr (.inl l)) := by
      unfold B81_5
      by_cases q : j < 6
      · rw [if_pos q, if_pos (by omega)]; exact ⟨_, rfl⟩
      · rw [if_neg q]; exact ⟨_, rfl⟩
    have hB' : B149_3 g p x2 k mm = some (.inr (.inl k)) := by unfold B149_3; rw [if_pos (by omega)]
    obtain ⟨l, hB⟩ := hB
    obtain ⟨f', -, ⟨l', e, -⟩ | e⟩ := ploop_s h
    · rw [hB] at e; cases e
    · rw [hB] at e; cases e
      obtain ⟨f', -, ⟨l', e, -⟩ | e⟩ := ploop_s h'
      · rw [hB'] at e; cases e
      · rw [hB'] at e; cases e
        exact Or.inl ⟨_, _, rfl, rfl, by omega⟩
  | succ n ih =>
    intro k j F G r r' k1 k2 j1 j2 k3 h h'
    by_cases kz : k = -1
    · have hB : B81_5 f A x2 k j mc = some (.inr (.inl (k, j))) := by
        unfold B81_5
        rw [if_pos (by omega), if_pos kz]
      have hB' : B149_3 g p x2 k mm = some (.inr (.inl k)) := by unfold B149_3; rw [if_pos (by omega)]
      obtain ⟨f', -, ⟨l', e, -⟩ | e⟩ := ploop_s h
      · rw [hB] at e; cases e
      · rw [hB] at e; cases e
        obtain ⟨f', -, ⟨l', e, -⟩ | e⟩ := ploop_s h'
        · rw [hB'] at e; cases e
        · rw [hB'] at e; cases e
          exact Or.inl ⟨_, _, rfl, rfl, by omega⟩
    · obtain ⟨u1, u2, u3⟩ := hr.up hp (by omega : 0 ≤ k) k3
      by_cases ke : k = x2
      · have hB : B81_5 f A x2 k j mc = some (.inr (.inr 1)) := by
          unfold B81_5
          rw [if_pos (by omega), if_neg kz, if_pos ke]
        have hB' : B149_3 g p x2 k mm = some (.inr (.inl k)) := by unfold B149_3; rw [if_neg (by omega), if_pos ke]
        obtain ⟨f', -, ⟨l', e, -⟩ | e⟩ := ploop_s h
        · rw [hB] at e; cases e
        · rw [hB] at e; cases e
          obtain ⟨f', -, ⟨l', e, -⟩ | e⟩ := ploop_s h'
          · rw [hB'] at e; cases e
          · rw [hB'] at e; cases e
            exact Or.inr ⟨rfl, by rw [ke]⟩
      · have hB : B81_5 f A x2 k j mc = some (.inl (mc (A + 2) k.toNat, j + 1)) := by
          unfold B81_5
          rw [if_pos (by omega), if_neg kz, if_neg ke, wr_i (by omega) (by omega)]
        have hB' : B149_3 g p x2 k mm = some (.inl (mc (A + 2) k.toNat)) := by unfold B149_3; rw [if_neg (by omega), if_neg ke, u1]
        obtain ⟨f', -, ⟨l', e, e2⟩ | e⟩ := ploop_s h
        · rw [hB] at e; cases e
          obtain ⟨f', -, ⟨l', e, e3⟩ | e⟩ := ploop_s h'
          · rw [hB'] at e; cases e
            exact ih _ _ _ _ r r' u2 (by omega) (by omega) (by omega) (by omega) e2 e3
          · rw [hB'] at e; cases e
        · rw [hB] at e; cases e
theorem below_r (hr : rCl A p mc mm) (hp : p ≤ 1) {k x2 a b : Int} (h2 : 0 ≤ x2) (h0 : 0 ≤ k) (h1 : k < mc A 9) (e1 : F81 f A k x2 mc = some a) (e2 : F149 g p k x2 mm = some b) : a = b ∧ (a = 0 ∨ a = 1) := by
  have h6 := hr.2.2.1
  unfold F81 at e1
  unfold F149 at e2
  have m : ∀ {r : (Int × Int) ⊕ Int} {r' : Int ⊕ Int}, ploop (fun (l : Int × Int) => B81_5 f A x2 l.1 l.2 mc) f (k, 0) = some r → ploop (fun (l : Int) => B149_3 g p x2 l mm) g k = some r' → (∃ l l', r = .inl l ∧ r' = .inl l' ∧ l' ≠ x2) ∨ (r = .inr 1 ∧ r' = .inl x2) := fun a b => below_l hr hp h2 6 k 0 _ _ _ _ (by omega) (by omega) (by omega) (by omega) h1 a b
  have J : ∀ {l : Int}, J149_31 g x2 l = some b → (l = x2 ∧ b = 1) ∨ (l ≠ x2 ∧ b = 0) := by
    intro l e
    unfold J149_31 at e
    rcases ite1 e with ⟨q, e⟩ | ⟨q, e⟩
    · cases e; exact Or.inl ⟨q, rfl⟩
    · cases e; exact Or.inr ⟨q, rfl⟩
  rcases bQ_e e2 with ⟨l', c1, c2⟩ | ⟨l', c1, c2⟩
  · rcases bQ_e e1 with ⟨l, d1, d2⟩ | ⟨l, d1, d2⟩
    · rcases m d1 c1 with ⟨l2, l3, z1, z2, z3⟩ | ⟨z1, z2⟩
      · cases z2
        cases d2
        rcases J c2 with ⟨y, -⟩ | ⟨-, y⟩
        · exact absurd y z3
        · exact ⟨by omega, Or.inl rfl⟩
      · cases z1
    · rcases m d1 c1 with ⟨l2, l3, z1, z2, z3⟩ | ⟨z1, z2⟩
      · cases z1
      · cases z1
        cases z2
        cases d2
        rcases J c2 with ⟨-, y⟩ | ⟨y, -⟩
        · exact ⟨by omega, Or.inr rfl⟩
        · exact absurd rfl y
  · rcases bQ_e e1 with ⟨l, d1, d2⟩ | ⟨l, d1, d2⟩
    · rcases m d1 c1 with ⟨l2, l3, z1, z2, z3⟩ | ⟨z1, z2⟩ <;> cases z2
    · rcases m d1 c1 with ⟨l2, l3, z1, z2, z3⟩ | ⟨z1, z2⟩ <;> cases z2
/-- the method of a name that a class declares -/
theorem decl_r (hm : rMe A p mc mm) {k x2 y2 r r' : Int} (hN : Nm x2 y2) (h1 : IX (mc A 10) (fun q => mc (A + 10 + q) 1 = k ∧ mc (A + 10 + q) 0 = x2) r) (h2 : IX (mm 384 p) (fun q => mm 396 (10 * p + q) = k ∧ mm 395 (10 * p + q) = y2) r') : r = r' := by
  rw [← hm.1] at h2
  refine h1.eq h2 (fun q hq => ?_)
  obtain ⟨g1, g2, -⟩ := hm.2.2.2 q hq
  rw [g2]
  have := g1.eq hN
  constructor
  · rintro ⟨z1, z2⟩; exact ⟨z1, this.mp z2⟩
  · rintro ⟨z1, z2⟩; exact ⟨z1, this.mpr z2⟩
theorem found_l (hr : rCl A p mc mm) (hm : rMe A p mc mm) (hp : p ≤ 1) {x2 y2 x3 : Int} (hN : Nm x2 y2) : ∀ (n : Nat) (k j : Int) (F G : Nat) (r : (Int × Int) ⊕ Int) (r' : Int ⊕ Int), -1 ≤ k → k < n → 0 ≤ j → n + j ≤ 6 → k < mc A 9 → ploop (fun (l : Int × Int) => B72_6 f A x2 x3 l.1 l.2 mc) F (k, j) = some r → ploop (fun (l : Int) => B123_3 g p y2 0 l mm) G k = some r' → (∃ l l', r = .inl l ∧ r' = .inl l') ∨ (∃ q : Int, 0 ≤ q ∧ q < mc A 10 ∧ r' = .inr q ∧ r = .inr (if mc (A + 10 + q.toNat) 3 = x3 then q else -1)) := by
  intro n
  induction n with
  | zero =>
    intro k j F G r r' k1 k2 j1 j2 k3 h h'
    have hB : ∃ l, B72_6 f A x2 x3 k j mc = some (.inr (.inl l)) := by
      unfold B72_6
      by_cases q : j < 6
      · rw [if_pos q, if_pos (by omega)]; exact ⟨_, rfl⟩
      · rw [if_neg q]; exact ⟨_, rfl⟩
    have hB' : B123_3 g p y2 0 k mm = some (.inr (.inl k)) := by unfold B123_3; rw [if_pos (by omega)]
    obtain ⟨l, hB⟩ := hB
    obtain ⟨f', -, ⟨l', e, -⟩ | e⟩ := ploop_s h
    · rw [hB] at e; cases e
    · rw [hB] at e; cases e
      obtain ⟨f', -, ⟨l', e, -⟩ | e⟩ := ploop_s h'
      · rw [hB'] at e; cases e
      · rw [hB'] at e; cases e
        exact Or.inl ⟨_, _, rfl, rfl⟩
  | succ n ih =>
    intro k j F G r r' k1 k2 j1 j2 k3 h h'
    by_cases kz : k = -1
    · have hB : B72_6 f A x2 x3 k j mc = some (.inr (.inl (k, j))) := by
        unfold B72_6
        rw [if_pos (by omega), if_pos kz]
      have hB' : B123_3 g p y2 0 k mm = some (.inr (.inl k)) := by unfold B123_3; rw [if_pos (by omega)]
      obtain ⟨f', -, ⟨l', e, -⟩ | e⟩ := ploop_s h
      · rw [hB] at e; cases e
      · rw [hB] at e; cases e
        obtain ⟨f', -, ⟨l', e, -⟩ | e⟩ := ploop_s h'
        · rw [hB'] at e; cases e
        · rw [hB'] at e; cases e
          exact Or.inl ⟨_, _, rfl, rfl⟩
    · obtain ⟨u1, u2, u3⟩ := hr.up hp (by omega : 0 ≤ k) k3
      have hm0 := hm.2.1
      have hm1 := hm.2.2.1
      have hmE := hm.1
      -- the class
      have hB : ∀ {y}, B72_6 f A x2 x3 k j mc = some y → ∃ d, IX (mc A 10) (fun q => mc (A + 10 + q) 1 = k ∧ mc (A + 10 + q) 0 = x2) d ∧ ((d = -1 ∧ y = .inl (mc (A + 2) k.toNat, j + 1)) ∨ (d ≠ -1 ∧ y = .inr (.inr (if mc (A + 10 + d.toNat) 3 = x3 then d else -1)))) := by
        intro y e
        unfold B72_6 at e
        rw [if_pos (by omega), if_neg kz] at e
        replace e := bP_e e
        obtain ⟨d, e1, e⟩ := e
        refine ⟨d, F50_r hm0 hm1 e1, ?_⟩
        rcases ite1 e with ⟨q, e⟩ | ⟨q, e⟩
        · rw [wr_i (by omega) (by omega)] at e
          cases e
          exact Or.inl ⟨q, rfl⟩
        · refine Or.inr ⟨q, ?_⟩
          rcases ite1 e with ⟨q2, e⟩ | ⟨q2, e⟩
          · cases e; rw [if_pos q2]
          · cases e; rw [if_neg q2]
      have hB' : ∀ {y}, B123_3 g p y2 0 k mm = some y → ∃ d, IX (mm 384 p) (fun q => mm 396 (10 * p + q) = k ∧ mm 395 (10 * p + q) = y2) d ∧ ((d = -1 ∧ y = .inl (mc (A + 2) k.toNat)) ∨ (d ≠ -1 ∧ y = .inr (.inr d))) := by
        intro y e
        unfold B123_3 at e
        rw [if_neg (by omega)] at e
        rcases bQ_e e with ⟨l, e1, e⟩ | ⟨l, e1, e⟩
        · rcases B123_11_r hp (by omega) (by omega) e1 with ⟨z, z1, -⟩ | ⟨z, z1, z2⟩
          · cases z1
          · rw [if_pos rfl] at e
            unfold J123_85 at e
            cases e
            exact ⟨-1, z2, Or.inl ⟨rfl, by rw [u1]⟩⟩
        · rcases B123_11_r hp (by omega) (by omega) e1 with ⟨z, z1, z0, z2⟩ | ⟨z, z1, -⟩
          · cases z1
            cases e
            exact ⟨_, z2, Or.inr ⟨by omega, rfl⟩⟩
          · cases z1
      obtain ⟨f', -, ⟨l', e, e2⟩ | e⟩ := ploop_s h
      · obtain ⟨d, I1, ⟨d1, ey⟩ | ⟨d1, ey⟩⟩ := hB e
        · cases ey
          obtain ⟨f', -, ⟨l', e, e3⟩ | e⟩ := ploop_s h'
          · obtain ⟨d', I2, ⟨d2, ey⟩ | ⟨d2, ey⟩⟩ := hB' e
            · cases ey
              exact ih _ _ _ _ r r' u2 (by omega) (by omega) (by omega) (by omega) e2 e3
            · cases ey
          · obtain ⟨d', I2, ⟨d2, ey⟩ | ⟨d2, ey⟩⟩ := hB' e
            · cases ey
            · have := decl_r hm hN I1 I2
              omega
        · cases ey
      · obtain ⟨d, I1, ⟨d1, ey⟩ | ⟨d1, ey⟩⟩ := hB e
        · cases ey
        · cases ey
          have hlt := I1.lt
          obtain ⟨f', -, ⟨l', e, e3⟩ | e⟩ := ploop_s h'
          · obtain ⟨d', I2, ⟨d2, ey⟩ | ⟨d2, ey⟩⟩ := hB' e
            · have := decl_r hm hN I1 I2
              omega
            · cases ey
          · obtain ⟨d', I2, ⟨d2, ey⟩ | ⟨d2, ey⟩⟩ := hB' e
            · cases ey
            · cases ey
              have := decl_r hm hN I1 I2
              subst this
              exact Or.inr ⟨d, by omega, by omega, rfl, rfl⟩
theorem found_r (hr : rCl A p mc mm) (hm : rMe A p mc mm) (hp : p ≤ 1) {k x2 y2 x3 a b : Int} (hN : Nm x2 y2) (h0 : 0 ≤ k) (h1 : k < mc A 9) (e1 : F72 f A k x2 x3 mc = some a) (e2 : F142 g p k y2 x3 mm = some b) : a = b ∧ (a = -1 ∨ (0 ≤ a ∧ a < mc A 10)) := by
  have h6 := hr.2.2.1
  unfold F72 at e1
  unfold F142 at e2
  replace e2 := bP_e e2
  obtain ⟨c, c0, e2⟩ := e2
  unfold F123 at c0
  have m : ∀ {r : (Int × Int) ⊕ Int} {r' : Int ⊕ Int}, ploop (fun (l : Int × Int) => B72_6 f A x2 x3 l.1 l.2 mc) f (k, 0) = some r → ploop (fun (l : Int) => B123_3 g p y2 0 l mm) g k = some r' → (∃ l l', r = .inl l ∧ r' = .inl l') ∨ (∃ q : Int, 0 ≤ q ∧ q < mc A 10 ∧ r' = .inr q ∧ r = .inr (if mc (A + 10 + q.toNat) 3 = x3 then q else -1)) := fun a b => found_l hr hm hp hN 6 k 0 _ _ _ _ (by omega) (by omega) (by omega) (by omega) h1 a b
  have hm1 := hm.2.2.1
  rcases bQ_e c0 with ⟨l', c1, c2⟩ | ⟨l', c1, c2⟩
  · cases c2
    rw [if_pos (by decide)] at e2
    cases e2
    rcases bQ_e e1 with ⟨l, d1, d2⟩ | ⟨l, d1, d2⟩
    · cases d2
      exact ⟨rfl, Or.inl rfl⟩
    · rcases m d1 c1 with ⟨l2, l3, z1, z2⟩ | ⟨q, -, -, z1, z2⟩
      · cases z1
      · cases z1
  · cases c2
    rcases bQ_e e1 with ⟨l, d1, d2⟩ | ⟨l, d1, d2⟩
    · rcases m d1 c1 with ⟨l2, l3, z1, z2⟩ | ⟨q, -, -, z1, z2⟩
      · cases z2
      · cases z2
    · rcases m d1 c1 with ⟨l2, l3, z1, z2⟩ | ⟨q, q0, q1, z1, z2⟩
      · cases z2
      · cases z1
        cases z2
        cases d2
        have e : (wr ((wr (10 * (p : Int))) + c)).toNat = 10 * p + c.toNat := by
          rw [wr_i (x := 10 * (p : Int)) (by omega) (by omega), wr_i (by omega) (by omega)]
          omega
        obtain ⟨-, -, g3, -⟩ := hm.2.2.2 c.toNat (by omega)
        rw [if_neg (by omega), e, ← g3] at e2
        rcases ite1 e2 with ⟨z, e2⟩ | ⟨z, e2⟩
        · cases e2
          rw [if_pos z]
          exact ⟨rfl, Or.inr ⟨q0, q1⟩⟩
        · cases e2
          rw [if_neg z]
          exact ⟨rfl, Or.inl rfl⟩
theorem go_Nm : Nm 239 (F101 103 111 0 0 0 0) := ⟨fun q => ([7, 15] : List Int).getD q 0, 2, by decide, by decide, fun q hq => by
  rcases (show q = 0 ∨ q = 1 by omega) with rfl | rfl <;> decide, by decide +kernel, by decide +kernel⟩
end FI
end
section
/-! THE PROGRAM, its names looked up: statements and ops side by side -/
/-- statements s to s1 lie at ops o to o1: simple ones by Q, branches by B, ops without a statement by Z -/
def ALN (Q B : Nat → Nat → Prop) (Z : Nat → Prop) : Nat → Nat → Nat → Nat → Nat → Prop
  | 0, s, s1, o, o1 => s = s1 ∧ o = o1
  | n + 1, s, s1, o, o1 => ((Q s o ∨ B s o) ∧ ALN Q B Z n (s + 1) s1 (o + 1) o1) ∨ (Z o ∧ ALN Q B Z n s s1 (o + 1) o1)
section AL
variable {Q B Q' B' : Nat → Nat → Prop} {Z Z' : Nat → Prop}
theorem ALN.le : ∀ {n s s1 o o1 : Nat}, ALN Q B Z n s s1 o o1 → s ≤ s1 ∧ o ≤ o1 := by
  intro n
  induction n with
  | zero => intro s s1 o o1 h; obtain ⟨rfl, rfl⟩ := h; omega
  | succ n ih =>
    intro s s1 o o1 h
    rcases h with ⟨-, h⟩ | ⟨-, h⟩
    · have := ih h; omega
    · have := ih h; omega
theorem ALN.app : ∀ {n k s s1 s2 o o1 o2 : Nat}, ALN Q B Z n s s1 o o1 → ALN Q B Z k s1 s2 o1 o2 → ALN Q B Z (n + k) s s2 o o2 := by
  intro n
  induction n with
  | zero =>
    intro k s s1 s2 o o1 o2 h h'
    obtain ⟨rfl, rfl⟩ := h
    rw [Nat.zero_add]
    exact h'
  | succ n ih =>
    intro k s s1 s2 o o1 o2 h h'
    rw [show n + 1 + k = (n + k) + 1 by omega]
    rcases h with ⟨h1, h⟩ | ⟨h1, h⟩
    · exact Or.inl ⟨h1, ih h h'⟩
    · exact Or.inr ⟨h1, ih h h'⟩
theorem ALN.mp : ∀ {n s s1 o o1 : Nat}, ALN Q B Z n s s1 o o1 → (∀ t u, t < s1 → u < o1 → Q t u → Q' t u) → (∀ t u, t < s1 → u < o1 → B t u → B' t u) → (∀ u, u < o1 → Z u → Z' u) → ALN Q' B' Z' n s s1 o o1 := by
  intro n
  induction n with
  | zero => intro s s1 o o1 h _ _ _; exact h
  | succ n ih =>
    intro s s1 o o1 h e1 e2 e3
    rcases h with ⟨h1, h⟩ | ⟨h1, h⟩
    · have l := h.le
      refine Or.inl ⟨?_, ih h e1 e2 e3⟩
      rcases h1 with h1 | h1
      · exact Or.inl (e1 _ _ (by omega) (by omega) h1)
      · exact Or.inr (e2 _ _ (by omega) (by omega) h1)
    · have l := h.le
      exact Or.inr ⟨e3 _ (by omega) h1, ih h e1 e2 e3⟩
/-- every statement is there -/
theorem ALN.all : ∀ {n s s1 o o1 : Nat}, ALN Q B Z n s s1 o o1 → ∀ t, s ≤ t → t < s1 → ∃ u, u < o1 ∧ (Q t u ∨ B t u) := by
  intro n
  induction n with
  | zero => intro s s1 o o1 h t t1 t2; obtain ⟨rfl, rfl⟩ := h; omega
  | succ n ih =>
    intro s s1 o o1 h t t1 t2
    rcases h with ⟨h1, h⟩ | ⟨h1, h⟩
    · by_cases z : t = s
      · subst z
        have l := h.le
        exact ⟨o, by omega, h1⟩
      · exact ih h t (by omega) t2
    · exact ih h t t1 t2
end AL
section RS
variable {A p k s o a f g : Nat} {mc mm mc' mm' M N : yM}
def qSi (A p : Nat) (mc mm : yM) (t u : Nat) : Prop := ∃ a a', OPR A p t u a a' mc mm
def qB (A p : Nat) (mc mm : yM) (t u : Nat) : Prop := BRH A p t u 0 9 mc mm ∨ BRH A p t u 1 10 mc mm
def qZ (p : Nat) (mm : yM) (u : Nat) : Prop := mm 403 (1000 * p + 8 * u) = 11 ∨ mm 403 (1000 * p + 8 * u) = 12
theorem SEG.aln : ∀ {f s0 s1 o0 o1 a0 a1 : Nat}, SEG A p mc mm f s0 s1 o0 o1 a0 a1 → ∃ n, ALN (qSi A p mc mm) (qB A p mc mm) (qZ p mm) n s0 s1 o0 o1 := by
  intro f
  induction f with
  | zero =>
    intro s0 s1 o0 o1 a0 a1 h
    obtain ⟨rfl, rfl, rfl⟩ := h
    exact ⟨0, rfl, rfl⟩
  | succ f ih =>
    intro s0 s1 o0 o1 a0 a1 h
    rcases h with ⟨rfl, rfl, rfl⟩ | ⟨s2, o2, a2, h1, h2, h3, h4, h5, h6, h7, h8, h9⟩
    · exact ⟨0, rfl, rfl⟩
    · obtain ⟨n8, e8⟩ := ih h8
      have key : ∃ n, ALN (qSi A p mc mm) (qB A p mc mm) (qZ p mm) n s0 s2 o0 o2 := by
        rcases h9 with ⟨g1, g2, g3⟩ | ⟨g1, o3, g2, g2', g3, g4, g5, g6, g7⟩ | ⟨g1, g2, g3, g4⟩ | ⟨g1, s3, o3, a3, g2, g3, g4, g5, g6, g7, g8, g9, g10, g11, g12, g13⟩
        · exact ⟨1, Or.inl ⟨Or.inl ⟨_, _, g3⟩, g1.symm, g2.symm⟩⟩
        · obtain ⟨n7, e7⟩ := ih g7
          have z : ALN (qSi A p mc mm) (qB A p mc mm) (qZ p mm) 1 s2 s2 o3 o2 := Or.inr ⟨Or.inl g5, rfl, g2.symm⟩
          exact ⟨n7 + 1 + 1, Or.inl ⟨Or.inr (Or.inr g1), e7.app z⟩⟩
        · obtain ⟨n4, e4⟩ := ih g4
          exact ⟨n4 + 1, Or.inl ⟨Or.inr (Or.inl g1), e4⟩⟩
        · obtain ⟨n12, e12⟩ := ih g12
          obtain ⟨n13, e13⟩ := ih g13
          have z : ALN (qSi A p mc mm) (qB A p mc mm) (qZ p mm) (n13 + 1) s3 s2 o3 o2 := Or.inr ⟨Or.inl g10, e13⟩
          exact ⟨n12 + (n13 + 1) + 1, Or.inl ⟨Or.inr (Or.inl g1), e12.app z⟩⟩
      obtain ⟨n, e⟩ := key
      exact ⟨_, e.app e8⟩
theorem MCH.aln : ∀ {k s o a : Nat}, MCH A p mc mm k s o a → ∃ n, ALN (qSi A p mc mm) (qB A p mc mm) (qZ p mm) n 0 s 0 o := by
  intro k
  induction k with
  | zero =>
    intro s o a h
    obtain ⟨rfl, rfl, -⟩ := h
    exact ⟨0, rfl, rfl⟩
  | succ k ih =>
    intro s o a h
    obtain ⟨s0, o0, a0, o1, fu, h1, h2, h3, h4, h5, h6, h7, h8⟩ := h
    obtain ⟨n1, e1⟩ := ih h1
    obtain ⟨n2, e2⟩ := h6.aln
    have z : ALN (qSi A p mc mm) (qB A p mc mm) (qZ p mm) 1 s s o1 o := Or.inr ⟨Or.inr h7, rfl, h5.symm⟩
    exact ⟨_, (e1.app e2).app z⟩
/-- the class's lookups -/
def RSc (A s : Nat) (M mc' : yM) : Prop := ∀ t : Nat, t < s → ((M (A + 20 + t) 0 = 3 ∨ M (A + 20 + t) 0 = 9) → IX (M A 11) (fun q => M (A + 4) q = M (A + 20 + t) 4) (mc' (A + 20 + t) 6)) ∧ (¬ (M (A + 20 + t) 0 = 3 ∨ M (A + 20 + t) 0 = 9) → mc' (A + 20 + t) 6 = M (A + 20 + t) 6) ∧ ((M (A + 20 + t) 0 = 5 ∨ M (A + 20 + t) 0 = 7) → IX (M A 9) (fun q => M (A + 1) q = M (A + 20 + t) 4) (mc' (A + 20 + t) 7) ∧ mc' (A + 20 + t) 7 ≠ -1) ∧ (M (A + 20 + t) 0 = 5 → IX (M A 9) (fun q => M (A + 1) q = M (A + 20 + t) 4) (mc' (A + 8) (M (A + 20 + t) 6).toNat))
theorem res_c {r : Int} (hs : s ≤ 40) (h16 : M A 16 = s) (h9 : 0 ≤ M A 9 ∧ M A 9 ≤ 6) (h11 : 0 ≤ M A 11 ∧ M A 11 ≤ 8) (hU : ∀ t u : Nat, t < s → u < s → M (A + 20 + t) 0 = 5 → M (A + 20 + u) 0 = 5 → (M (A + 20 + t) 6).toNat = (M (A + 20 + u) 6).toNat → M (A + 20 + t) 4 = M (A + 20 + u) 4) (h : F73 f A M = some (r, mc')) (hr : r = -1) (h5 : ∀ t : Nat, t < s → (M (A + 20 + t) 0 = 5 ∨ M (A + 20 + t) 0 = 7) → 0 ≤ M (A + 20 + t) 5) : RSc A s M mc' ∧ fNc A M mc' ∧ (∃ m1, F72 f A 0 239 0 m1 = some (mc' A 17) ∧ fNc A M m1) ∧ (∀ q, (∀ t : Nat, t < s → M (A + 20 + t) 0 = 5 → (M (A + 20 + t) 6).toNat ≠ q) → mc' (A + 8) q = M (A + 8) q) := by
  unfold F73 at h
  have inv : ∀ (l : Int) (m : yM) (y : (Int × yM) ⊕ ((Int × yM) ⊕ (Int × yM))), (0 ≤ l ∧ l ≤ s ∧ fNc A M m ∧ (∀ t : Nat, (t : Int) < l → ((M (A + 20 + t) 0 = 3 ∨ M (A + 20 + t) 0 = 9) → IX (M A 11) (fun q => M (A + 4) q = M (A + 20 + t) 4) (m (A + 20 + t) 6)) ∧ ((M (A + 20 + t) 0 = 5 ∨ M (A + 20 + t) 0 = 7) → IX (M A 9) (fun q => M (A + 1) q = M (A + 20 + t) 4) (m (A + 20 + t) 7) ∧ m (A + 20 + t) 7 ≠ -1) ∧ (M (A + 20 + t) 0 = 5 → IX (M A 9) (fun q => M (A + 1) q = M (A + 20 + t) 4) (m (A + 8) (M (A + 20 + t) 6).toNat))) ∧ (∀ t : Nat, t < s → (l ≤ t ∨ ¬ (M (A + 20 + t) 0 = 3 ∨ M (A + 20 + t) 0 = 9)) → m (A + 20 + t) 6 = M (A + 20 + t) 6) ∧ (∀ q, (∀ t : Nat, t < s → M (A + 20 + t) 0 = 5 → (M (A + 20 + t) 6).toNat ≠ q) → m (A + 8) q = M (A + 8) q)) → B73_2 f A l m = some y → (∃ m', y = .inl (l + 1, m') ∧ l < s ∧ (0 ≤ l + 1 ∧ l + 1 ≤ s ∧ fNc A M m' ∧ (∀ t : Nat, (t : Int) < l + 1 → ((M (A + 20 + t) 0 = 3 ∨ M (A + 20 + t) 0 = 9) → IX (M A 11) (fun q => M (A + 4) q = M (A + 20 + t) 4) (m' (A + 20 + t) 6)) ∧ ((M (A + 20 + t) 0 = 5 ∨ M (A + 20 + t) 0 = 7) → IX (M A 9) (fun q => M (A + 1) q = M (A + 20 + t) 4) (m' (A + 20 + t) 7) ∧ m' (A + 20 + t) 7 ≠ -1) ∧ (M (A + 20 + t) 0 = 5 → IX (M A 9) (fun q => M (A + 1) q = M (A + 20 + t) 4) (m' (A + 8) (M (A + 20 + t) 6).toNat))) ∧ (∀ t : Nat, t < s → (l + 1 ≤ t ∨ ¬ (M (A + 20 + t) 0 = 3 ∨ M (A + 20 + t) 0 = 9)) → m' (A + 20 + t) 6 = M (A + 20 + t) 6) ∧ (∀ q, (∀ t : Nat, t < s → M (A + 20 + t) 0 = 5 → (M (A + 20 + t) 6).toNat ≠ q) → m' (A + 8) q = M (A + 8) q))) ∨ (∃ x, y = .inr (.inr x) ∧ 0 ≤ x.1) ∨ (y = .inr (.inl (l, m)) ∧ l = s) := by
    intro l m y ⟨i1, i2, i3, i4, i5, i6⟩ e
    unfold B73_2 at e
    have m16 : m A 16 = s := by rw [i3 A 16 (by omega) (by omega) (by omega)]; exact h16
    have m9 : m A 9 = M A 9 := i3 A 9 (by omega) (by omega) (by omega)
    have m11 : m A 11 = M A 11 := i3 A 11 (by omega) (by omega) (by omega)
    rw [m16] at e
    rcases ite1 e with ⟨ql, e⟩ | ⟨ql, e⟩
    case inr =>
      cases e
      exact Or.inr (Or.inr ⟨rfl, by omega⟩)
    obtain ⟨n, rfl⟩ : ∃ n : Nat, l = n := ⟨l.toNat, by omega⟩
    have hn : n < s := by omega
    rw [Int.toNat_natCast] at e
    have c0 : ∀ q, q ≠ 6 → q ≠ 7 → m (A + 20 + n) q = M (A + 20 + n) q := fun q z1 z2 => i3 _ _ (by omega) (by omega) (by omega)
    have w1 : wr ((n : Int) + 1) = (n : Int) + 1 := wr_i (by omega) (by omega)
    have sp : ∀ t : Nat, (t : Int) < (n : Int) + 1 → t = n ∨ (t : Int) < n := fun t ht => by omega
    -- a field's name
    have s34 : (M (A + 20 + n) 0 = 3 ∨ M (A + 20 + n) 0 = 9) → J73_34 f A (n : Int) (A + 20 + n) m = some y → (∃ m', y = .inl ((n : Int) + 1, m') ∧ (n : Int) < s ∧ (0 ≤ (n : Int) + 1 ∧ (n : Int) + 1 ≤ s ∧ fNc A M m' ∧ (∀ t : Nat, (t : Int) < (n : Int) + 1 → ((M (A + 20 + t) 0 = 3 ∨ M (A + 20 + t) 0 = 9) → IX (M A 11) (fun q => M (A + 4) q = M (A + 20 + t) 4) (m' (A + 20 + t) 6)) ∧ ((M (A + 20 + t) 0 = 5 ∨ M (A + 20 + t) 0 = 7) → IX (M A 9) (fun q => M (A + 1) q = M (A + 20 + t) 4) (m' (A + 20 + t) 7) ∧ m' (A + 20 + t) 7 ≠ -1) ∧ (M (A + 20 + t) 0 = 5 → IX (M A 9) (fun q => M (A + 1) q = M (A + 20 + t) 4) (m' (A + 8) (M (A + 20 + t) 6).toNat))) ∧ (∀ t : Nat, t < s → ((n : Int) + 1 ≤ t ∨ ¬ (M (A + 20 + t) 0 = 3 ∨ M (A + 20 + t) 0 = 9)) → m' (A + 20 + t) 6 = M (A + 20 + t) 6) ∧ (∀ q, (∀ t : Nat, t < s → M (A + 20 + t) 0 = 5 → (M (A + 20 + t) 6).toNat ≠ q) → m' (A + 8) q = M (A + 8) q))) := by
      intro hk e
      unfold J73_34 J73_112 at e
      replace e := bP_e e
      obtain ⟨r6, e6, e⟩ := e
      rw [w1] at e
      cases e
      have I6 := F46_r (by omega) (by omega) e6
      rw [m11, c0 4 (by decide) (by decide)] at I6
      have I6' : IX (M A 11) (fun q => M (A + 4) q = M (A + 20 + n) 4) r6 := I6.mp (fun z hz => by rw [i3 (A + 4) z (by omega) (by omega) (by omega)])
      refine ⟨_, rfl, by omega, by omega, by omega, i3.st (by omega) (Or.inl rfl), fun t ht => ?_, fun t ht hh => ?_, fun q hq => ?_⟩
      · rcases sp t ht with rfl | ht'
        · refine ⟨fun _ => by rw [yup_eq]; exact I6', fun hh => by omega, fun hh => by omega⟩
        · obtain ⟨j1, j2, j3⟩ := i4 t ht'
          refine ⟨fun hh => by rw [yup_na (by omega)]; exact j1 hh, fun hh => by rw [yup_na (by omega)]; exact j2 hh, fun hh => by rw [yup_na (by omega)]; exact j3 hh⟩
      · rw [yup_na (by rintro z; have : t = n := by omega
                       subst this; omega)]
        exact i5 t ht (by omega)
      · rw [yup_na (by omega)]; exact i6 q hq
    -- a class's name
    have s66 : (M (A + 20 + n) 0 = 5 ∨ M (A + 20 + n) 0 = 7) → J73_66 f A (n : Int) (A + 20 + n) m = some y → (∃ m', y = .inl ((n : Int) + 1, m') ∧ (n : Int) < s ∧ (0 ≤ (n : Int) + 1 ∧ (n : Int) + 1 ≤ s ∧ fNc A M m' ∧ (∀ t : Nat, (t : Int) < (n : Int) + 1 → ((M (A + 20 + t) 0 = 3 ∨ M (A + 20 + t) 0 = 9) → IX (M A 11) (fun q => M (A + 4) q = M (A + 20 + t) 4) (m' (A + 20 + t) 6)) ∧ ((M (A + 20 + t) 0 = 5 ∨ M (A + 20 + t) 0 = 7) → IX (M A 9) (fun q => M (A + 1) q = M (A + 20 + t) 4) (m' (A + 20 + t) 7) ∧ m' (A + 20 + t) 7 ≠ -1) ∧ (M (A + 20 + t) 0 = 5 → IX (M A 9) (fun q => M (A + 1) q = M (A + 20 + t) 4) (m' (A + 8) (M (A + 20 + t) 6).toNat))) ∧ (∀ t : Nat, t < s → ((n : Int) + 1 ≤ t ∨ ¬ (M (A + 20 + t) 0 = 3 ∨ M (A + 20 + t) 0 = 9)) → m' (A + 20 + t) 6 = M (A + 20 + t) 6) ∧ (∀ q, (∀ t : Nat, t < s → M (A + 20 + t) 0 = 5 → (M (A + 20 + t) 6).toNat ≠ q) → m' (A + 8) q = M (A + 8) q))) ∨ (∃ x, y = .inr (.inr x) ∧ 0 ≤ x.1) := by
      intro hk e
      unfold J73_66 J73_112 at e
      replace e := bP_e e
      obtain ⟨r7, e7, e⟩ := e
      have I7 := F41_r (by omega) (by omega) e7
      rw [m9, c0 4 (by decide) (by decide)] at I7
      have I7' : IX (M A 9) (fun q => M (A + 1) q = M (A + 20 + n) 4) r7 := I7.mp (fun z hz => by rw [i3 (A + 1) z (by omega) (by omega) (by omega)])
      have c6 : m (A + 20 + n) 6 = M (A + 20 + n) 6 := i5 n hn (Or.inr (by omega))
      rw [w1, c0 5 (by decide) (by decide), c0 0 (by decide) (by decide), c6] at e
      rcases ite1 e with ⟨z, e⟩ | ⟨z, e⟩
      · cases e
        exact Or.inr ⟨_, rfl, h5 n hn hk⟩
      left
      rcases ite1 e with ⟨z5, e⟩ | ⟨z5, e⟩
      · cases e
        refine ⟨_, rfl, by omega, by omega, by omega, (i3.st (by omega) (Or.inr rfl)).a8, fun t ht => ?_, fun t ht hh => ?_, fun q hq => ?_⟩
        · rcases sp t ht with rfl | ht'
          · refine ⟨fun hh => by omega, fun _ => ?_, fun _ => ?_⟩
            · rw [yup_na (by omega), yup_eq]; exact ⟨I7', z⟩
            · rw [yup_eq]; exact I7'
          · obtain ⟨j1, j2, j3⟩ := i4 t ht'
            refine ⟨fun hh => by rw [yup_na (by omega), yup_na (by omega)]; exact j1 hh, fun hh => by rw [yup_na (by omega), yup_na (by omega)]; exact j2 hh, fun hh => ?_⟩
            by_cases w : (M (A + 20 + t) 6).toNat = (M (A + 20 + n) 6).toNat
            · rw [w, yup_eq, hU t n (by omega) hn hh z5 w]; exact I7'
            · rw [yup_nk w, yup_na (by omega)]; exact j3 hh
        · rw [yup_na (by omega), yup_ne (by omega)]
          exact i5 t ht (by omega)
        · rw [yup_nk (fun w => hq n hn z5 w.symm), yup_na (by omega)]; exact i6 q hq
      · cases e
        refine ⟨_, rfl, by omega, by omega, by omega, i3.st (by omega) (Or.inr rfl), fun t ht => ?_, fun t ht hh => ?_, fun q hq => ?_⟩
        · rcases sp t ht with rfl | ht'
          · refine ⟨fun hh => by omega, fun _ => ?_, fun hh => by omega⟩
            rw [yup_eq]; exact ⟨I7', z⟩
          · obtain ⟨j1, j2, j3⟩ := i4 t ht'
            exact ⟨fun hh => by rw [yup_na (by omega)]; exact j1 hh, fun hh => by rw [yup_na (by omega)]; exact j2 hh, fun hh => by rw [yup_na (by omega)]; exact j3 hh⟩
        · rw [yup_ne (by omega)]
          exact i5 t ht (by omega)
        · rw [yup_na (by omega)]; exact i6 q hq
    rw [c0 0 (by decide) (by decide)] at e
    rcases ite1 e with ⟨k9, e⟩ | ⟨k9, e⟩
    · exact Or.inl (s34 (Or.inr k9) e)
    rcases ite1 e with ⟨k3, e⟩ | ⟨k3, e⟩
    · exact Or.inl (s34 (Or.inl k3) e)
    rcases ite1 e with ⟨k5, e⟩ | ⟨k5, e⟩
    · rcases s66 (Or.inl k5) e with z | z
      · exact Or.inl z
      · exact Or.inr (Or.inl z)
    rcases ite1 e with ⟨k7, e⟩ | ⟨k7, e⟩
    · rcases s66 (Or.inr k7) e with z | z
      · exact Or.inl z
      · exact Or.inr (Or.inl z)
    unfold J73_112 at e
    rw [w1] at e
    cases e
    refine Or.inl ⟨_, rfl, by omega, by omega, by omega, i3, fun t ht => ?_, fun t ht hh => i5 t ht (by omega), i6⟩
    rcases sp t ht with rfl | ht'
    · exact ⟨fun hh => by omega, fun hh => by omega, fun hh => by omega⟩
    · exact i4 t ht'
  have I0 : (0 ≤ (0 : Int) ∧ (0 : Int) ≤ s ∧ fNc A M M ∧ (∀ t : Nat, (t : Int) < 0 → ((M (A + 20 + t) 0 = 3 ∨ M (A + 20 + t) 0 = 9) → IX (M A 11) (fun q => M (A + 4) q = M (A + 20 + t) 4) (M (A + 20 + t) 6)) ∧ ((M (A + 20 + t) 0 = 5 ∨ M (A + 20 + t) 0 = 7) → IX (M A 9) (fun q => M (A + 1) q = M (A + 20 + t) 4) (M (A + 20 + t) 7) ∧ M (A + 20 + t) 7 ≠ -1) ∧ (M (A + 20 + t) 0 = 5 → IX (M A 9) (fun q => M (A + 1) q = M (A + 20 + t) 4) (M (A + 8) (M (A + 20 + t) 6).toNat))) ∧ (∀ t : Nat, t < s → ((0 : Int) ≤ t ∨ ¬ (M (A + 20 + t) 0 = 3 ∨ M (A + 20 + t) 0 = 9)) → M (A + 20 + t) 6 = M (A + 20 + t) 6) ∧ (∀ q, (∀ t : Nat, t < s → M (A + 20 + t) 0 = 5 → (M (A + 20 + t) 6).toNat ≠ q) → M (A + 8) q = M (A + 8) q)) := ⟨by omega, by omega, fNc.rf, fun t ht => by omega, fun _ _ _ => rfl, fun _ _ => rfl⟩
  rcases bL_e h with ⟨l, m, e1, e2⟩ | ⟨l, m, e1, e2⟩
  · obtain ⟨l', m', hI, e3⟩ := yloop_inv _ (fun l m l' m' hI hB => by
      rcases inv l m _ hI hB with ⟨m2, z, -, z2⟩ | ⟨x, z, -⟩ | ⟨z, -⟩
      · cases z; exact z2
      · cases z
      · cases z) _ _ _ _ I0 e1
    rcases inv l' m' _ hI e3 with ⟨m2, z, -⟩ | ⟨x, z, -⟩ | ⟨z, zl⟩
    · cases z
    · cases z
    · cases z
      obtain ⟨i1, i2, i3, i4, i5, i6⟩ := hI
      replace e2 := bP_e e2
      obtain ⟨v, ev, e2⟩ := e2
      cases e2
      refine ⟨fun t ht => ?_, fun b q z1 z2 z3 => by rw [yup_ne z3]; exact i3 b q z1 z2 z3, ⟨m, by rw [yup_eq]; exact ev, i3⟩, fun q hq => by rw [yup_na (by omega)]; exact i6 q hq⟩
      obtain ⟨j1, j2, j3⟩ := i4 t (by omega)
      have n1 : A + 20 + t ≠ A := by omega
      have n2 : A + 8 ≠ A := by omega
      rw [yup_na n1, yup_na n1, yup_na n2]
      exact ⟨j1, fun hh => i5 t ht (Or.inr hh), j2, j3⟩
  · exfalso
    obtain ⟨l', m', hI, e3⟩ := yloop_inv _ (fun l m l' m' hI hB => by
      rcases inv l m _ hI hB with ⟨m2, z, -, z2⟩ | ⟨x, z, -⟩ | ⟨z, -⟩
      · cases z; exact z2
      · cases z
      · cases z) _ _ _ _ I0 e1
    rcases inv l' m' _ hI e3 with ⟨m2, z, -⟩ | ⟨x, z, z2⟩ | ⟨z, zl⟩
    · cases z
    · cases z
      cases e2
      have : 0 ≤ r := z2
      omega
    · cases z
end RS
end
section
/-! THE MODEL'S LOOKUPS -/
section RSM
variable {p f g : Nat} {mm mm' N : yM}
def RSm (p : Nat) (N mm' : yM) : Prop := (∀ x : Nat, 1 ≤ x → (x : Int) < N 388 p → IX (N 383 p) (fun q => N 391 (6 * p + q) = N 400 (12 * p + x)) (mm' 400 (12 * p + x))) ∧ (∀ q : Nat, ¬ (12 * p + 1 ≤ q ∧ (q : Int) < 12 * p + N 388 p) → mm' 400 q = N 400 q) ∧ (∀ c : Nat, (c : Int) < N 387 p → IX (N 383 p) (fun q => N 391 (6 * p + q) = N 402 (8 * p + c)) (mm' 402 (8 * p + c))) ∧ (∀ q : Nat, ¬ (8 * p ≤ q ∧ (q : Int) < 8 * p + N 387 p) → mm' 402 q = N 402 q) ∧ (∀ u : Nat, (u : Int) < N 390 p → (N 403 (1000 * p + 8 * u) = 4 ∨ N 403 (1000 * p + 8 * u) = 5) → IX (N 385 p) (fun q => N 394 (8 * p + q) = N 403 (1000 * p + 8 * u + 4)) (mm' 403 (1000 * p + 8 * u + 4))) ∧ (∀ q : Nat, ¬ (∃ u : Nat, (u : Int) < N 390 p ∧ q = 1000 * p + 8 * u + 4 ∧ (N 403 (1000 * p + 8 * u) = 4 ∨ N 403 (1000 * p + 8 * u) = 5)) → mm' 403 q = N 403 q) ∧ (∀ a q, a ≠ 400 → a ≠ 402 → a ≠ 403 → ¬ (a = 376 ∧ q = 8) → mm' a q = N a q)
theorem sites_m (hp : p ≤ 1) (h3 : 0 ≤ N 383 p ∧ N 383 p ≤ 6) (h8 : 1 ≤ N 388 p ∧ N 388 p ≤ 12) {r : (Int × yM) ⊕ (Unit × yM)} (h : yloop (fun (l : Int) ml => B141_57 g p l ml) f 1 N = some r) : ∃ l m, r = .inl (l, m) ∧ (∀ a q, a ≠ 400 → m a q = N a q) ∧ (∀ x : Nat, 1 ≤ x → (x : Int) < N 388 p → IX (N 383 p) (fun q => N 391 (6 * p + q) = N 400 (12 * p + x)) (m 400 (12 * p + x))) ∧ (∀ q : Nat, ¬ (12 * p + 1 ≤ q ∧ (q : Int) < 12 * p + N 388 p) → m 400 q = N 400 q) := by
  have step : ∀ (l : Int) (m : yM) (y : (Int × yM) ⊕ ((Int × yM) ⊕ (Unit × yM))), (1 ≤ l ∧ l ≤ N 388 p ∧ (∀ a q, a ≠ 400 → m a q = N a q) ∧ (∀ x : Nat, 1 ≤ x → (x : Int) < l → IX (N 383 p) (fun q => N 391 (6 * p + q) = N 400 (12 * p + x)) (m 400 (12 * p + x))) ∧ (∀ q : Nat, ¬ (12 * p + 1 ≤ q ∧ (q : Int) < 12 * p + l) → m 400 q = N 400 q)) → B141_57 g p l m = some y → (∃ m', y = .inl (l + 1, m') ∧ (1 ≤ l + 1 ∧ l + 1 ≤ N 388 p ∧ (∀ a q, a ≠ 400 → m' a q = N a q) ∧ (∀ x : Nat, 1 ≤ x → (x : Int) < l + 1 → IX (N 383 p) (fun q => N 391 (6 * p + q) = N 400 (12 * p + x)) (m' 400 (12 * p + x))) ∧ (∀ q : Nat, ¬ (12 * p + 1 ≤ q ∧ (q : Int) < 12 * p + (l + 1)) → m' 400 q = N 400 q))) ∨ (y = .inr (.inl (l, m)) ∧ l = N 388 p) := by
    intro l m y ⟨i1, i2, i3, i4, i5⟩ e
    unfold B141_57 at e
    rw [Int.toNat_natCast, i3 388 p (by decide)] at e
    rcases ite1 e with ⟨q, e⟩ | ⟨q, e⟩
    case inr => cases e; exact Or.inr ⟨rfl, by omega⟩
    obtain ⟨n, rfl⟩ : ∃ n : Nat, l = n := ⟨l.toNat, by omega⟩
    have ix : (wr ((wr (12 * (p : Int))) + (n : Int))).toNat = 12 * p + n := by
      rw [wr_i (x := 12 * (p : Int)) (by omega) (by omega), wr_i (by omega) (by omega)]; omega
    rw [ix] at e
    replace e := bP_e e
    obtain ⟨v, ev, e⟩ := e
    rw [wr_i (by omega) (by omega)] at e
    cases e
    have I := F116_r hp (by rw [i3 383 p (by decide)]; exact h3.1) (by rw [i3 383 p (by decide)]; exact h3.2) ev
    rw [i3 383 p (by decide), i5 (12 * p + n) (by omega)] at I
    have I' : IX (N 383 p) (fun q => N 391 (6 * p + q) = N 400 (12 * p + n)) v := I.mp (fun z hz => by rw [i3 391 _ (by decide)])
    refine Or.inl ⟨_, rfl, by omega, by omega, fun a q ha => by rw [yup_na ha]; exact i3 a q ha, fun x x1 x2 => ?_, fun q hq => ?_⟩
    · by_cases z : x = n
      · subst z; rw [yup_eq]; exact I'
      · rw [yup_nk (by omega)]; exact i4 x x1 (by omega)
    · rw [yup_nk (by omega)]; exact i5 q (by omega)
  obtain ⟨l', m', hI, e3⟩ := yloop_inv _ (fun l m l' m' hI hB => by
    rcases step l m _ hI hB with ⟨m2, z, z2⟩ | ⟨z, -⟩
    · cases z; exact z2
    · cases z) _ _ _ _ (show (1 ≤ (1 : Int) ∧ (1 : Int) ≤ N 388 p ∧ (∀ a q, a ≠ 400 → N a q = N a q) ∧ (∀ x : Nat, 1 ≤ x → (x : Int) < 1 → IX (N 383 p) (fun q => N 391 (6 * p + q) = N 400 (12 * p + x)) (N 400 (12 * p + x))) ∧ (∀ q : Nat, ¬ (12 * p + 1 ≤ q ∧ (q : Int) < 12 * p + 1) → N 400 q = N 400 q)) from ⟨by omega, by omega, fun _ _ _ => rfl, fun x x1 x2 => by omega, fun _ _ => rfl⟩) h
  rcases step l' m' _ hI e3 with ⟨m2, z, -⟩ | ⟨z, zl⟩
  · cases z
  · cases z
    obtain ⟨i1, i2, i3, i4, i5⟩ := hI
    rw [zl] at i4 i5
    exact ⟨_, _, rfl, i3, i4, i5⟩
theorem casts_m (hp : p ≤ 1) (h3 : 0 ≤ N 383 p ∧ N 383 p ≤ 6) (h8 : 0 ≤ N 387 p ∧ N 387 p ≤ 8) {r : (Int × yM) ⊕ (Unit × yM)} (h : yloop (fun (l : Int) ml => B141_102 g p l ml) f 0 N = some r) : ∃ l m, r = .inl (l, m) ∧ (∀ a q, a ≠ 402 → m a q = N a q) ∧ (∀ x : Nat, (x : Int) < N 387 p → IX (N 383 p) (fun q => N 391 (6 * p + q) = N 402 (8 * p + x)) (m 402 (8 * p + x))) ∧ (∀ q : Nat, ¬ (8 * p ≤ q ∧ (q : Int) < 8 * p + N 387 p) → m 402 q = N 402 q) := by
  have step : ∀ (l : Int) (m : yM) (y : (Int × yM) ⊕ ((Int × yM) ⊕ (Unit × yM))), (0 ≤ l ∧ l ≤ N 387 p ∧ (∀ a q, a ≠ 402 → m a q = N a q) ∧ (∀ x : Nat, (x : Int) < l → IX (N 383 p) (fun q => N 391 (6 * p + q) = N 402 (8 * p + x)) (m 402 (8 * p + x))) ∧ (∀ q : Nat, ¬ (8 * p ≤ q ∧ (q : Int) < 8 * p + l) → m 402 q = N 402 q)) → B141_102 g p l m = some y → (∃ m', y = .inl (l + 1, m') ∧ (0 ≤ l + 1 ∧ l + 1 ≤ N 387 p ∧ (∀ a q, a ≠ 402 → m' a q = N a q) ∧ (∀ x : Nat, (x : Int) < l + 1 → IX (N 383 p) (fun q => N 391 (6 * p + q) = N 402 (8 * p + x)) (m' 402 (8 * p + x))) ∧ (∀ q : Nat, ¬ (8 * p ≤ q ∧ (q : Int) < 8 * p + (l + 1)) → m' 402 q = N 402 q))) ∨ (y = .inr (.inl (l, m)) ∧ l = N 387 p) := by
    intro l m y ⟨i1, i2, i3, i4, i5⟩ e
    unfold B141_102 at e
    rw [Int.toNat_natCast, i3 387 p (by decide)] at e
    rcases ite1 e with ⟨q, e⟩ | ⟨q, e⟩
    case inr => cases e; exact Or.inr ⟨rfl, by omega⟩
    obtain ⟨n, rfl⟩ : ∃ n : Nat, l = n := ⟨l.toNat, by omega⟩
    have ix : (wr ((wr (8 * (p : Int))) + (n : Int))).toNat = 8 * p + n := by
      rw [wr_i (x := 8 * (p : Int)) (by omega) (by omega), wr_i (by omega) (by omega)]; omega
    rw [ix] at e
    replace e := bP_e e
    obtain ⟨v, ev, e⟩ := e
    rw [wr_i (by omega) (by omega)] at e
    cases e
    have I := F116_r hp (by rw [i3 383 p (by decide)]; exact h3.1) (by rw [i3 383 p (by decide)]; exact h3.2) ev
    rw [i3 383 p (by decide), i5 (8 * p + n) (by omega)] at I
    have I' : IX (N 383 p) (fun q => N 391 (6 * p + q) = N 402 (8 * p + n)) v := I.mp (fun z hz => by rw [i3 391 _ (by decide)])
    refine Or.inl ⟨_, rfl, by omega, by omega, fun a q ha => by rw [yup_na ha]; exact i3 a q ha, fun x x2 => ?_, fun q hq => ?_⟩
    · by_cases z : x = n
      · subst z; rw [yup_eq]; exact I'
      · rw [yup_nk (by omega)]; exact i4 x (by omega)
    · rw [yup_nk (by omega)]; exact i5 q (by omega)
  obtain ⟨l', m', hI, e3⟩ := yloop_inv _ (fun l m l' m' hI hB => by
    rcases step l m _ hI hB with ⟨m2, z, z2⟩ | ⟨z, -⟩
    · cases z; exact z2
    · cases z) _ _ _ _ (show (0 ≤ (0 : Int) ∧ (0 : Int) ≤ N 387 p ∧ (∀ a q, a ≠ 402 → N a q = N a q) ∧ (∀ x : Nat, (x : Int) < 0 → IX (N 383 p) (fun q => N 391 (6 * p + q) = N 402 (8 * p + x)) (N 402 (8 * p + x))) ∧ (∀ q : Nat, ¬ (8 * p ≤ q ∧ (q : Int) < 8 * p + 0) → N 402 q = N 402 q)) from ⟨by omega, by omega, fun _ _ _ => rfl, fun x x2 => by omega, fun _ _ => rfl⟩) h
  rcases step l' m' _ hI e3 with ⟨m2, z, -⟩ | ⟨z, zl⟩
  · cases z
  · cases z
    obtain ⟨i1, i2, i3, i4, i5⟩ := hI
    rw [zl] at i4 i5
    exact ⟨_, _, rfl, i3, i4, i5⟩
def opf (p : Nat) (N : yM) (l : Int) (q : Nat) : Prop := ∃ u : Nat, (u : Int) < l ∧ q = 1000 * p + 8 * u + 4 ∧ (N 403 (1000 * p + 8 * u) = 4 ∨ N 403 (1000 * p + 8 * u) = 5)
theorem ops_m (hp : p ≤ 1) (h3 : 0 ≤ N 385 p ∧ N 385 p ≤ 8) (h8 : 0 ≤ N 390 p ∧ N 390 p ≤ 120) {r : (Int × yM) ⊕ (Unit × yM)} (h : yloop (fun (l : Int) ml => B141_147 g p l ml) f 0 N = some r) : ∃ l m, r = .inl (l, m) ∧ (∀ a q, a ≠ 403 → m a q = N a q) ∧ (∀ u : Nat, (u : Int) < N 390 p → (N 403 (1000 * p + 8 * u) = 4 ∨ N 403 (1000 * p + 8 * u) = 5) → IX (N 385 p) (fun q => N 394 (8 * p + q) = N 403 (1000 * p + 8 * u + 4)) (m 403 (1000 * p + 8 * u + 4))) ∧ (∀ q : Nat, ¬ opf p N (N 390 p) q → m 403 q = N 403 q) := by
  have step : ∀ (l : Int) (m : yM) (y : (Int × yM) ⊕ ((Int × yM) ⊕ (Unit × yM))), (0 ≤ l ∧ l ≤ N 390 p ∧ (∀ a q, a ≠ 403 → m a q = N a q) ∧ (∀ u : Nat, (u : Int) < l → (N 403 (1000 * p + 8 * u) = 4 ∨ N 403 (1000 * p + 8 * u) = 5) → IX (N 385 p) (fun q => N 394 (8 * p + q) = N 403 (1000 * p + 8 * u + 4)) (m 403 (1000 * p + 8 * u + 4))) ∧ (∀ q : Nat, ¬ opf p N l q → m 403 q = N 403 q)) → B141_147 g p l m = some y → (∃ m', y = .inl (l + 1, m') ∧ (0 ≤ l + 1 ∧ l + 1 ≤ N 390 p ∧ (∀ a q, a ≠ 403 → m' a q = N a q) ∧ (∀ u : Nat, (u : Int) < l + 1 → (N 403 (1000 * p + 8 * u) = 4 ∨ N 403 (1000 * p + 8 * u) = 5) → IX (N 385 p) (fun q => N 394 (8 * p + q) = N 403 (1000 * p + 8 * u + 4)) (m' 403 (1000 * p + 8 * u + 4))) ∧ (∀ q : Nat, ¬ opf p N (l + 1) q → m' 403 q = N 403 q))) ∨ (y = .inr (.inl (l, m)) ∧ l = N 390 p) := by
    intro l m y ⟨i1, i2, i3, i4, i5⟩ e
    unfold B141_147 at e
    rw [Int.toNat_natCast, i3 390 p (by decide)] at e
    rcases ite1 e with ⟨q, e⟩ | ⟨q, e⟩
    case inr => cases e; exact Or.inr ⟨rfl, by omega⟩
    obtain ⟨n, rfl⟩ : ∃ n : Nat, l = n := ⟨l.toNat, by omega⟩
    have ix0 : wr ((wr (1000 * (p : Int))) + (wr (8 * (n : Int)))) = ((1000 * p + 8 * n : Nat) : Int) := by
      rw [wr_i (x := 1000 * (p : Int)) (by omega) (by omega), wr_i (x := 8 * (n : Int)) (by omega) (by omega), wr_i (by omega) (by omega)]; omega
    rw [ix0, Int.toNat_natCast] at e
    have w1 : wr ((n : Int) + 1) = (n : Int) + 1 := wr_i (by omega) (by omega)
    have k0 : m 403 (1000 * p + 8 * n) = N 403 (1000 * p + 8 * n) := i5 _ (fun ⟨u, _, u2, _⟩ => by omega)
    have mono : ∀ q, ¬ opf p N ((n : Int) + 1) q → ¬ opf p N (n : Int) q := fun q hq ⟨u, u1, u2, u3⟩ => hq ⟨u, by omega, u2, u3⟩
    have K : (N 403 (1000 * p + 8 * n) = 4 ∨ N 403 (1000 * p + 8 * n) = 5) → J141_188 g p (n : Int) ((1000 * p + 8 * n : Nat) : Int) m = some y → (∃ m', y = .inl ((n : Int) + 1, m') ∧ (0 ≤ (n : Int) + 1 ∧ (n : Int) + 1 ≤ N 390 p ∧ (∀ a q, a ≠ 403 → m' a q = N a q) ∧ (∀ u : Nat, (u : Int) < (n : Int) + 1 → (N 403 (1000 * p + 8 * u) = 4 ∨ N 403 (1000 * p + 8 * u) = 5) → IX (N 385 p) (fun q => N 394 (8 * p + q) = N 403 (1000 * p + 8 * u + 4)) (m' 403 (1000 * p + 8 * u + 4))) ∧ (∀ q : Nat, ¬ opf p N ((n : Int) + 1) q → m' 403 q = N 403 q))) := by
      intro hk e
      unfold J141_188 J141_209 at e
      have ix : (wr (((1000 * p + 8 * n : Nat) : Int) + 4)).toNat = 1000 * p + 8 * n + 4 := by
        rw [wr_i (by omega) (by omega)]; omega
      rw [ix] at e
      replace e := bP_e e
      obtain ⟨v, ev, e⟩ := e
      rw [w1] at e
      cases e
      have I := F120_r hp (by rw [i3 385 p (by decide)]; exact h3.1) (by rw [i3 385 p (by decide)]; exact h3.2) ev
      rw [i3 385 p (by decide), i5 (1000 * p + 8 * n + 4) (fun ⟨u, u1, u2, _⟩ => by omega)] at I
      have I' : IX (N 385 p) (fun q => N 394 (8 * p + q) = N 403 (1000 * p + 8 * n + 4)) v := I.mp (fun z hz => by rw [i3 394 _ (by decide)])
      refine ⟨_, rfl, by omega, by omega, fun a q ha => by rw [yup_na ha]; exact i3 a q ha, fun u u1 u2 => ?_, fun q hq => ?_⟩
      · by_cases z : u = n
        · subst z; rw [yup_eq]; exact I'
        · rw [yup_nk (by omega)]; exact i4 u (by omega) u2
      · rw [yup_nk (fun z => hq ⟨n, by omega, z, hk⟩)]; exact i5 q (mono q hq)
    rw [k0] at e
    rcases ite1 e with ⟨k4, e⟩ | ⟨k4, e⟩
    · exact Or.inl (K (Or.inl k4) e)
    rcases ite1 e with ⟨k5, e⟩ | ⟨k5, e⟩
    · exact Or.inl (K (Or.inr k5) e)
    unfold J141_209 at e
    rw [w1] at e
    cases e
    refine Or.inl ⟨_, rfl, by omega, by omega, i3, fun u u1 u2 => ?_, fun q hq => i5 q (mono q hq)⟩
    by_cases z : u = n
    · subst z
      rcases u2 with u2 | u2
      · exact absurd u2 k4
      · exact absurd u2 k5
    · exact i4 u (by omega) u2
  obtain ⟨l', m', hI, e3⟩ := yloop_inv _ (fun l m l' m' hI hB => by
    rcases step l m _ hI hB with ⟨m2, z, z2⟩ | ⟨z, -⟩
    · cases z; exact z2
    · cases z) _ _ _ _ (show (0 ≤ (0 : Int) ∧ (0 : Int) ≤ N 390 p ∧ (∀ a q, a ≠ 403 → N a q = N a q) ∧ (∀ u : Nat, (u : Int) < 0 → (N 403 (1000 * p + 8 * u) = 4 ∨ N 403 (1000 * p + 8 * u) = 5) → IX (N 385 p) (fun q => N 394 (8 * p + q) = N 403 (1000 * p + 8 * u + 4)) (N 403 (1000 * p + 8 * u + 4))) ∧ (∀ q : Nat, ¬ opf p N 0 q → N 403 q = N 403 q)) from ⟨by omega, by omega, fun _ _ _ => rfl, fun x x2 => by omega, fun _ _ => rfl⟩) h
  rcases step l' m' _ hI e3 with ⟨m2, z, -⟩ | ⟨z, zl⟩
  · cases z
  · cases z
    obtain ⟨i1, i2, i3, i4, i5⟩ := hI
    rw [zl] at i4 i5
    exact ⟨_, _, rfl, i3, i4, i5⟩
theorem asked_m {l : Int} (h : yloop (fun (l : Int) ml => B141_2 g p l ml) f 0 N = some (.inl (l, mm))) : ∀ a q, ¬ (a = 376 ∧ q = 8) → mm a q = N a q := by
  have step : ∀ (l : Int) (m : yM) (y : (Int × yM) ⊕ ((Int × yM) ⊕ (Unit × yM))), (∀ a q, ¬ (a = 376 ∧ q = 8) → m a q = N a q) → B141_2 g p l m = some y → (∃ l' m', y = .inl (l', m') ∧ ∀ a q, ¬ (a = 376 ∧ q = 8) → m' a q = N a q) ∨ y = .inr (.inl (l, m)) := by
    intro l m y hI e
    unfold B141_2 J141_41 at e
    rcases ite1 e with ⟨-, e⟩ | ⟨-, e⟩
    · rcases ite1 e with ⟨-, e⟩ | ⟨-, e⟩
      · replace e := bP_e e
        obtain ⟨v, -, e⟩ := e
        rcases ite1 e with ⟨-, e⟩ | ⟨-, e⟩
        · cases e
          exact Or.inl ⟨_, _, rfl, fun a q z => by rw [yup_ne z]; exact hI a q z⟩
        · cases e
          exact Or.inl ⟨_, _, rfl, hI⟩
      · cases e; exact Or.inr rfl
    · cases e; exact Or.inr rfl
  obtain ⟨l', m', hI, e3⟩ := yloop_inv (fun _ (m : yM) => ∀ a q, ¬ (a = 376 ∧ q = 8) → m a q = N a q) (fun l m l' m' hI hB => by
    rcases step l m _ hI hB with ⟨l2, m2, z, z2⟩ | z
    · cases z; exact z2
    · cases z) _ _ _ _ (fun _ _ _ => rfl) h
  rcases step l' m' _ hI e3 with ⟨l2, m2, z, -⟩ | z
  · cases z
  · cases z; exact hI
theorem res_m (hp : p ≤ 1) (h3 : 0 ≤ N 383 p ∧ N 383 p ≤ 6) (h5 : 0 ≤ N 385 p ∧ N 385 p ≤ 8) (h7 : 0 ≤ N 387 p ∧ N 387 p ≤ 8) (h8 : 1 ≤ N 388 p ∧ N 388 p ≤ 12) (h0 : 0 ≤ N 390 p ∧ N 390 p ≤ 120) (h : F141 g p N = some mm') (hw : mm' 376 8 = -1) : RSm p N mm' := by
  unfold F141 at h
  rcases bL_e h with ⟨l, m1, e1, e2⟩ | ⟨l, m1, e1, e2⟩
  · have f1 := asked_m e1
    unfold J141_47 at e2
    rcases ite1 e2 with ⟨q, e2⟩ | ⟨q, e2⟩
    case inr => cases e2; omega
    rcases bL_e e2 with ⟨l2, m2, e3, e4⟩ | ⟨l2, m2, e3, e4⟩
    · obtain ⟨l', m', z, s1, s2, s3⟩ := sites_m hp (by rw [f1 383 p (by omega)]; exact h3) (by rw [f1 388 p (by omega)]; exact h8) e3
      cases z
      rcases bL_e e4 with ⟨l3, m3, e5, e6⟩ | ⟨l3, m3, e5, e6⟩
      · obtain ⟨l', m', z, c1, c2, c3⟩ := casts_m hp (by rw [s1 383 p (by decide), f1 383 p (by omega)]; exact h3) (by rw [s1 387 p (by decide), f1 387 p (by omega)]; exact h7) e5
        cases z
        rcases bL_e e6 with ⟨l4, m4, e7, e8⟩ | ⟨l4, m4, e7, e8⟩
        · obtain ⟨l', m', z, o1, o2, o3⟩ := ops_m hp (by rw [c1 385 p (by decide), s1 385 p (by decide), f1 385 p (by omega)]; exact h5) (by rw [c1 390 p (by decide), s1 390 p (by decide), f1 390 p (by omega)]; exact h0) e7
          cases z
          cases e8
          have x383 : m2 383 p = N 383 p := by rw [s1 383 p (by decide), f1 383 p (by omega)]
          have x387 : m2 387 p = N 387 p := by rw [s1 387 p (by decide), f1 387 p (by omega)]
          have x385 : m3 385 p = N 385 p := by rw [c1 385 p (by decide), s1 385 p (by decide), f1 385 p (by omega)]
          have x390 : m3 390 p = N 390 p := by rw [c1 390 p (by decide), s1 390 p (by decide), f1 390 p (by omega)]
          have x403 : ∀ q, m3 403 q = N 403 q := fun q => by rw [c1 403 q (by decide), s1 403 q (by decide), f1 403 q (by omega)]
          have x402 : ∀ q, m2 402 q = N 402 q := fun q => by rw [s1 402 q (by decide), f1 402 q (by omega)]
          have x400 : ∀ q, m1 400 q = N 400 q := fun q => f1 400 q (by omega)
          refine ⟨fun x x1 x2 => ?_, fun q hq => ?_, fun c hc => ?_, fun q hq => ?_, fun u hu hk => ?_, fun q hq => ?_, fun a q z1 z2 z3 z4 => ?_⟩
          · rw [o1 400 _ (by decide), c1 400 _ (by decide)]
            have := s2 x x1 (by rw [f1 388 p (by omega)]; exact x2)
            rw [f1 383 p (by omega), x400] at this
            exact this.mp (fun z hz => by rw [f1 391 _ (by omega)])
          · rw [o1 400 _ (by decide), c1 400 _ (by decide), s3 q (by rw [f1 388 p (by omega)]; exact hq), x400]
          · rw [o1 402 _ (by decide)]
            have := c2 c (by rw [x387]; exact hc)
            rw [x383, x402] at this
            exact this.mp (fun z hz => by rw [s1 391 _ (by decide), f1 391 _ (by omega)])
          · rw [o1 402 _ (by decide), c3 q (by rw [x387]; exact hq), x402]
          · have := o2 u (by rw [x390]; exact hu) (by rw [x403]; exact hk)
            rw [x385, x403] at this
            exact this.mp (fun z hz => by rw [c1 394 _ (by decide), s1 394 _ (by decide), f1 394 _ (by omega)])
          · rw [o3 q (fun ⟨u, u1, u2, u3⟩ => hq ⟨u, by rw [← x390]; exact u1, u2, by rw [← x403]; exact u3⟩), x403]
          · rw [o1 a q z3, c1 a q z2, s1 a q z1, f1 a q z4]
        · obtain ⟨l', m', z, -⟩ := ops_m hp (by rw [c1 385 p (by decide), s1 385 p (by decide), f1 385 p (by omega)]; exact h5) (by rw [c1 390 p (by decide), s1 390 p (by decide), f1 390 p (by omega)]; exact h0) e7
          cases z
      · obtain ⟨l', m', z, -⟩ := casts_m hp (by rw [s1 383 p (by decide), f1 383 p (by omega)]; exact h3) (by rw [s1 387 p (by decide), f1 387 p (by omega)]; exact h7) e5
        cases z
    · obtain ⟨l', m', z, -⟩ := sites_m hp (by rw [f1 383 p (by omega)]; exact h3) (by rw [f1 388 p (by omega)]; exact h8) e3
      cases z
  · exfalso
    obtain ⟨l', m', -, i3⟩ := yloop_inv (fun _ _ => True) (fun _ _ _ _ _ _ => trivial) _ _ _ _ trivial e1
    unfold B141_2 J141_41 at i3
    rcases ite1 i3 with ⟨-, i3⟩ | ⟨-, i3⟩
    · rcases ite1 i3 with ⟨-, i3⟩ | ⟨-, i3⟩
      · replace i3 := bP_e i3
        obtain ⟨v, -, i3⟩ := i3
        rcases ite1 i3 with ⟨-, i3⟩ | ⟨-, i3⟩ <;> cases i3
      · cases i3
    · cases i3
end RSM
end
