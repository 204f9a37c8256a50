/-! CONTRACTS: the model, read. Printed by wip/whole/gen9f.py -/
def qMd (nn : Nat) (m : yM) : xO → yM → Nat → Prop := fun o m' n' => ∃ x : Int, o = .inl (some (yI x)) ∧ n' = nn ∧ Fr wML m m' ∧ MI m'
theorem wNx_wML : ∀ a q, wNx a q = true → wML a q = true := wML_of (fun a q h => by simp [wNx] at h; omega)
theorem wNw_wML : ∀ a q, wNw a q = true → wML a q = true := wML_of (fun a q h => by simp [wNw] at h; omega)
theorem wWr_wML : ∀ a q, wWr a q = true → wML a q = true := wML_of (fun a q h => by simp [wWr] at h; omega)
theorem wAz_wML : ∀ a q, wAz a q = true → wML a q = true := wML_of (fun a q h => by simp [wAz] at h; omega)
theorem wRo_wML {R : Nat} (h : 378 ≤ R ∧ R ≤ 412) : ∀ a q, wRo R a q = true → wML a q = true := wML_of (fun a q e => by simp [wRo] at e; omega)
set_option maxRecDepth 100000 in
theorem t152s {L : Nat} {xs : Nat → Int32} {d nn : Nat} {m : yM} {Q : xO → yM → Nat → Prop} {b : Int} (hT : Ty gT m) (ho : ∀ (x2 : Option Value) (mi : yM), Ty gT mi → Fr (wRo 408) m mi → YW (gZ L xs) 152 (d + 13) 199 [some (.ref 376), some (yI b), x2, none] [] mi nn Q) : ∀ (km : Nat) (i : Int) (mi : yM), 576 - i = km → 0 ≤ i ∧ i ≤ 576 → Ty gT mi → Fr (wRo 408) m mi → YW (gZ L xs) 152 (d + 13) 179 [some (.ref 376), some (yI b), some (yI i), none] [] mi nn (Q) := by
  intro km
  induction km using Nat.strongRecOn with
  | ind km ih =>
    intro i mi hk hi hTi hFi
    refine y_iload 180 c152_179 rfl rfl ?_
    refine y_iconst 183 c152_180 rfl ?_
    refine y_icmp 199 186 c152_183 rfl rfl (yc_ge (by omega) (by omega)) (fun hb12908 => ?_) (fun hb12908 => ?_)
    · exact ho _ _ hTi hFi
    · refine y_aload 187 c152_186 rfl rfl rfl ?_
      refine y_getR 190 c152_187 rfl kf376_48 ?_
      refine y_iload 191 c152_190 rfl rfl ?_
      refine y_iconst 192 c152_191 rfl ?_
      refine y_iastore 193 c152_192 rfl ka408 (by omega) (y_nar1 (by omega)) ?_
      have hT12909 := hTi.up 408 i.toNat 0 0 1 rfl (by omega)
      have hF12910 := hFi.up 408 i.toNat 0 rfl
      refine y_iinc 196 c152_193 rfl rfl rfl ?_
      refine y_goto 179 c152_196 rfl ?_
      exact ih (576 - (i + 1) : Int).toNat (by omega) (i + 1)  _ (by omega) (by omega) hT12909 hF12910
set_option maxRecDepth 100000 in
theorem t152n {L : Nat} {xs : Nat → Int32} {d nn : Nat} {m : yM} {Q : xO → yM → Nat → Prop} {b : Int} (hT : Ty gT m) (hQ : ∀ r, -2147483648 ≤ r ∧ r < 2147483648 → Q (.inl (some (yI r))) m nn) : ∀ (km : Nat) (n : Int) (i : Int), 576 - i = km → 0 ≤ i ∧ i ≤ 576 → 0 ≤ n ∧ n ≤ i → YW (gZ L xs) 152 (d + 13) 207 [some (.ref 376), some (yI b), some (yI n), some (yI i)] [] m nn (Q) := by
  intro km
  induction km using Nat.strongRecOn with
  | ind km ih =>
    intro n i hk hi hnn
    refine y_iload 208 c152_207 rfl rfl ?_
    refine y_iconst 211 c152_208 rfl ?_
    refine y_icmp 232 214 c152_211 rfl rfl (yc_ge (by omega) (by omega)) (fun hb12911 => ?_) (fun hb12911 => ?_)
    · refine y_iload 233 c152_232 rfl rfl ?_
      exact y_ireturn c152_233 (y_fit0 _) (hQ _ (by omega))
    · refine y_aload 215 c152_214 rfl rfl rfl ?_
      refine y_getR 218 c152_215 rfl kf376_41 ?_
      refine y_iload 219 c152_218 rfl rfl ?_
      refine y_iaT 220 ((-2147483648)) 2147483647 c152_219 rfl ka404 (by omega) hT rfl (fun v12912 hv12912 gv12912 => ?_)
      refine y_if 226 223 c152_220 rfl rfl (yz_lt (by omega)) (fun hb12913 => ?_) (fun hb12913 => ?_)
      · refine y_iinc 229 c152_226 rfl rfl rfl ?_
        refine y_goto 207 c152_229 rfl ?_
        exact ih (576 - (i + 1) : Int).toNat (by omega) n (i + 1)   (by omega) (by omega) (by omega)
      · refine y_iinc 226 c152_223 rfl rfl rfl ?_
        refine y_iinc 229 c152_226 rfl rfl rfl ?_
        refine y_goto 207 c152_229 rfl ?_
        exact ih (576 - (i + 1) : Int).toNat (by omega) (n + 1) (i + 1)   (by omega) (by omega) (by omega)
