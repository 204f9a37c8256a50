/-! A BLOCK IS SHUT -/
section SH
variable {tx : Int → Int} {len : Int} {n : Nat} {en tk tp tn : Nat → Int} {A p k res s o a d : Nat} {mc mm mc' mm' M N M' N' : yM} {cs st : Int}
theorem shutW {g i o' : Nat} {n1 : yM} (T : TOK tx len n en tk tp tn) (hl : len ≤ 320) (hp : p ≤ 1) (hd : d ≤ 3) (ho : o ≤ 120) (ho' : o' ≤ 120) (hk : k < 10) (hM : MT tx len n en tk tp tn p i N) (ht : tk i = 125) (h10 : N 376 10 = (d : Int) + 1) (h378 : N 378 d = 3) (h379 : N 379 d = o) (h390 : N 390 p = o') (h384 : N 384 p = (k : Int) + 1) (h : F129 g N = some n1) : ∃ n4, MT tx len n en tk tp tn p (i + 1) n4 ∧ (∀ b q, ¬ (b = 376 ∧ 3 ≤ q ∧ q ≤ 7) → n4 b q = N b q) ∧ n1 = yup (yup (emM p o' k 11 0 o 0 n4) 403 (1000 * p + 8 * o + 3) ((o' : Int) + 1)) 376 10 d := by
  unfold F129 at h
  replace h := bU_e h
  obtain ⟨n4, e1, h⟩ := h
  obtain ⟨hM4, f4⟩ := hM.next T hl (by omega) e1
  have g10 : n4 376 10 = (d : Int) + 1 := by rw [f4 _ _ (by omega)]; exact h10
  refine ⟨n4, hM4, f4, ?_⟩
  have w1 : (wr ((d : Int) + 1 - 1)).toNat = d := by rw [wr_i (by omega) (by omega)]; omega
  rw [g10, w1, f4 378 d (by omega), h378, if_pos rfl, f4 379 d (by omega), h379] at h
  replace h := bI_e h
  obtain ⟨r1, n5, e2, h⟩ := h
  obtain ⟨-, rfl⟩ := F127_r (p := p) (o := o') (k := k) hp hM4.2.2.1 (by rw [f4 _ _ (by omega)]; exact h390) ho' (by rw [f4 _ _ (by omega)]; exact h384) hk e2
  have e10 : emM p o' k 11 0 o 0 n4 376 10 = (d : Int) + 1 := by rw [em_o (by omega) (by omega)]; exact g10
  have e378 : emM p o' k 11 0 o 0 n4 378 d = 3 := by rw [em_o (by omega) (by omega), f4 _ _ (by omega)]; exact h378
  unfold J129_41 at h
  rw [e10, w1, e378, if_neg (by decide)] at h
  unfold J129_119 at h
  replace h := bU_e h
  obtain ⟨n6, e3, h⟩ := h
  have e18 : emM p o' k 11 0 o 0 n4 376 18 = 1 - (p : Int) := by rw [em_o (by omega) (by omega)]; exact hM4.2.2.1
  have e6 := F128_r hp e18 ho e3
  subst e6
  rw [yup_na (by decide), e10, em_n, wr_i (by omega) (by omega), show (d : Int) + 1 - 1 = d by omega] at h
  cases h
  rfl
theorem shutP {g i o' x : Nat} {n1 : yM} (T : TOK tx len n en tk tp tn) (hl : len ≤ 320) (hp : p ≤ 1) (hd : d ≤ 3) (hx : x ≤ 120) (hM : MT tx len n en tk tp tn p i N) (ht : tk i = 125) (h10 : N 376 10 = (d : Int) + 1) (h378 : N 378 d ≠ 3) (h7 : N 378 d ≠ 1 ∨ tk (i + 1) ≠ 7) (h379 : N 379 d = x) (h390 : N 390 p = o') (h : F129 g N = some n1) : ∃ n4, MT tx len n en tk tp tn p (i + 1) n4 ∧ (∀ b q, ¬ (b = 376 ∧ 3 ≤ q ∧ q ≤ 7) → n4 b q = N b q) ∧ n1 = yup (yup n4 403 (1000 * p + 8 * x + 3) (o' : Int)) 376 10 d := by
  unfold F129 at h
  replace h := bU_e h
  obtain ⟨n4, e1, h⟩ := h
  obtain ⟨hM4, f4⟩ := hM.next T hl (by omega) e1
  have g10 : n4 376 10 = (d : Int) + 1 := by rw [f4 _ _ (by omega)]; exact h10
  refine ⟨n4, hM4, f4, ?_⟩
  have w1 : (wr ((d : Int) + 1 - 1)).toNat = d := by rw [wr_i (by omega) (by omega)]; omega
  rw [g10, w1, f4 378 d (by omega), if_neg h378, f4 379 d (by omega), h379] at h
  have hh : J129_119 g (x : Int) n4 = some n1 := by
    unfold J129_41 at h
    rcases ite1 h with ⟨q, h⟩ | ⟨q, h⟩
    · rw [g10, w1, f4 378 d (by omega)] at q
      rcases h7 with z | z
      · exact absurd q z
      · rw [hM4.2.2.2.2.isElse T, if_neg z, if_pos rfl] at h
        exact h
    · exact h
  unfold J129_119 at hh
  replace hh := bU_e hh
  obtain ⟨n6, e3, hh⟩ := hh
  have e6 := F128_r hp hM4.2.2.1 hx e3
  subst e6
  rw [yup_na (by decide), g10, f4 390 p (by omega), h390, wr_i (by omega) (by omega), show (d : Int) + 1 - 1 = d by omega] at hh
  cases hh
  rfl
theorem shutE {g i o' : Nat} {n1 : yM} (T : TOK tx len n en tk tp tn) (hl : len ≤ 320) (hp : p ≤ 1) (hd : d ≤ 3) (ho : o ≤ 120) (ho' : o' ≤ 120) (hk : k < 10) (hM : MT tx len n en tk tp tn p i N) (ht : tk i = 125) (h10 : N 376 10 = (d : Int) + 1) (h378 : N 378 d = 1) (h7 : tk (i + 1) = 7) (h379 : N 379 d = o) (h390 : N 390 p = o') (h384 : N 384 p = (k : Int) + 1) (h : F129 g N = some n1) : ∃ n4 r, MT tx len n en tk tp tn p (i + 2) n4 ∧ (∀ b q, ¬ (b = 376 ∧ 3 ≤ q ∧ q ≤ 7) → n4 b q = N b q) ∧ F118 g 123 (yup (yup (yup (emM p o' k 11 0 0 0 n4) 403 (1000 * p + 8 * o + 3) ((o' : Int) + 1)) 378 d 2) 379 d o') = some (r, n1) := by
  unfold F129 at h
  replace h := bU_e h
  obtain ⟨n3, e1, h⟩ := h
  obtain ⟨hM3, f3⟩ := hM.next T hl (by omega) e1
  have g10 : n3 376 10 = (d : Int) + 1 := by rw [f3 _ _ (by omega)]; exact h10
  have w1 : (wr ((d : Int) + 1 - 1)).toNat = d := by rw [wr_i (by omega) (by omega)]; omega
  rw [g10, w1, f3 378 d (by omega), h378, if_neg (by decide), f3 379 d (by omega), h379] at h
  unfold J129_41 at h
  rw [g10, w1, f3 378 d (by omega), h378, if_pos rfl, hM3.2.2.2.2.isElse T, if_pos h7, if_neg (by decide)] at h
  replace h := bU_e h
  obtain ⟨n4, e2, h⟩ := h
  obtain ⟨hM4, f4⟩ := hM3.next T hl (by omega) e2
  have f4' : ∀ b q, ¬ (b = 376 ∧ 3 ≤ q ∧ q ≤ 7) → n4 b q = N b q := fun b q z => (f4 b q z).trans (f3 b q z)
  replace h := bI_e h
  obtain ⟨r1, n5, e3, h⟩ := h
  obtain ⟨rfl, rfl⟩ := F127_r (p := p) (o := o') (k := k) hp hM4.2.2.1 (by rw [f4' _ _ (by omega)]; exact h390) ho' (by rw [f4' _ _ (by omega)]; exact h384) hk e3
  replace h := bU_e h
  obtain ⟨n6, e4, h⟩ := h
  have e18 : emM p o' k 11 0 0 0 n4 376 18 = 1 - (p : Int) := by rw [em_o (by omega) (by omega)]; exact hM4.2.2.1
  have e6 := F128_r hp e18 ho e4
  subst e6
  have e10 : (yup (emM p o' k 11 0 0 0 n4) 403 (1000 * p + 8 * o + 3) (emM p o' k 11 0 0 0 n4 390 p)) 376 10 = (d : Int) + 1 := by rw [yup_na (by decide), em_o (by omega) (by omega), f4' _ _ (by omega)]; exact h10
  rw [e10, w1, em_n] at h
  replace h := bI_e h
  obtain ⟨r7, n7, e7, h⟩ := h
  refine ⟨n4, r7, hM4, f4', ?_⟩
  rcases ite1 h with ⟨q, h⟩ | ⟨q, h⟩
  · cases h; exact e7
  · cases h; exact e7
end SH
