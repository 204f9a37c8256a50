/-! THE PURE STATEMENT: one call on a fresh object -/
theorem b15 (x : Int32) : 0 ≤ (x &&& Int32.ofInt 15).toInt ∧ (x &&& Int32.ofInt 15).toInt ≤ 15 := by
  have h : (x &&& Int32.ofInt 15).toBitVec.toNat ≤ 15 := by
    rw [Int32.toBitVec_and, BitVec.toNat_and]
    exact Nat.and_le_right
  have e : (x &&& Int32.ofInt 15).toInt = ((x &&& Int32.ofInt 15).toBitVec.toNat : Int) := by
    show (x &&& Int32.ofInt 15).toBitVec.toInt = _
    exact BitVec.toInt_eq_toNat_of_lt (by omega)
  omega
theorem i32r (x : Int32) : -2147483648 ≤ x.toInt ∧ x.toInt < 2147483648 := ⟨x.le_toInt, x.toInt_lt⟩
set_option maxRecDepth 100000 in
theorem g1_short {L : Nat} {xs : Nat → Int32} (hL : L < 4) : YW (gZ L xs) 218 60 23 [some (.retAddr 0), some (.ref 0), some (.ref 376), some (.ref 413), some (yI 0), none, none] [] gMem 414 gQ1 := by
  have hz : zLn (gZ L xs) = L := rfl
  refine y_iload 25 c218_23 rfl rfl ?_
  refine y_aload 26 c218_25 rfl rfl rfl ?_
  refine y_slen 27 c218_26 rfl ?_
  refine y_iconst 28 c218_27 rfl ?_
  refine y_isub 29 c218_28 rfl ?_
  refine y_icmp 959 32 c218_29 rfl rfl (yc_gt (by omega) (by omega)) (fun hb => ?_) (fun hb => ?_)
  · refine y_iconst 960 c218_959 rfl ?_
    exact y_ireturn c218_960 (y_fit1 (by omega)) ⟨rfl, by omega⟩
  · exfalso; omega
theorem g1_all {xs : Nat → Int32} : YW (gZ 4 xs) 218 60 23 [some (.retAddr 0), some (.ref 0), some (.ref 376), some (.ref 413), some (yI 0), none, none] [] gMem 414 gQ1 := by
  have hb := b15 (Int32.ofInt (xs 0).toInt)
  have hc : (Int32.ofInt (xs 0).toInt &&& Int32.ofInt 15).toInt = 0 ∨ (Int32.ofInt (xs 0).toInt &&& Int32.ofInt 15).toInt = 1 ∨ (Int32.ofInt (xs 0).toInt &&& Int32.ofInt 15).toInt = 2 ∨ (Int32.ofInt (xs 0).toInt &&& Int32.ofInt 15).toInt = 3 ∨ (Int32.ofInt (xs 0).toInt &&& Int32.ofInt 15).toInt = 4 ∨ (Int32.ofInt (xs 0).toInt &&& Int32.ofInt 15).toInt = 5 ∨ (Int32.ofInt (xs 0).toInt &&& Int32.ofInt 15).toInt = 6 ∨ (Int32.ofInt (xs 0).toInt &&& Int32.ofInt 15).toInt = 7 ∨ (Int32.ofInt (xs 0).toInt &&& Int32.ofInt 15).toInt = 8 ∨ (Int32.ofInt (xs 0).toInt &&& Int32.ofInt 15).toInt = 9 ∨ (Int32.ofInt (xs 0).toInt &&& Int32.ofInt 15).toInt = 10 ∨ (Int32.ofInt (xs 0).toInt &&& Int32.ofInt 15).toInt = 11 ∨ (Int32.ofInt (xs 0).toInt &&& Int32.ofInt 15).toInt = 12 ∨ (Int32.ofInt (xs 0).toInt &&& Int32.ofInt 15).toInt = 13 ∨ (Int32.ofInt (xs 0).toInt &&& Int32.ofInt 15).toInt = 14 ∨ (Int32.ofInt (xs 0).toInt &&& Int32.ofInt 15).toInt = 15 := by omega
  rcases hc with h | h | h | h | h | h | h | h | h | h | h | h | h | h | h | h
  · exact g1_0 xs _ _ _ _ rfl rfl rfl rfl (i32r _) (i32r _) (i32r _) h
  · exact g1_1 xs _ _ _ _ rfl rfl rfl rfl (i32r _) (i32r _) (i32r _) h
  · exact g1_2 xs _ _ _ _ rfl rfl rfl rfl (i32r _) (i32r _) (i32r _) h
  · exact g1_3 xs _ _ _ _ rfl rfl rfl rfl (i32r _) (i32r _) (i32r _) h
  · exact g1_4 xs _ _ _ _ rfl rfl rfl rfl (i32r _) (i32r _) (i32r _) h
  · exact g1_5 xs _ _ _ _ rfl rfl rfl rfl (i32r _) (i32r _) (i32r _) h
  · exact g1_6 xs _ _ _ _ rfl rfl rfl rfl (i32r _) (i32r _) (i32r _) h
  · exact g1_7 xs _ _ _ _ rfl rfl rfl rfl (i32r _) (i32r _) (i32r _) h
  · exact g1_8 xs _ _ _ _ rfl rfl rfl rfl (i32r _) (i32r _) (i32r _) h
  · exact g1_9 xs _ _ _ _ rfl rfl rfl rfl (i32r _) (i32r _) (i32r _) h
  · exact g1_10 xs _ _ _ _ rfl rfl rfl rfl (i32r _) (i32r _) (i32r _) h
  · exact g1_11 xs _ _ _ _ rfl rfl rfl rfl (i32r _) (i32r _) (i32r _) h
  · exact g1_12 xs _ _ _ _ rfl rfl rfl rfl (i32r _) (i32r _) (i32r _) h
  · exact g1_13 xs _ _ _ _ rfl rfl rfl rfl (i32r _) (i32r _) (i32r _) h
  · exact g1_14 xs _ _ _ _ rfl rfl rfl rfl (i32r _) (i32r _) (i32r _) h
  · exact g1_15 xs _ _ _ _ rfl rfl rfl rfl (i32r _) (i32r _) (i32r _) h
theorem gPure_ok : gPure := by
  intro L xs hL
  have K : YW (gZ L xs) 218 60 23 [some (.retAddr 0), some (.ref 0), some (.ref 376), some (.ref 413), some (yI 0), none, none] [] gMem 414 gQ1 := by
    by_cases h4 : L = 4
    · subst h4
      exact g1_all
    · exact g1_short (by omega)
  obtain ⟨r, h', m', n', hx, hl, hq⟩ := gStart K
  obtain ⟨n, hn⟩ := hx
  obtain ⟨rfl, hq2⟩ := hq
  obtain ⟨l1, l2, l3, -⟩ := hl
  have l3 : xsz h' ≤ 11627 + 6 * n' := l3
  refine ⟨n, h', hn, ?_, ?_⟩
  · omega
  · omega
