/-! THE BYTES OF A LONG -/
def bC (v : Int64) (k : Int) : Int := (Int32.ofInt ((v.toUInt64 >>> ((Int32.ofInt (8 * k)).toInt64.toUInt64 &&& Int64.toUInt64 63)).toInt64.toInt32.toInt) &&& Int32.ofInt 255).toInt
def rB (v : Int64) (k : Int) : Int := (Int32.ofInt ((v >>> ((Int32.ofInt (8 * k)).toInt64 &&& 63)).toInt32.toInt) &&& Int32.ofInt 255).toInt
theorem b255 (x : Int32) : 0 ≤ (x &&& Int32.ofInt 255).toInt ∧ (x &&& Int32.ofInt 255).toInt ≤ 255 := by
  have h : (x &&& Int32.ofInt 255).toBitVec.toNat ≤ 255 := by
    rw [Int32.toBitVec_and, BitVec.toNat_and]
    exact Nat.and_le_right
  have e : (x &&& Int32.ofInt 255).toInt = ((x &&& Int32.ofInt 255).toBitVec.toNat : Int) := by
    show (x &&& Int32.ofInt 255).toBitVec.toInt = _
    exact BitVec.toInt_eq_toNat_of_lt (by omega)
  omega
theorem bC_rng (v : Int64) (k : Int) : 0 ≤ bC v k ∧ bC v k ≤ 255 := b255 _
theorem b32 : ∀ i, i < 32 → ¬ i < 8 → (255#32).getLsbD i = false := by decide
theorem bvlow (x : BitVec 64) (c : Nat) (hc : c ≤ 56) : (BitVec.setWidth 32 (x >>> c)) &&& 255#32 = (BitVec.setWidth 32 (x.sshiftRight c)) &&& 255#32 := by
  apply BitVec.eq_of_getLsbD_eq
  intro i hi
  simp only [BitVec.getLsbD_and, BitVec.getLsbD_setWidth, BitVec.getLsbD_ushiftRight, BitVec.getLsbD_sshiftRight]
  by_cases h8 : i < 8
  · have h1 : c + i < 64 := by omega
    have h2 : ¬ 64 ≤ i := by omega
    simp [h1, h2]
  · simp [b32 i hi h8]
theorem rB_eq {v : Int64} {k : Int} (h : 0 ≤ k ∧ k ≤ 7) : rB v k = bC v k := by
  have hs : ∀ (c : Nat), c ≤ 56 → ∀ (s : Int64) (u : UInt64), (s.toBitVec.smod 64).toNat = c → (u.toBitVec % 64).toNat = c → (Int32.ofInt ((v >>> s).toInt32.toInt) &&& Int32.ofInt 255).toInt = (Int32.ofInt ((v.toUInt64 >>> u).toInt64.toInt32.toInt) &&& Int32.ofInt 255).toInt := by
    intro c hc s u e1 e2
    apply congrArg Int32.toInt
    apply Int32.toBitVec_inj.mp
    rw [Int32.ofInt_toInt, Int32.ofInt_toInt, Int32.toBitVec_and, Int32.toBitVec_and, Int64.toBitVec_toInt32, Int64.toBitVec_toInt32]
    rw [BitVec.signExtend_eq_setWidth_of_le _ (by decide), BitVec.signExtend_eq_setWidth_of_le _ (by decide)]
    have e3 : (v >>> s).toBitVec = v.toBitVec.sshiftRight c := by
      rw [Int64.toBitVec_shiftRight]
      unfold BitVec.sshiftRight'
      rw [e1]
    have e4 : (v.toUInt64 >>> u).toInt64.toBitVec = v.toBitVec >>> c := by
      rw [UInt64.toBitVec_toInt64, UInt64.toBitVec_shiftRight]
      show v.toBitVec >>> (u.toBitVec % 64).toNat = _
      rw [e2]
    rw [e3, e4]
    exact (bvlow v.toBitVec c hc).symm
  have hk : k = 0 ∨ k = 1 ∨ k = 2 ∨ k = 3 ∨ k = 4 ∨ k = 5 ∨ k = 6 ∨ k = 7 := by omega
  rcases hk with rfl | rfl | rfl | rfl | rfl | rfl | rfl | rfl
  · exact hs 0 (by decide) _ _ (by decide +kernel) (by decide +kernel)
  · exact hs 8 (by decide) _ _ (by decide +kernel) (by decide +kernel)
  · exact hs 16 (by decide) _ _ (by decide +kernel) (by decide +kernel)
  · exact hs 24 (by decide) _ _ (by decide +kernel) (by decide +kernel)
  · exact hs 32 (by decide) _ _ (by decide +kernel) (by decide +kernel)
  · exact hs 40 (by decide) _ _ (by decide +kernel) (by decide +kernel)
  · exact hs 48 (by decide) _ _ (by decide +kernel) (by decide +kernel)
  · exact hs 56 (by decide) _ _ (by decide +kernel) (by decide +kernel)
