/-! A byte of a number, by either shift. -/
theorem bv_byte (x : BitVec 32) (s : Nat) (hs : s ≤ 24) : (x >>> s) &&& 255#32 = (x.sshiftRight s) &&& 255#32 := by
  apply BitVec.eq_of_getLsbD_eq
  intro i hi
  rw [BitVec.getLsbD_and, BitVec.getLsbD_and]
  by_cases h8 : i < 8
  · rw [BitVec.getLsbD_ushiftRight, BitVec.getLsbD_sshiftRight]
    have h1 : s + i < 32 := by omega
    have h9 : ¬ 32 ≤ i := by omega
    simp [h1, hi, h9]
  · have h2 : (255#32).getLsbD i = false := by
      have h3 : (255 : Nat) < 2 ^ i := Nat.lt_of_lt_of_le (by decide : 255 < 2 ^ 8) (Nat.pow_le_pow_right (by decide) (by omega))
      rw [BitVec.getLsbD_ofNat, Nat.testBit_lt_two_pow h3, Bool.and_false]
    rw [h2, Bool.and_false, Bool.and_false]
theorem byte_e (v : Int32) {k : Nat} (hk : k ≤ 3) : ushr v (nI (8 * k)) &&& 255 = (v >>> (nI (8 * k) &&& 31)) &&& 255 := by
  apply Int32.toBitVec_inj.mp
  rcases (show k = 0 ∨ k = 1 ∨ k = 2 ∨ k = 3 by omega) with rfl | rfl | rfl | rfl
  · exact bv_byte v.toBitVec 0 (by decide)
  · exact bv_byte v.toBitVec 8 (by decide)
  · exact bv_byte v.toBitVec 16 (by decide)
  · exact bv_byte v.toBitVec 24 (by decide)
