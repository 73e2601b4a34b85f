theorem nI_div {a b : Nat} (ha : a < 2147483648) (hb : b < 2147483648) (hb0 : 0 < b) : nI a / nI b = nI (a / b) := by
  apply Int32.toInt_inj.mp
  have hle : a / b ≤ a := Nat.div_le_self a b
  rw [Int32.toInt_div, nI_toInt (by omega), nI_toInt (by omega), nI_toInt (by omega)]
  have h1 : (a : Int).tdiv (b : Int) = ((a / b : Nat) : Int) := by
    rw [Int.tdiv_eq_ediv_of_nonneg (by omega)]; rfl
  rw [h1]
  generalize a / b = q at hle ⊢
  apply Int.bmod_eq_of_le <;> omega
theorem nI_m1 (a : Nat) : nI (a + 1) + (-1) = nI a := by rw [← nI_1, Int32.add_assoc, show (1 : Int32) + (-1) = 0 by decide, Int32.add_zero]
theorem remL (m x q : Nat) (hx : x = 1000 * q + m) (hm : m < 1000 ∧ x < 100000) : nI x - nI x / 1000 * 1000 = nI m := by
  show nI x - nI x / nI 1000 * nI 1000 = nI m
  rw [nI_div (by omega) (by omega) (by omega), nI_mul, nI_sub (Nat.div_mul_le_self x 1000)]
  congr 1
  omega
theorem rem_len {key m : Nat} (hm : m ≤ 96) (hk : key ≤ 2) : nI (1000 * key + m) - nI (1000 * key + m) / 1000 * 1000 = nI m := remL m (1000 * key + m) key rfl (by omega)
