/-! ===== bits of small masks ===== -/
theorem jI_nat (n : Nat) : jI (n : Int) = nI n := by unfold jI nI; rw [Int32.ofInt_eq_ofNat]
theorem sh_cnt : ∀ n, n < 32 → ((nI n &&& 31).toBitVec.smod 32).toNat = n := by decide +kernel
theorem bt_get {N i : Nat} (hN : N < 2147483648) (hi : i < 31) : (jI ((jI (N : Int) >>> (jI (i : Int) &&& 31)).toInt) &&& jI 1).toInt = if N.testBit i then 1 else 0 := by
  rw [jI_self, jI_nat, jI_nat, pk_shrN (by omega) _ i (sh_cnt i (by omega)), show jI 1 = (1 : Int32) from rfl, pk_andN (n := N / 2 ^ i) (Nat.lt_of_le_of_lt (Nat.div_le_self _ _) (by omega)) 1 (by decide), nI_toInt (by omega)]
  rw [Nat.testBit_eq_decide_div_mod_eq]
  by_cases h : N / 2 ^ i % 2 = 1
  · rw [show (2 : Nat) ^ 1 = 2 from rfl, h]; simp
  · have h2 : N / 2 ^ i % 2 = 0 := by omega
    rw [show (2 : Nat) ^ 1 = 2 from rfl, h2]; simp
theorem bt_one {i : Nat} (hi : i < 31) : (jI 1 <<< (jI (i : Int) &&& 31)).toInt = ((2 ^ i : Nat) : Int) := by
  have h2 : (2 : Nat) ^ i < 2 ^ 31 := Nat.pow_lt_pow_right (by omega) hi
  rw [jI_nat, show jI 1 = nI 1 from rfl, pk_shlN (n := 1) _ i (sh_cnt i (by omega)) (by omega), nI_toInt (by omega), Nat.one_mul]
theorem bt_set {N i : Nat} (hN : N < 2147483648) (hi : i < 31) : (jI (N : Int) ||| jI ((jI 1 <<< (jI (i : Int) &&& 31)).toInt)).toInt = ((N ||| 2 ^ i : Nat) : Int) := by
  have h2 : (2 : Nat) ^ i < 2 ^ 31 := Nat.pow_lt_pow_right (by omega) hi
  rw [bt_one hi, jI_nat, jI_nat]
  have e : nI N ||| nI (2 ^ i) = nI (N ||| 2 ^ i) := by
    apply Int32.toBitVec_inj.mp
    rw [Int32.toBitVec_or]
    show BitVec.ofNat 32 N ||| BitVec.ofNat 32 (2 ^ i) = BitVec.ofNat 32 (N ||| 2 ^ i)
    rw [BitVec.ofNat_or]
  rw [e, nI_toInt (Nat.or_lt_two_pow (by omega) (by omega))]
theorem bt_lt {N i k : Nat} (hN : N < 2 ^ k) (hi : i < k) : (N ||| 2 ^ i) < 2 ^ k := Nat.or_lt_two_pow hN (Nat.pow_lt_pow_right (by omega) hi)
theorem bt_or (N i j : Nat) : (N ||| 2 ^ i).testBit j = (N.testBit j || decide (i = j)) := by
  rw [Nat.testBit_or, Nat.testBit_two_pow]
