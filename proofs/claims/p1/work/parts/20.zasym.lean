/-! numbers that depend on the script: remainders by 1, machine's numbers, an order's first two places -/
theorem jw_irem1 (x : Int32) : x - x / 1 * 1 = 0 := by
  rw [Int32.div_one, Int32.mul_one, Int32.sub_self]
theorem jw_lrem1 (x : Int64) : x - x / 1 * 1 = 0 := by
  rw [Int64.div_one, Int64.mul_one, Int64.sub_self]
theorem jw_m64 (x : Int64) : (x &&& 2147483647).toInt < 2147483648 := by
  have e : (x &&& 2147483647).toBitVec.toNat = x.toBitVec.toNat % 2 ^ 31 := by
    rw [Int64.toBitVec_and, BitVec.toNat_and, show (2147483647 : Int64).toBitVec.toNat = 2 ^ 31 - 1 by decide +kernel, Nat.and_two_pow_sub_one_eq_mod]
  have h2 : 2 * (x &&& 2147483647).toBitVec.toNat < 2 ^ 64 := by rw [e]; omega
  have h : (x &&& 2147483647).toInt = ((x &&& 2147483647).toBitVec.toNat : Int) := BitVec.toInt_eq_toNat_of_lt h2
  rw [h, e]
  omega
theorem jw_cmpL (x : Int64) : lg_cmp (x &&& 2147483647) 2147483648 = -1 := by
  have h := jw_m64 x
  have h1 : ¬ ((x &&& 2147483647) > (2147483648 : Int64)) := fun g => by
    have g := Int64.lt_iff_toInt_lt.mp g
    rw [show (2147483648 : Int64).toInt = 2147483648 by decide +kernel] at g
    omega
  have h2 : ¬ ((x &&& 2147483647) = (2147483648 : Int64)) := fun g => by
    rw [g, show (2147483648 : Int64).toInt = 2147483648 by decide +kernel] at h
    omega
  unfold lg_cmp
  rw [if_neg h1, if_neg h2]
theorem jw_cmpI (x : Int32) : lg_cmp (x &&& 2147483647).toInt64 2147483648 = -1 := by
  rw [Int32.toInt64_and, show (2147483647 : Int32).toInt64 = 2147483647 by decide +kernel]
  exact jw_cmpL _
theorem jw_ev2 (x : Int32) : ((x * 1103515245) + 12345) &&& 2147483647 = ((((x.toInt64) * 1103515245) + 12345) &&& 2147483647).toInt32 := by
  rw [Int64.toInt32_and, Int64.toInt32_add, Int64.toInt32_mul, Int32.toInt32_toInt64, show (1103515245 : Int64).toInt32 = 1103515245 by decide +kernel, show (12345 : Int64).toInt32 = 12345 by decide +kernel, show (2147483647 : Int64).toInt32 = 2147483647 by decide +kernel]
theorem jw_bu0 {x v : Int32} {c : Nat} (h : x.toBitVec.toNat % 16 = c) (hv : nI (c % 4) = v) : (x.toUInt32 >>> ((0 : Int32).toUInt32 &&& Int32.toUInt32 31)).toInt32 &&& 3 = v := by
  have h1 := pk_and ((x.toUInt32 >>> ((0 : Int32).toUInt32 &&& Int32.toUInt32 31)).toInt32) (m := 3) 2 (by decide +kernel)
  have h2 := pk_ushr x 0 0 (by decide +kernel)
  rw [h1, h2, ← hv]
  congr 1
  omega
theorem jw_bu1 {x v : Int32} {c : Nat} (h : x.toBitVec.toNat % 16 = c) (hv : nI (c / 4) = v) : (x.toUInt32 >>> ((2 : Int32).toUInt32 &&& Int32.toUInt32 31)).toInt32 &&& 3 = v := by
  have h1 := pk_and ((x.toUInt32 >>> ((2 : Int32).toUInt32 &&& Int32.toUInt32 31)).toInt32) (m := 3) 2 (by decide +kernel)
  have h2 := pk_ushr x 2 2 (by decide +kernel)
  rw [h1, h2, ← hv]
  congr 1
  omega
theorem jw_bs0 {x v : Int32} {c : Nat} (h : x.toBitVec.toNat % 16 = c) (hv : nI (c % 4) = v) : (x >>> (0 &&& 31)) &&& 3 = v := by
  have h1 := pk_and x (m := 3) 2 (by decide +kernel)
  rw [sb_shr0 x, h1, ← hv]
  congr 1
  omega
theorem jw_bs1 {x v : Int32} {c : Nat} (h : x.toBitVec.toNat % 16 = c) (hv : nI (c / 4) = v) : (x >>> (2 &&& 31)) &&& 3 = v := by
  have h1 := pk_and (x >>> (2 &&& 31)) (m := 3) 2 (by decide +kernel)
  have h3 : (x >>> (2 &&& 31)).toBitVec = x.toBitVec.sshiftRight 2 := rfl
  have h4 := BitVec.toNat_sshiftRight (x := x.toBitVec) (n := 2)
  have h5 := x.toBitVec.isLt
  rw [h1, h3, h4, ← hv]
  congr 1
  simp only [Nat.shiftRight_eq_div_pow]
  split <;> omega
