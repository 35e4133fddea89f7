/-! the numbers of a leap -/
theorem lp_step {K e1 e2 x0 y0 a b c d q : Int} (hK : 0 < K) (h1 : 0 ≤ e1) (h2 : e1 ≤ K) (h3 : 0 ≤ e2) (h4 : e2 ≤ K) (ha : 0 ≤ a) (hb : b ≤ 0) (hc : c ≤ 0) (hd : 0 ≤ d) (hq : 0 ≤ q)
    (r2 : (a * x0 + b * y0 + a) - q * (c * x0 + d * y0 + c) < c * x0 + d * y0 + c) (r3 : 0 ≤ (a * x0 + b * y0 + b) - q * (c * x0 + d * y0 + d)) :
    0 ≤ (a * (x0 * K + e1) + b * (y0 * K + e2)) - q * (c * (x0 * K + e1) + d * (y0 * K + e2)) ∧ (a * (x0 * K + e1) + b * (y0 * K + e2)) - q * (c * (x0 * K + e1) + d * (y0 * K + e2)) < c * (x0 * K + e1) + d * (y0 * K + e2) := by
  have qc : q * c ≤ 0 := Int.mul_nonpos_of_nonneg_of_nonpos hq hc
  have qd : 0 ≤ q * d := Int.mul_nonneg hq hd
  have i1 : (a * (x0 * K + e1) + b * (y0 * K + e2)) - q * (c * (x0 * K + e1) + d * (y0 * K + e2)) = ((a * x0 + b * y0 + b) - q * (c * x0 + d * y0 + d)) * K + (a - q * c) * e1 + (q * d - b) * (K - e2) := by grind
  have i2 : (c * (x0 * K + e1) + d * (y0 * K + e2)) - ((a * (x0 * K + e1) + b * (y0 * K + e2)) - q * (c * (x0 * K + e1) + d * (y0 * K + e2))) = ((c * x0 + d * y0 + c) - ((a * x0 + b * y0 + a) - q * (c * x0 + d * y0 + c))) * K + (a - q * c - c) * (K - e1) + (d - (b - q * d)) * e2 := by grind
  have n1 := Int.mul_nonneg r3 (Int.le_of_lt hK)
  have n2 := Int.mul_nonneg (show 0 ≤ a - q * c by omega) h1
  have n3 := Int.mul_nonneg (show 0 ≤ q * d - b by omega) (show 0 ≤ K - e2 by omega)
  have m1 := Int.mul_pos (show 0 < (c * x0 + d * y0 + c) - ((a * x0 + b * y0 + a) - q * (c * x0 + d * y0 + c)) by omega) hK
  have m2 := Int.mul_nonneg (show 0 ≤ a - q * c - c by omega) (show 0 ≤ K - e1 by omega)
  have m3 := Int.mul_nonneg (show 0 ≤ d - (b - q * d) by omega) h3
  constructor
  · rw [i1]; omega
  · omega
/-- signed longs -/
def iL (z : Int) : Int64 := Int64.ofInt z
theorem iL_add (x y : Int) : iL x + iL y = iL (x + y) := (Int64.ofInt_add x y).symm
theorem iL_mul (x y : Int) : iL x * iL y = iL (x * y) := (Int64.ofInt_mul x y).symm
theorem iL_sub (x y : Int) : iL x - iL y = iL (x - y) := (Int64.ofInt_sub x y).symm
theorem iL_n (n : Nat) : iL (n : Int) = lN n := by
  apply Int64.toBitVec_inj.mp
  show BitVec.ofInt 64 (n : Int) = BitVec.ofNat 64 n
  exact BitVec.ofInt_natCast ..
theorem iL_ti {z : Int} (h1 : -9223372036854775808 ≤ z) (h2 : z ≤ 9223372036854775807) : (iL z).toInt = z := Int64.toInt_ofInt_of_le h1 (by omega)
theorem iL_w (z : Int) : iL z = lN (z % 18446744073709551616).toNat := by
  rw [← iL_n, Int.toNat_of_nonneg (Int.emod_nonneg _ (by decide))]
  unfold iL
  apply Int64.toInt_inj.mp
  rw [Int64.toInt_ofInt, Int64.toInt_ofInt]
  exact (Int.emod_bmod (n := 18446744073709551616) ..).symm
theorem iL_mask (z : Int) : iL z &&& 4294967295 = lN (z % 4294967296).toNat := by
  rw [iL_w, l_maskA]
  congr 1
  omega
theorem iL_shr {z : Int} (h1 : -9223372036854775808 ≤ z) (h2 : z ≤ 9223372036854775807) : iL z >>> ((32 : Int32).toInt64 &&& 63) = iL (z / 4294967296) := by
  apply Int64.toInt_inj.mp
  rw [iL_ti (by omega) (by omega)]
  have h3 := iL_ti h1 h2
  generalize iL z = x at h3
  have e : (((32 : Int32).toInt64 &&& 63).toBitVec.smod 64).toNat = 32 := by decide
  show (x >>> ((32 : Int32).toInt64 &&& 63)).toBitVec.toInt = _
  rw [Int64.toBitVec_shiftRight, BitVec.sshiftRight', BitVec.toInt_sshiftRight, e, Int.shiftRight_eq_div_pow]
  show x.toInt / _ = _
  rw [h3]
  rfl

