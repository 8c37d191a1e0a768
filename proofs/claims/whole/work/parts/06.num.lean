/-! numbers: machine ints and longs as images of whole numbers -/
def iI (z : Int) : Int32 := Int32.ofInt z
def jI (z : Int) : Int64 := Int64.ofInt z
theorem iI_add (a b : Int) : iI a + iI b = iI (a + b) := (Int32.ofInt_add a b).symm
theorem iI_sub (a b : Int) : iI a - iI b = iI (a - b) := (Int32.ofInt_sub a b).symm
theorem iI_mul (a b : Int) : iI a * iI b = iI (a * b) := (Int32.ofInt_mul a b).symm
theorem iI_neg (a : Int) : -iI a = iI (-a) := (Int32.ofInt_neg a).symm
theorem jI_add (a b : Int) : jI a + jI b = jI (a + b) := (Int64.ofInt_add a b).symm
theorem jI_sub (a b : Int) : jI a - jI b = jI (a - b) := (Int64.ofInt_sub a b).symm
theorem jI_mul (a b : Int) : jI a * jI b = jI (a * b) := (Int64.ofInt_mul a b).symm
theorem jI_neg (a : Int) : -jI a = jI (-a) := (Int64.ofInt_neg a).symm
theorem iI_toInt {a : Int} (h1 : -2147483648 ≤ a) (h2 : a < 2147483648) : (iI a).toInt = a := Int32.toInt_ofInt_of_le (by omega) (by omega)
theorem jI_toInt {a : Int} (h1 : -9223372036854775808 ≤ a) (h2 : a < 9223372036854775808) : (jI a).toInt = a := Int64.toInt_ofInt_of_le (by omega) (by omega)
theorem iI_of (x : Int32) : iI x.toInt = x := Int32.ofInt_toInt x
theorem jI_of (x : Int64) : jI x.toInt = x := Int64.ofInt_toInt x
theorem i_lo (x : Int32) : -2147483648 ≤ x.toInt := by have := x.le_toInt; omega
theorem i_hi (x : Int32) : x.toInt < 2147483648 := by have := x.toInt_lt; omega
theorem j_lo (x : Int64) : -9223372036854775808 ≤ x.toInt := by have := x.le_toInt; omega
theorem j_hi (x : Int64) : x.toInt < 9223372036854775808 := by have := x.toInt_lt; omega
theorem i_ex (x : Int32) : ∃ z : Int, x = iI z ∧ -2147483648 ≤ z ∧ z < 2147483648 := ⟨x.toInt, (iI_of x).symm, i_lo x, i_hi x⟩
theorem j_ex (x : Int64) : ∃ z : Int, x = jI z ∧ -9223372036854775808 ≤ z ∧ z < 9223372036854775808 := ⟨x.toInt, (jI_of x).symm, j_lo x, j_hi x⟩
theorem iI_lt {a b : Int} (a1 : -2147483648 ≤ a) (a2 : a < 2147483648) (b1 : -2147483648 ≤ b) (b2 : b < 2147483648) : iI a < iI b ↔ a < b := by
  rw [Int32.lt_iff_toInt_lt, iI_toInt a1 a2, iI_toInt b1 b2]
theorem iI_le {a b : Int} (a1 : -2147483648 ≤ a) (a2 : a < 2147483648) (b1 : -2147483648 ≤ b) (b2 : b < 2147483648) : iI a ≤ iI b ↔ a ≤ b := by
  rw [Int32.le_iff_toInt_le, iI_toInt a1 a2, iI_toInt b1 b2]
theorem iI_eq {a b : Int} (a1 : -2147483648 ≤ a) (a2 : a < 2147483648) (b1 : -2147483648 ≤ b) (b2 : b < 2147483648) : iI a = iI b ↔ a = b := by
  rw [← Int32.toInt_inj, iI_toInt a1 a2, iI_toInt b1 b2]
theorem jI_lt {a b : Int} (a1 : -9223372036854775808 ≤ a) (a2 : a < 9223372036854775808) (b1 : -9223372036854775808 ≤ b) (b2 : b < 9223372036854775808) : jI a < jI b ↔ a < b := by
  rw [Int64.lt_iff_toInt_lt, jI_toInt a1 a2, jI_toInt b1 b2]
theorem jI_le {a b : Int} (a1 : -9223372036854775808 ≤ a) (a2 : a < 9223372036854775808) (b1 : -9223372036854775808 ≤ b) (b2 : b < 9223372036854775808) : jI a ≤ jI b ↔ a ≤ b := by
  rw [Int64.le_iff_toInt_le, jI_toInt a1 a2, jI_toInt b1 b2]
theorem jI_eq {a b : Int} (a1 : -9223372036854775808 ≤ a) (a2 : a < 9223372036854775808) (b1 : -9223372036854775808 ≤ b) (b2 : b < 9223372036854775808) : jI a = jI b ↔ a = b := by
  rw [← Int64.toInt_inj, jI_toInt a1 a2, jI_toInt b1 b2]
theorem iI_lit (n : Nat) : (OfNat.ofNat n : Int32) = iI (n : Int) := (Int32.ofInt_eq_ofNat).symm
theorem jI_lit (n : Nat) : (OfNat.ofNat n : Int64) = jI (n : Int) := (Int64.ofInt_eq_ofNat).symm
theorem nI_iI (n : Nat) : nI n = iI (n : Int) := (Int32.ofInt_eq_ofNat).symm
theorem lN_jI (n : Nat) : lN n = jI (n : Int) := (Int64.ofInt_eq_ofNat).symm
theorem iI_l {a : Int} (h1 : -2147483648 ≤ a) (h2 : a < 2147483648) : (iI a).toInt64 = jI a := by
  rw [← Int64.toInt_inj, Int32.toInt_toInt64, iI_toInt h1 h2, jI_toInt (by omega) (by omega)]
theorem i_l (x : Int32) : x.toInt64 = jI x.toInt := by
  rw [← Int64.toInt_inj, Int32.toInt_toInt64, jI_toInt (by have := i_lo x; omega) (by have := i_hi x; omega)]
theorem jI_i (a : Int) : (jI a).toInt32 = iI a := by
  have h : (Int64.ofInt a).toInt32 = Int32.ofInt a := Int64.toInt32_ofInt
  exact h
theorem iI_nat {a : Int} (h1 : 0 ≤ a) (h2 : a < 2147483648) : (iI a).toNatClampNeg = a.toNat := by
  show (iI a).toInt.toNat = a.toNat
  rw [iI_toInt (by omega) h2]
theorem iI_in {a : Int} {n : Nat} (h1 : 0 ≤ a) (h2 : a < n) (h3 : n < 2147483648) : vp_in (iI a) n := by
  rw [vp_in_iff, iI_toInt (by omega) (by omega)]
  exact ⟨h1, h2⟩
theorem iI_b {a b : Int} (h : a = b) : iI a = iI b := by rw [h]
theorem jI_b {a b : Int} (h : a = b) : jI a = jI b := by rw [h]
/-- division of the machine, by a number above 0 -/
theorem iI_tdiv {a b : Int} (a1 : -2147483648 ≤ a) (a2 : a < 2147483648) (b1 : 0 < b) (b2 : b < 2147483648) : iI a / iI b = iI (a.tdiv b) := by
  rw [← Int32.toInt_inj, Int32.toInt_div_of_ne_right _ _ (by
    intro h
    have h2 := congrArg Int32.toInt h
    rw [iI_toInt (by omega) b2] at h2
    have h3 : ((-1 : Int32)).toInt = -1 := by decide +kernel
    omega), iI_toInt a1 a2, iI_toInt (by omega) b2, iI_toInt]
  · have := Int.tdiv_le_tdiv b1 a1
    have h5 : (-2147483648 : Int) ≤ (-2147483648 : Int).tdiv b := by
      rw [Int.neg_tdiv]
      have h6 : (2147483648 : Int).tdiv b ≤ 2147483648 := by
        rw [Int.tdiv_eq_ediv_of_nonneg (by omega)]
        exact Int.ediv_le_self _ (by omega)
      omega
    omega
  · by_cases h : 0 ≤ a
    · rw [Int.tdiv_eq_ediv_of_nonneg h]
      have := Int.ediv_le_self b h
      omega
    · have : a.tdiv b ≤ 0 := by
        have h7 : a = -(-a) := by omega
        rw [h7, Int.neg_tdiv]
        have : 0 ≤ (-a).tdiv b := Int.tdiv_nonneg (by omega) (by omega)
        omega
      omega
theorem jI_tdiv {a b : Int} (a1 : -9223372036854775808 ≤ a) (a2 : a < 9223372036854775808) (b1 : 0 < b) (b2 : b < 9223372036854775808) : jI a / jI b = jI (a.tdiv b) := by
  rw [← Int64.toInt_inj, Int64.toInt_div_of_ne_right _ _ (by
    intro h
    have h2 := congrArg Int64.toInt h
    rw [jI_toInt (by omega) b2] at h2
    have h3 : ((-1 : Int64)).toInt = -1 := by decide +kernel
    omega), jI_toInt a1 a2, jI_toInt (by omega) b2, jI_toInt]
  · have := Int.tdiv_le_tdiv b1 a1
    have h5 : (-9223372036854775808 : Int) ≤ (-9223372036854775808 : Int).tdiv b := by
      rw [Int.neg_tdiv]
      have h6 : (9223372036854775808 : Int).tdiv b ≤ 9223372036854775808 := by
        rw [Int.tdiv_eq_ediv_of_nonneg (by omega)]
        exact Int.ediv_le_self _ (by omega)
      omega
    omega
  · by_cases h : 0 ≤ a
    · rw [Int.tdiv_eq_ediv_of_nonneg h]
      have := Int.ediv_le_self b h
      omega
    · have : a.tdiv b ≤ 0 := by
        have h7 : a = -(-a) := by omega
        rw [h7, Int.neg_tdiv]
        have : 0 ≤ (-a).tdiv b := Int.tdiv_nonneg (by omega) (by omega)
        omega
      omega
/-- rounding down out of the machine's division -/
theorem fl_pos {a b : Int} (h : 0 ≤ a) : a.tdiv b = a / b := Int.tdiv_eq_ediv_of_nonneg h
theorem fl_neg_exact {a b : Int} (hb : 0 < b) (h : a.tdiv b * b = a) : a.tdiv b = a / b := by
  have hb' : b ≠ 0 := by omega
  have h1 : a / b = a.tdiv b := by
    conv => lhs; rw [← h]
    exact Int.mul_ediv_cancel _ hb'
  exact h1.symm
theorem fl_neg {a b : Int} (hb : 0 < b) (ha : a < 0) (h : ¬ a.tdiv b * b = a) : a.tdiv b - 1 = a / b := by
  have e : a = -(-a) := by omega
  have h1 : a.tdiv b = -((-a) / b) := by
    conv => lhs; rw [e]
    rw [Int.neg_tdiv, Int.tdiv_eq_ediv_of_nonneg (by omega)]
  have h2 := Int.mul_ediv_add_emod (-a) b
  have h3 := Int.emod_nonneg (-a) (show b ≠ 0 by omega)
  have h4 := Int.emod_lt_of_pos (-a) hb
  generalize (-a) / b = q at *
  generalize (-a) % b = r at *
  rw [h1] at h ⊢
  have h5 : r ≠ 0 := by
    intro hr
    apply h
    rw [Int.neg_mul, Int.mul_comm]
    omega
  have h6 : a = b - r + b * (-q - 1) := by
    have : b * (-q - 1) = -(b * q) - b := by rw [Int.mul_sub, Int.mul_neg, Int.mul_one]
    omega
  have h7 : a / b = (b - r) / b + (-q - 1) := by
    conv => lhs; rw [h6]
    exact Int.add_mul_ediv_left _ _ (by omega)
  rw [h7, Int.ediv_eq_zero_of_lt (by omega) (by omega)]
  omega
