/-! numbers: an int is an Int modulo 2^32, a long an Int modulo 2^64 -/
def iZ (x : Int) : Int32 := Int32.ofInt x
def lZ (x : Int) : Int64 := Int64.ofInt x
abbrev R32 (x : Int) : Prop := -2147483648 ≤ x ∧ x < 2147483648
abbrev R64 (x : Int) : Prop := -9223372036854775808 ≤ x ∧ x < 9223372036854775808
theorem iZ_toInt {x : Int} (h : R32 x) : (iZ x).toInt = x := Int32.toInt_ofInt_of_le (by omega) (by omega)
theorem lZ_toInt {x : Int} (h : R64 x) : (lZ x).toInt = x := Int64.toInt_ofInt_of_le (by omega) (by omega)
theorem iZ_of (x : Int32) : iZ x.toInt = x := Int32.ofInt_toInt x
theorem lZ_of (x : Int64) : lZ x.toInt = x := Int64.ofInt_toInt x
theorem iZ_rng (x : Int32) : R32 x.toInt := ⟨by have := x.le_toInt; omega, by have := x.toInt_lt; omega⟩
theorem lZ_rng (x : Int64) : R64 x.toInt := ⟨by have := x.le_toInt; omega, by have := x.toInt_lt; omega⟩
theorem iZ_add (a b : Int) : iZ a + iZ b = iZ (a + b) := (Int32.ofInt_add a b).symm
theorem iZ_sub (a b : Int) : iZ a - iZ b = iZ (a - b) := (Int32.ofInt_sub a b).symm
theorem iZ_mul (a b : Int) : iZ a * iZ b = iZ (a * b) := (Int32.ofInt_mul a b).symm
theorem lZ_add (a b : Int) : lZ a + lZ b = lZ (a + b) := (Int64.ofInt_add a b).symm
theorem lZ_sub (a b : Int) : lZ a - lZ b = lZ (a - b) := (Int64.ofInt_sub a b).symm
theorem lZ_mul (a b : Int) : lZ a * lZ b = lZ (a * b) := (Int64.ofInt_mul a b).symm
theorem iZ_lt {a b : Int} (ha : R32 a) (hb : R32 b) : iZ a < iZ b ↔ a < b := by rw [Int32.lt_iff_toInt_lt, iZ_toInt ha, iZ_toInt hb]
theorem iZ_le {a b : Int} (ha : R32 a) (hb : R32 b) : iZ a ≤ iZ b ↔ a ≤ b := by rw [Int32.le_iff_toInt_le, iZ_toInt ha, iZ_toInt hb]
theorem iZ_eq {a b : Int} (ha : R32 a) (hb : R32 b) : iZ a = iZ b ↔ a = b := by rw [← Int32.toInt_inj, iZ_toInt ha, iZ_toInt hb]
theorem lZ_lt {a b : Int} (ha : R64 a) (hb : R64 b) : lZ a < lZ b ↔ a < b := by rw [Int64.lt_iff_toInt_lt, lZ_toInt ha, lZ_toInt hb]
theorem lZ_le {a b : Int} (ha : R64 a) (hb : R64 b) : lZ a ≤ lZ b ↔ a ≤ b := by rw [Int64.le_iff_toInt_le, lZ_toInt ha, lZ_toInt hb]
theorem lZ_eq {a b : Int} (ha : R64 a) (hb : R64 b) : lZ a = lZ b ↔ a = b := by rw [← Int64.toInt_inj, lZ_toInt ha, lZ_toInt hb]
theorem iZ0 : iZ 0 = 0 := rfl
theorem lZ0 : lZ 0 = 0 := rfl
theorem iZ_div {a b : Int} (ha : R32 a) (hb : R32 b) (hn : ¬ (a = -2147483648 ∧ b = -1)) : iZ a / iZ b = iZ (a.tdiv b) := by
  apply Int32.toInt_inj.mp
  rw [Int32.toInt_div, iZ_toInt ha, iZ_toInt hb]
  show _ = (Int32.ofInt _).toInt
  rw [Int32.toInt_ofInt]
theorem lZ_div {a b : Int} (ha : R64 a) (hb : R64 b) (hn : ¬ (a = -9223372036854775808 ∧ b = -1)) : lZ a / lZ b = lZ (a.tdiv b) := by
  apply Int64.toInt_inj.mp
  rw [Int64.toInt_div, lZ_toInt ha, lZ_toInt hb]
  show _ = (Int64.ofInt _).toInt
  rw [Int64.toInt_ofInt]
theorem iZ_rem {a b : Int} (ha : R32 a) (hb : R32 b) : iZ a - iZ a / iZ b * iZ b = iZ (a.tmod b) := by
  have h : iZ a / iZ b = iZ (a.tdiv b) := by
    apply Int32.toInt_inj.mp
    rw [Int32.toInt_div, iZ_toInt ha, iZ_toInt hb]
    show _ = (Int32.ofInt _).toInt
    rw [Int32.toInt_ofInt]
  rw [h, iZ_mul, iZ_sub]
  congr 1
  have := Int.mul_tdiv_add_tmod a b
  rw [Int.mul_comm] at this
  omega
theorem lZ_rem {a b : Int} (ha : R64 a) (hb : R64 b) : lZ a - lZ a / lZ b * lZ b = lZ (a.tmod b) := by
  have h : lZ a / lZ b = lZ (a.tdiv b) := by
    apply Int64.toInt_inj.mp
    rw [Int64.toInt_div, lZ_toInt ha, lZ_toInt hb]
    show _ = (Int64.ofInt _).toInt
    rw [Int64.toInt_ofInt]
  rw [h, lZ_mul, lZ_sub]
  congr 1
  have := Int.mul_tdiv_add_tmod a b
  rw [Int.mul_comm] at this
  omega
theorem iZ_64 {a : Int} (h : R32 a) : (iZ a).toInt64 = lZ a := by
  apply Int64.toInt_inj.mp
  rw [Int32.toInt_toInt64, iZ_toInt h, lZ_toInt (by omega)]
theorem lZ_32 (a : Int) : (lZ a).toInt32 = iZ a := by
  apply Int32.toInt_inj.mp
  show (Int64.toInt32 (Int64.ofInt a)).toInt = (Int32.ofInt a).toInt
  rw [Int64.toInt_toInt32, Int64.toInt_ofInt, Int32.toInt_ofInt]
  exact Int.bmod_bmod_of_dvd (by decide)
theorem iZ_nat {a : Int} (h0 : 0 ≤ a) (h : a < 2147483648) : (iZ a).toNatClampNeg = a.toNat := by
  have : (iZ a).toInt = a := iZ_toInt (by omega)
  show (iZ a).toInt.toNat = a.toNat
  rw [this]
theorem iZ_in {a : Int} {n : Nat} (h0 : 0 ≤ a) (hn : a < n) (h : a < 2147483648) : vp_in (iZ a) n := by
  rw [vp_in_iff, iZ_toInt (by omega)]
  exact ⟨h0, hn⟩
/-- operations on bits, as functions of Ints -/
def iAnd (a b : Int) : Int := (iZ a &&& iZ b).toInt
def iOr (a b : Int) : Int := (iZ a ||| iZ b).toInt
def iXor (a b : Int) : Int := (iZ a ^^^ iZ b).toInt
def iShl (a b : Int) : Int := (iZ a <<< (iZ b &&& 31)).toInt
def iShr (a b : Int) : Int := (iZ a >>> (iZ b &&& 31)).toInt
def lAnd (a b : Int) : Int := (lZ a &&& lZ b).toInt
def lOr (a b : Int) : Int := (lZ a ||| lZ b).toInt
def lXor (a b : Int) : Int := (lZ a ^^^ lZ b).toInt
def lShl (a b : Int) : Int := (lZ a <<< ((iZ b).toInt64 &&& 63)).toInt
def lShr (a b : Int) : Int := (lZ a >>> ((iZ b).toInt64 &&& 63)).toInt
def lUshr (a b : Int) : Int := ((lZ a).toUInt64 >>> ((iZ b).toInt64.toUInt64 &&& Int64.toUInt64 63)).toInt64.toInt
def i2bZ (a : Int) : Int := (iZ a).toInt8.toInt32.toInt
def i2sZ (a : Int) : Int := (iZ a).toInt16.toInt32.toInt
