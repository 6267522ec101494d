theorem nx_and (a b : Nat) : nI a &&& nI b = nI (a &&& b) := by
  apply Int32.toBitVec_inj.1
  show BitVec.ofNat 32 a &&& BitVec.ofNat 32 b = BitVec.ofNat 32 (a &&& b)
  apply BitVec.eq_of_getLsbD_eq
  intro i hi
  simp [hi]
theorem wb_tb (n : Nat) : (lN n).toBitVec = BitVec.ofNat 64 n := rfl
theorem wb_inj {a b : Int64} (h : a.toBitVec = b.toBitVec) : a = b := Int64.toBitVec_inj.mp h
theorem wb_tn {n : Nat} (h : n < 2 ^ 64) : (lN n).toBitVec.toNat = n := by rw [wb_tb, BitVec.toNat_ofNat, Nat.mod_eq_of_lt h]
theorem wb_of (x : Int64) : ∃ n, n < 2 ^ 64 ∧ x = lN n := ⟨x.toBitVec.toNat, x.toBitVec.isLt, wb_inj (by rw [wb_tb]; simp)⟩
theorem wb_of32 (x : Int32) : ∃ n, n < 2 ^ 32 ∧ x = nI n := ⟨x.toBitVec.toNat, x.toBitVec.isLt, Int32.toBitVec_inj.mp (by show _ = BitVec.ofNat 32 _; simp)⟩
theorem wb_c : ∀ k, k < 64 → ((nI k).toInt64 &&& 63) = lN k := by decide +kernel
theorem wb_cu : ∀ k, k < 64 → ((nI k).toInt64.toUInt64 &&& Int64.toUInt64 63) = UInt64.ofNat k := by decide +kernel
theorem wb_sm : ∀ k, k < 64 → (BitVec.ofNat 64 k).smod 64 = BitVec.ofNat 64 k := by decide +kernel
theorem wb_pw {a b : Nat} (h : a ≤ b) : 2 ^ b = 2 ^ a * 2 ^ (b - a) := by rw [← Nat.pow_add]; congr 1; omega
theorem wb_lt2 {a b : Nat} (h : a < b) : 2 ^ a < 2 ^ b := Nat.pow_lt_pow_right (by decide) h
theorem wb_mod (n : Nat) : lN n = lN (n % 2 ^ 64) := wb_inj (by rw [wb_tb, wb_tb]; apply BitVec.eq_of_toNat_eq; rw [BitVec.toNat_ofNat, BitVec.toNat_ofNat, Nat.mod_mod])
theorem wb_shr {n k : Nat} (hn : n < 2 ^ 64) (hk : k < 64) : ((lN n).toUInt64 >>> ((nI k).toInt64.toUInt64 &&& Int64.toUInt64 63)).toInt64 = lN (n / 2 ^ k) := by
  rw [wb_cu k hk]
  apply wb_inj
  apply BitVec.eq_of_toNat_eq
  show ((lN n).toUInt64 >>> UInt64.ofNat k).toNat = (BitVec.ofNat 64 _).toNat
  have h1 : (UInt64.ofNat k).toNat = k := by
    show (BitVec.ofNat 64 k).toNat = k
    rw [BitVec.toNat_ofNat, Nat.mod_eq_of_lt (by omega)]
  have h2 : (lN n).toUInt64.toNat = n := wb_tn hn
  rw [UInt64.toNat_shiftRight, h1, h2, Nat.mod_eq_of_lt hk, Nat.shiftRight_eq_div_pow, BitVec.toNat_ofNat, Nat.mod_eq_of_lt (Nat.lt_of_le_of_lt (Nat.div_le_self _ _) hn)]
theorem wb_shl (n : Nat) {k : Nat} (hk : k < 64) : lN n <<< ((nI k).toInt64 &&& 63) = lN (n * 2 ^ k) := by
  rw [wb_c k hk]
  apply wb_inj
  rw [Int64.toBitVec_shiftLeft, wb_tb, wb_tb, wb_tb, wb_sm k hk]
  apply BitVec.eq_of_toNat_eq
  rw [BitVec.shiftLeft_eq', BitVec.toNat_shiftLeft, BitVec.toNat_ofNat, BitVec.toNat_ofNat, BitVec.toNat_ofNat, Nat.mod_eq_of_lt (show k < 2 ^ 64 by omega), Nat.shiftLeft_eq, Nat.mul_mod, Nat.mod_mod, ← Nat.mul_mod]
theorem wb_and {a b : Nat} (ha : a < 2 ^ 64) (hb : b < 2 ^ 64) : lN a &&& lN b = lN (a &&& b) := by
  apply wb_inj
  rw [Int64.toBitVec_and, wb_tb, wb_tb, wb_tb]
  apply BitVec.eq_of_toNat_eq
  rw [BitVec.toNat_and, BitVec.toNat_ofNat, BitVec.toNat_ofNat, BitVec.toNat_ofNat, Nat.mod_eq_of_lt ha, Nat.mod_eq_of_lt hb, Nat.mod_eq_of_lt (Nat.and_lt_two_pow _ hb)]
theorem wb_or {a b : Nat} (ha : a < 2 ^ 64) (hb : b < 2 ^ 64) : lN a ||| lN b = lN (a ||| b) := by
  apply wb_inj
  rw [Int64.toBitVec_or, wb_tb, wb_tb, wb_tb]
  apply BitVec.eq_of_toNat_eq
  rw [BitVec.toNat_or, BitVec.toNat_ofNat, BitVec.toNat_ofNat, BitVec.toNat_ofNat, Nat.mod_eq_of_lt ha, Nat.mod_eq_of_lt hb, Nat.mod_eq_of_lt (Nat.or_lt_two_pow ha hb)]
theorem wb_mask {n k : Nat} (hn : n < 2 ^ 64) (hk : k < 64) : lN n &&& lN (2 ^ k - 1) = lN (n % 2 ^ k) := by
  rw [wb_and hn (by have := wb_lt2 hk; omega), Nat.and_two_pow_sub_one_eq_mod]
theorem wb_a1 {n : Nat} (hn : n < 2 ^ 64) : lN n &&& 1 = lN (n % 2) := wb_mask (k := 1) hn (by decide)
theorem wb_bit {n k : Nat} (hn : n < 2 ^ 64) (hk : k < 64) : ((lN n).toUInt64 >>> ((nI k).toInt64.toUInt64 &&& Int64.toUInt64 63)).toInt64 &&& 1 = lN (n / 2 ^ k % 2) := by
  rw [wb_shr hn hk, wb_a1 (Nat.lt_of_le_of_lt (Nat.div_le_self _ _) hn)]
theorem wb_xor {q k : Nat} (hk : k < 63) (h : 2 ^ k ≤ q) (h2 : q < 2 ^ (k + 1)) : lN q ^^^ lN (2 ^ k) = lN (q - 2 ^ k) := by
  obtain ⟨r, rfl⟩ : ∃ r, q = 2 ^ k + r := ⟨q - 2 ^ k, by omega⟩
  have hr : r < 2 ^ k := by rw [Nat.pow_succ] at h2; omega
  have hx : (2 ^ k + r) ^^^ 2 ^ k = r := by
    apply Nat.eq_of_testBit_eq
    intro i
    rw [Nat.testBit_xor, Nat.testBit_two_pow]
    rcases Nat.lt_trichotomy i k with h | h | h
    · rw [Nat.testBit_two_pow_add_gt h]
      simp [show ¬ k = i by omega]
    · subst h
      rw [Nat.testBit_two_pow_add_eq]
      simp
    · have a1 : 2 ^ (k + 1) ≤ 2 ^ i := Nat.pow_le_pow_right (by decide) h
      rw [Nat.testBit_lt_two_pow (show 2 ^ k + r < 2 ^ i by omega), Nat.testBit_lt_two_pow (show r < 2 ^ i by omega)]
      simp [show ¬ k = i by omega]
  have b1 := wb_lt2 (show k + 1 < 64 by omega)
  have b2 := wb_lt2 (show k < 64 by omega)
  apply wb_inj
  rw [Int64.toBitVec_xor, wb_tb, wb_tb, wb_tb]
  apply BitVec.eq_of_toNat_eq
  rw [BitVec.toNat_xor, BitVec.toNat_ofNat, BitVec.toNat_ofNat, BitVec.toNat_ofNat, Nat.mod_eq_of_lt (by omega : 2 ^ k + r < 2 ^ 64), Nat.mod_eq_of_lt b2, hx, Nat.add_sub_cancel_left, Nat.mod_eq_of_lt (by omega)]
/-! ===== lN: masks, 'or' of parts that don't overlap is a sum ===== -/
theorem nx_or (a b : Nat) : nI a ||| nI b = nI (a ||| b) := by
  apply Int32.toBitVec_inj.mp
  rw [Int32.toBitVec_or]
  show BitVec.ofNat 32 a ||| BitVec.ofNat 32 b = BitVec.ofNat 32 (a ||| b)
  rw [BitVec.ofNat_or]
theorem iZ_N (n : Nat) : iZ n = nI n := Int32.ofInt_eq_ofNat
theorem lZ_N (n : Nat) : lZ n = lN n := Int64.ofInt_eq_ofNat
theorem iAndN {a b : Nat} (ha : a < 2 ^ 31) : iAnd a b = ((a &&& b : Nat) : Int) := by
  unfold iAnd
  rw [iZ_N, iZ_N, nx_and, nI_toInt (Nat.lt_of_le_of_lt Nat.and_le_left ha)]
theorem iOrN {a b : Nat} (ha : a < 2 ^ 31) (hb : b < 2 ^ 31) : iOr a b = ((a ||| b : Nat) : Int) := by
  unfold iOr
  rw [iZ_N, iZ_N, nx_or, nI_toInt (Nat.or_lt_two_pow ha hb)]
theorem lAndN {a b : Nat} (ha : a < 2 ^ 63) (hb : b < 2 ^ 64) : lAnd a b = ((a &&& b : Nat) : Int) := by
  unfold lAnd
  rw [lZ_N, lZ_N, wb_and (by omega) hb, pk_lT (Nat.lt_of_le_of_lt Nat.and_le_left ha)]
theorem iShlN {a k : Nat} (hk : k < 31) (h : a * 2 ^ k < 2 ^ 31) : iShl a k = ((a * 2 ^ k : Nat) : Int) := by
  unfold iShl
  have e : iZ k &&& 31 = nI k := by
    have := (by decide +kernel : ∀ k : Nat, k < 32 → iZ k &&& 31 = nI k) k (by omega)
    exact this
  rw [e, iZ_N, pk_shlN (nI k) k ((by decide +kernel : ∀ k : Nat, k < 32 → ((nI k).toBitVec.smod 32).toNat = k) k (by omega)) (by omega), nI_toInt h]
theorem iShrN {a k : Nat} (hk : k < 31) (h : a < 2 ^ 31) : iShr a k = ((a / 2 ^ k : Nat) : Int) := by
  unfold iShr
  have e : iZ k &&& 31 = nI k := (by decide +kernel : ∀ k : Nat, k < 32 → iZ k &&& 31 = nI k) k (by omega)
  rw [e, iZ_N, pk_shrN h (nI k) k ((by decide +kernel : ∀ k : Nat, k < 32 → ((nI k).toBitVec.smod 32).toNat = k) k (by omega)), nI_toInt (Nat.lt_of_le_of_lt (Nat.div_le_self _ _) h)]
theorem lShlN {a k : Nat} (hk : k < 64) (h : a * 2 ^ k < 2 ^ 63) : lShl a k = ((a * 2 ^ k : Nat) : Int) := by
  unfold lShl
  rw [lZ_N, iZ_N, wb_shl a hk, pk_lT h]
theorem lUshrN {a k : Nat} (hk : k < 64) (h : a < 2 ^ 63) : lUshr a k = ((a / 2 ^ k : Nat) : Int) := by
  unfold lUshr
  rw [lZ_N, iZ_N, wb_shr (by omega) hk, pk_lT (Nat.lt_of_le_of_lt (Nat.div_le_self _ _) h)]
theorem two_le (k : Nat) : 1 ≤ 2 ^ k := Nat.one_le_two_pow
/-- a bit asked, a bit taken out -/
theorem bitQ {n k : Nat} (hk : k < 63) (hn : n < 2 ^ 63) : lAnd (lUshr n k) 1 = if n.testBit k then 1 else 0 := by
  rw [lUshrN (by omega) hn]
  have := lAndN (a := n / 2 ^ k) (b := 1) (Nat.lt_of_le_of_lt (Nat.div_le_self _ _) hn) (by decide)
  rw [show ((1 : Nat) : Int) = 1 from rfl] at this
  rw [this, Nat.and_one_is_mod, Nat.testBit_eq_decide_div_mod_eq]
  have h2 := Nat.mod_two_eq_zero_or_one (n / 2 ^ k)
  rcases h2 with h2 | h2 <;> simp [h2]
def clr (n k : Nat) : Nat := n &&& (2 ^ 64 - (2 ^ k + 1))
theorem clr_bit {n k : Nat} (hk : k < 63) (hn : n < 2 ^ 63) (i : Nat) : (clr n k).testBit i = (n.testBit i && decide (i ≠ k)) := by
  have h1 : 2 ^ k < 2 ^ 64 := Nat.pow_lt_pow_right (by decide) (by omega)
  unfold clr
  rw [Nat.testBit_and, Nat.testBit_two_pow_sub_succ h1, Nat.testBit_two_pow]
  by_cases hi : i < 64
  · by_cases hik : k = i
    · simp [hi, hik]
    · have h2 : ¬ i = k := fun e => hik e.symm
      simp [hi, hik, h2]
  · have : n.testBit i = false := Nat.testBit_lt_two_pow (Nat.lt_of_lt_of_le hn (Nat.pow_le_pow_right (by decide) (by omega)))
    simp [this]
theorem clr_le (n k : Nat) : clr n k ≤ n := Nat.and_le_left
theorem lXorM {k : Nat} (hk : k < 63) : lZ (lXor ((2 ^ k : Nat) : Int) (-1)) = lN (2 ^ 64 - (2 ^ k + 1)) := by
  unfold lXor
  rw [lZ_of, lZ_N]
  apply wb_inj
  rw [Int64.toBitVec_xor, wb_tb, wb_tb]
  have : (lZ (-1)).toBitVec = BitVec.allOnes 64 := by decide +kernel
  rw [this]
  have h1 : 2 ^ k < 2 ^ 64 := Nat.pow_lt_pow_right (by decide) (by omega)
  rw [BitVec.xor_allOnes]
  apply BitVec.eq_of_toNat_eq
  rw [BitVec.toNat_not, BitVec.toNat_ofNat, BitVec.toNat_ofNat, Nat.mod_eq_of_lt h1, Nat.mod_eq_of_lt (show 2 ^ 64 - (2 ^ k + 1) < 2 ^ 64 from Nat.sub_lt (by decide) (Nat.succ_pos _))]
  rw [Nat.sub_sub, Nat.add_comm]
theorem clrN {n k : Nat} (hk : k < 63) (hn : n < 2 ^ 63) : lAnd n (lXor ((2 ^ k : Nat) : Int) (-1)) = (clr n k : Int) := by
  have h1 : 2 ^ k < 2 ^ 64 := Nat.pow_lt_pow_right (by decide) (by omega)
  unfold lAnd
  rw [lXorM hk, lZ_N, wb_and (by omega) (show 2 ^ 64 - (2 ^ k + 1) < 2 ^ 64 from Nat.sub_lt (by decide) (Nat.succ_pos _))]
  exact pk_lT (Nat.lt_of_le_of_lt (clr_le n k) hn)
