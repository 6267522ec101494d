/-! the bits of a long, counted -/
def mk8 (m : Nat) : Nat → Nat
  | 0 => 0
  | k + 1 => m + 256 * mk8 m k
def pb8 (b : Nat) : Nat := b % 2 + b / 2 % 2 + b / 4 % 2 + b / 8 % 2 + b / 16 % 2 + b / 32 % 2 + b / 64 % 2 + b / 128 % 2
def bt1 (k n : Nat) : Nat := n - (n / 2 &&& mk8 85 k)
def bt2 (k n : Nat) : Nat := (n &&& mk8 51 k) + (n / 4 &&& mk8 51 k)
def bt3 (k n : Nat) : Nat := (n + n / 16) &&& mk8 15 k
def bq (b : Nat) : Nat := (b - (b / 2 &&& 85) &&& 51) + ((b - (b / 2 &&& 85)) / 4 &&& 51)
theorem and8 {a c : Nat} (A C : Nat) (ha : a < 256) (hc : c < 256) : (a + 256 * A) &&& (c + 256 * C) = (a &&& c) + 256 * (A &&& C) := by
  have h1 : ((a + 256 * A) &&& (c + 256 * C)) % 2 ^ 8 = (a + 256 * A) % 2 ^ 8 &&& (c + 256 * C) % 2 ^ 8 := Nat.and_mod_two_pow
  have h2 : ((a + 256 * A) &&& (c + 256 * C)) / 2 ^ 8 = (a + 256 * A) / 2 ^ 8 &&& (c + 256 * C) / 2 ^ 8 := Nat.and_div_two_pow
  have e1 : (a + 256 * A) % 2 ^ 8 = a := by omega
  have e2 : (c + 256 * C) % 2 ^ 8 = c := by omega
  have e3 : (a + 256 * A) / 2 ^ 8 = A := by omega
  have e4 : (c + 256 * C) / 2 ^ 8 = C := by omega
  rw [e1, e2] at h1
  rw [e3, e4] at h2
  omega
theorem bd1 : ∀ b, b < 256 → ∀ r, r < 2 → (b / 2 + 128 * r) &&& 85 = b / 2 &&& 85 := by decide +kernel
theorem bd2 : ∀ b, b < 256 → ∀ r, r < 4 → (b / 4 + 64 * r) &&& 51 = b / 4 &&& 51 := by decide +kernel
theorem bd3 : ∀ b, b < 256 → (bq b % 16 ≤ 4 ∧ bq b < 80 ∧ (bq b + bq b / 16) % 16 = pb8 b) ∧ (b / 2 &&& 85) ≤ b := by decide +kernel
theorem bt1_s (k : Nat) {b : Nat} (N : Nat) (hb : b < 256) : bt1 (k + 1) (b + 256 * N) = (b - (b / 2 &&& 85)) + 256 * bt1 k N := by
  unfold bt1
  rw [show mk8 85 (k + 1) = 85 + 256 * mk8 85 k from rfl]
  have e : (b + 256 * N) / 2 = (b / 2 + 128 * (N % 2)) + 256 * (N / 2) := by omega
  rw [e, and8 _ _ (by omega) (by decide), bd1 b hb _ (by omega)]
  have := (bd3 b hb).2
  have h2 : (N / 2 &&& mk8 85 k) ≤ N / 2 := Nat.and_le_left
  omega
theorem bt2_s (k : Nat) {b : Nat} (N : Nat) (hb : b < 256) : bt2 (k + 1) (b + 256 * N) = ((b &&& 51) + (b / 4 &&& 51)) + 256 * bt2 k N := by
  unfold bt2
  rw [show mk8 51 (k + 1) = 51 + 256 * mk8 51 k from rfl]
  have e : (b + 256 * N) / 4 = (b / 4 + 64 * (N % 4)) + 256 * (N / 4) := by omega
  rw [e, and8 _ _ hb (by decide), and8 _ _ (by omega) (by decide), bd2 b hb _ (by omega)]
  omega
theorem bt3_s (k : Nat) {b : Nat} (N : Nat) (hb : b < 80) (hN : N % 16 ≤ 4) : bt3 (k + 1) (b + 256 * N) = (b + b / 16) % 16 + 256 * bt3 k N := by
  unfold bt3
  rw [show mk8 15 (k + 1) = 15 + 256 * mk8 15 k from rfl]
  have e : b + 256 * N + (b + 256 * N) / 16 = (b + b / 16 + 16 * (N % 16)) + 256 * (N + N / 16) := by omega
  have e2 := Nat.and_two_pow_sub_one_eq_mod (b + b / 16 + 16 * (N % 16)) 4
  rw [show (2 ^ 4 - 1 : Nat) = 15 from rfl, show (2 ^ 4 : Nat) = 16 from rfl] at e2
  rw [e, and8 _ _ (by omega) (by decide), e2]
  omega
def wv8 : Nat → Nat → Nat
  | 0, _ => 0
  | k + 1, n => pb8 (n % 256) + 256 * wv8 k (n / 256)
theorem bt12_s (k n : Nat) : bt2 (k + 1) (bt1 (k + 1) n) = bq (n % 256) + 256 * bt2 k (bt1 k (n / 256)) := by
  have e : n = n % 256 + 256 * (n / 256) := by omega
  have h := bt1_s k (n / 256) (b := n % 256) (by omega)
  rw [← e] at h
  rw [h, bt2_s _ _ (by omega)]
  rfl
theorem bt12_m (k n : Nat) (hn : n < 256 ^ k) : bt2 k (bt1 k n) % 16 ≤ 4 := by
  cases k with
  | zero =>
    have : n = 0 := by omega
    subst this
    decide
  | succ k =>
    rw [bt12_s]
    have := (bd3 (n % 256) (by omega)).1.1
    omega
theorem bt_all : ∀ (k n : Nat), n < 256 ^ k → bt3 k (bt2 k (bt1 k n)) = wv8 k n
  | 0, n, _ => by
    unfold bt3 wv8 mk8
    simp
  | k + 1, n, hn => by
    have hn2 : n / 256 < 256 ^ k := by
      rw [Nat.pow_succ] at hn
      exact Nat.div_lt_of_lt_mul (by omega)
    have q := bd3 (n % 256) (by omega)
    rw [bt12_s, bt3_s k _ (by omega) (bt12_m k _ hn2), bt_all k _ hn2, q.1.2.2]
    rfl
theorem pb8_bd (b : Nat) : pb8 b ≤ 8 := by unfold pb8; omega
def sp8 : Nat → Nat → Nat
  | 0, _ => 0
  | k + 1, n => pb8 (n % 256) + sp8 k (n / 256)
theorem bt2_bd (n : Nat) : bt2 8 n < 2 ^ 63 := by
  unfold bt2
  have h1 : (n &&& mk8 51 8) ≤ mk8 51 8 := Nat.and_le_right
  have h2 : (n / 4 &&& mk8 51 8) ≤ mk8 51 8 := Nat.and_le_right
  have h3 : mk8 51 8 = 3689348814741910323 := by decide
  omega
theorem bt3_bd (n : Nat) : bt3 8 n ≤ 1085102592571150095 := by
  unfold bt3
  have h2 : ((n + n / 16) &&& mk8 15 8) ≤ mk8 15 8 := Nat.and_le_right
  have h3 : mk8 15 8 = 1085102592571150095 := by decide
  omega
theorem bc1 {X : Nat} (hX : X < 2 ^ 60) : (X : Int) - lAnd (lUshr X 1) 6148914691236517205 = (bt1 8 X : Nat) := by
  have e1 : lUshr (X : Int) 1 = ((X / 2 ^ 1 : Nat) : Int) := lUshrN (k := 1) (by decide) (by omega)
  have e2 : lAnd ((X / 2 ^ 1 : Nat) : Int) 6148914691236517205 = ((X / 2 ^ 1 &&& 6148914691236517205 : Nat) : Int) := lAndN (b := 6148914691236517205) (by omega) (by omega)
  have e3 : mk8 85 8 = 6148914691236517205 := by decide
  have e4 : (X / 2 &&& 6148914691236517205) ≤ X / 2 := Nat.and_le_left
  rw [e1, e2]
  unfold bt1
  rw [e3, show (2 : Nat) ^ 1 = 2 from rfl]
  omega
theorem bc2 {X : Nat} (hX : X < 2 ^ 60) : lAnd X 3689348814741910323 + lAnd (lUshr X 2) 3689348814741910323 = (bt2 8 X : Nat) := by
  have e1 : lUshr (X : Int) 2 = ((X / 2 ^ 2 : Nat) : Int) := lUshrN (k := 2) (by decide) (by omega)
  have e2 : lAnd ((X / 2 ^ 2 : Nat) : Int) 3689348814741910323 = ((X / 2 ^ 2 &&& 3689348814741910323 : Nat) : Int) := lAndN (b := 3689348814741910323) (by omega) (by omega)
  have e4 : lAnd (X : Int) 3689348814741910323 = ((X &&& 3689348814741910323 : Nat) : Int) := lAndN (b := 3689348814741910323) (by omega) (by omega)
  have e3 : mk8 51 8 = 3689348814741910323 := by decide
  rw [e1, e2, e4]
  unfold bt2
  rw [e3]
  push_cast
  rfl
theorem bc3 {X : Nat} (hX : X < 2 ^ 62) : lAnd (X + lUshr X 4) 1085102592571150095 = (bt3 8 X : Nat) := by
  have e1 : lUshr (X : Int) 4 = ((X / 2 ^ 4 : Nat) : Int) := lUshrN (k := 4) (by decide) (by omega)
  have e2 : lAnd ((X + X / 2 ^ 4 : Nat) : Int) 1085102592571150095 = (((X + X / 2 ^ 4) &&& 1085102592571150095 : Nat) : Int) := lAndN (b := 1085102592571150095) (by omega) (by omega)
  have e3 : mk8 15 8 = 1085102592571150095 := by decide
  rw [e1]
  unfold bt3
  rw [e3, show (X : Int) + ((X / 2 ^ 4 : Nat) : Int) = ((X + X / 2 ^ 4 : Nat) : Int) by push_cast; rfl, e2]
theorem bc4 {X : Nat} (hX : X < 2 ^ 62) : (X : Int) + lUshr X 8 = (X + X / 256 : Nat) := by
  have e1 : lUshr (X : Int) 8 = ((X / 2 ^ 8 : Nat) : Int) := lUshrN (k := 8) (by decide) (by omega)
  rw [e1, show (2 : Nat) ^ 8 = 256 from rfl]; exact (Int.natCast_add _ _).symm
theorem bc5 {X : Nat} (hX : X < 2 ^ 62) : (X : Int) + lUshr X 16 = (X + X / 65536 : Nat) := by
  have e1 : lUshr (X : Int) 16 = ((X / 2 ^ 16 : Nat) : Int) := lUshrN (k := 16) (by decide) (by omega)
  rw [e1, show (2 : Nat) ^ 16 = 65536 from rfl]; exact (Int.natCast_add _ _).symm
theorem bc6 {X : Nat} (hX : X < 2 ^ 62) : (X : Int) + lUshr X 32 = (X + X / 4294967296 : Nat) := by
  have e1 : lUshr (X : Int) 32 = ((X / 2 ^ 32 : Nat) : Int) := lUshrN (k := 32) (by decide) (by omega)
  rw [e1, show (2 : Nat) ^ 32 = 4294967296 from rfl]; exact (Int.natCast_add _ _).symm
theorem iAnd127 (X : Nat) : iAnd X 127 = ((X % 128 : Nat) : Int) := by
  unfold iAnd
  rw [iZ_N, show iZ 127 = nI 127 from iZ_N 127, nx_and, Nat.and_two_pow_sub_one_eq_mod X 7, ← iZ_N, iZ_toInt (by omega)]
theorem bc_sum {a0 a1 a2 a3 a4 a5 a6 a7 x x4 x5 : Nat} (h0 : a0 ≤ 8) (h1 : a1 ≤ 8) (h2 : a2 ≤ 8) (h3 : a3 ≤ 8) (h4 : a4 ≤ 8) (h5 : a5 ≤ 8) (h6 : a6 ≤ 8) (h7 : a7 ≤ 8)
    (hx : x = a0 + 256 * (a1 + 256 * (a2 + 256 * (a3 + 256 * (a4 + 256 * (a5 + 256 * (a6 + 256 * a7))))))) (hx4 : x4 = x + x / 256) (hx5 : x5 = x4 + x4 / 65536) : (x5 + x5 / 4294967296) % 128 = a0 + (a1 + (a2 + (a3 + (a4 + (a5 + (a6 + a7)))))) := by
  have e1 : x / 256 = a1 + 256 * (a2 + 256 * (a3 + 256 * (a4 + 256 * (a5 + 256 * (a6 + 256 * a7))))) := by omega
  rw [e1, hx] at hx4
  have e4 : x4 = (a0 + a1) + 256 * ((a1 + a2) + 256 * ((a2 + a3) + 256 * ((a3 + a4) + 256 * ((a4 + a5) + 256 * ((a5 + a6) + 256 * ((a6 + a7) + 256 * a7)))))) := by omega
  clear hx4 e1 hx
  have e2 : x4 / 65536 = (a2 + a3) + 256 * ((a3 + a4) + 256 * ((a4 + a5) + 256 * ((a5 + a6) + 256 * ((a6 + a7) + 256 * a7)))) := by omega
  rw [e2, e4] at hx5
  have e5 : x5 = (a0 + a1 + a2 + a3) + 256 * ((a1 + a2 + a3 + a4) + 256 * ((a2 + a3 + a4 + a5) + 256 * ((a3 + a4 + a5 + a6) + 256 * ((a4 + a5 + a6 + a7) + 256 * ((a5 + a6 + a7) + 256 * ((a6 + a7) + 256 * a7)))))) := by omega
  clear hx5 e2 e4
  have e6 : x5 / 4294967296 = (a4 + a5 + a6 + a7) + 256 * ((a5 + a6 + a7) + 256 * ((a6 + a7) + 256 * a7)) := by omega
  rw [e6, e5]
  clear e6 e5
  omega
theorem wv8_8 (X : Nat) : wv8 8 X = pb8 (X % 256) + 256 * (pb8 (X / 256 % 256) + 256 * (pb8 (X / 256 / 256 % 256) + 256 * (pb8 (X / 256 / 256 / 256 % 256) + 256 * (pb8 (X / 256 / 256 / 256 / 256 % 256) + 256 * (pb8 (X / 256 / 256 / 256 / 256 / 256 % 256) + 256 * (pb8 (X / 256 / 256 / 256 / 256 / 256 / 256 % 256) + 256 * (pb8 (X / 256 / 256 / 256 / 256 / 256 / 256 / 256 % 256) + 256 * 0))))))) := rfl
theorem sp8_8 (X : Nat) : sp8 8 X = pb8 (X % 256) + (pb8 (X / 256 % 256) + (pb8 (X / 256 / 256 % 256) + (pb8 (X / 256 / 256 / 256 % 256) + (pb8 (X / 256 / 256 / 256 / 256 % 256) + (pb8 (X / 256 / 256 / 256 / 256 / 256 % 256) + (pb8 (X / 256 / 256 / 256 / 256 / 256 / 256 % 256) + (pb8 (X / 256 / 256 / 256 / 256 / 256 / 256 / 256 % 256) + 0))))))) := rfl
theorem bc_fin (X : Nat) : (wv8 8 X + wv8 8 X / 256 + (wv8 8 X + wv8 8 X / 256) / 65536 + (wv8 8 X + wv8 8 X / 256 + (wv8 8 X + wv8 8 X / 256) / 65536) / 4294967296) % 128 = sp8 8 X ∧ wv8 8 X < 2 ^ 61 := by
  have e1 := wv8_8 X
  have e2 := sp8_8 X
  have h0 := pb8_bd (X % 256)
  have h1 := pb8_bd (X / 256 % 256)
  have h2 := pb8_bd (X / 256 / 256 % 256)
  have h3 := pb8_bd (X / 256 / 256 / 256 % 256)
  have h4 := pb8_bd (X / 256 / 256 / 256 / 256 % 256)
  have h5 := pb8_bd (X / 256 / 256 / 256 / 256 / 256 % 256)
  have h6 := pb8_bd (X / 256 / 256 / 256 / 256 / 256 / 256 % 256)
  have h7 := pb8_bd (X / 256 / 256 / 256 / 256 / 256 / 256 / 256 % 256)
  rw [Nat.mul_zero, Nat.add_zero] at e1
  rw [Nat.add_zero] at e2
  constructor
  · rw [e2]
    exact bc_sum h0 h1 h2 h3 h4 h5 h6 h7 e1 rfl rfl
  · rw [e1]
    generalize pb8 (X % 256) = a0 at *
    generalize pb8 (X / 256 % 256) = a1 at *
    generalize pb8 (X / 256 / 256 % 256) = a2 at *
    generalize pb8 (X / 256 / 256 / 256 % 256) = a3 at *
    generalize pb8 (X / 256 / 256 / 256 / 256 % 256) = a4 at *
    generalize pb8 (X / 256 / 256 / 256 / 256 / 256 % 256) = a5 at *
    generalize pb8 (X / 256 / 256 / 256 / 256 / 256 / 256 % 256) = a6 at *
    generalize pb8 (X / 256 / 256 / 256 / 256 / 256 / 256 / 256 % 256) = a7 at *
    clear e1 e2
    omega
theorem cntN_split {P : Int → Prop} {lo : Int} (a : Nat) : ∀ b : Nat, cntN P lo (a + b) = cntN P lo a + cntN P (lo + a) b
  | 0 => by simp [cntN]
  | b + 1 => by
    rw [← Nat.add_assoc, cntN, cntN, cntN_split a b]
    have e : lo + ((a + b : Nat) : Int) = lo + a + b := by push_cast; omega
    rw [e]; omega
theorem pI_bit (n i : Nat) : pI (n.testBit i = true) = ((n / 2 ^ i % 2 : Nat) : Int) := by
  by_cases h : n.testBit i = true
  · rw [pI_t h]
    rw [Nat.testBit_eq_decide_div_mod_eq] at h
    have := of_decide_eq_true h
    omega
  · rw [pI_f h]
    rw [Nat.testBit_eq_decide_div_mod_eq] at h
    have : ¬ n / 2 ^ i % 2 = 1 := fun z => h (decide_eq_true z)
    omega
theorem sp8_c : ∀ (k n : Nat), cntN (fun s => n.testBit s.toNat = true) 0 (8 * k) = ((sp8 k n : Nat) : Int)
  | 0, n => rfl
  | k + 1, n => by
    rw [show 8 * (k + 1) = 8 + 8 * k by omega, cntN_split]
    have e := cntN_add (P := fun s : Int => n.testBit s.toNat = true) 8 0 (8 * k)
    have e2 : cntN (fun s : Int => n.testBit (8 + s).toNat = true) 0 (8 * k) = cntN (fun s : Int => (n / 256).testBit s.toNat = true) 0 (8 * k) := by
      refine cntN_congr (fun i _ => ?_)
      have h3 : (n / 2 ^ 8).testBit i = n.testBit (i + 8) := Nat.testBit_div_two_pow ..
      rw [show (8 + (0 + (i : Int))).toNat = 8 + i by omega, show (0 + (i : Int)).toNat = i by omega]
      rw [show (256 : Nat) = 2 ^ 8 from rfl, h3, Nat.add_comm]
    rw [show (0 : Int) + ((8 : Nat) : Int) = 8 + 0 by omega, ← e, e2, sp8_c k]
    simp only [cntN, sp8]
    rw [show (0 + ((0 : Nat) : Int)).toNat = 0 from rfl, show (0 + ((1 : Nat) : Int)).toNat = 1 from rfl, show (0 + ((2 : Nat) : Int)).toNat = 2 from rfl, show (0 + ((3 : Nat) : Int)).toNat = 3 from rfl, show (0 + ((4 : Nat) : Int)).toNat = 4 from rfl, show (0 + ((5 : Nat) : Int)).toNat = 5 from rfl, show (0 + ((6 : Nat) : Int)).toNat = 6 from rfl, show (0 + ((7 : Nat) : Int)).toNat = 7 from rfl]
    rw [pI_bit, pI_bit, pI_bit, pI_bit, pI_bit, pI_bit, pI_bit, pI_bit]
    unfold pb8
    omega
theorem cntN_le {P : Int → Prop} {lo : Int} {a b : Nat} (h : a ≤ b) (hn : ∀ i : Nat, a ≤ i → i < b → ¬ P (lo + i)) : cntN P lo b = cntN P lo a := by
  obtain ⟨c, rfl⟩ : ∃ c, b = a + c := ⟨b - a, by omega⟩
  rw [cntN_split, cntN_no (P := P) (lo := lo + a) (n := c) (fun i hi => by have := hn (a + i) (by omega) (by omega); push_cast at this; rw [← Int.add_assoc] at this; exact this)]
  omega
theorem cnt_bits {Y : Nat} {te : Int} {P : Int → Prop} (ht : 0 ≤ te ∧ te ≤ 60) (h : ∀ s : Nat, Y.testBit s = true ↔ s < te.toNat ∧ P s) : ((sp8 8 Y : Nat) : Int) = cntN P 0 te.toNat := by
  rw [← sp8_c, cntN_le (a := te.toNat) (by omega)]
  · refine cntN_congr (fun i hi => ?_)
    rw [show (0 + (i : Int)).toNat = i by omega, show (0 : Int) + i = i by omega, h i]
    exact ⟨fun z => z.2, fun z => ⟨hi, z⟩⟩
  · intro i i0 i1
    rw [show (0 + (i : Int)).toNat = i by omega, h i]
    omega
theorem bt2_c {n : Nat} (hn : n < 2 ^ 60) : bt2 8 n < 2 ^ 61 := by
  unfold bt2
  have h1 : (n &&& mk8 51 8) ≤ n := Nat.and_le_left
  have h2 : (n / 4 &&& mk8 51 8) ≤ n / 4 := Nat.and_le_left
  omega
section
variable {G : GX} {M : MI} {R : Room} {Z : ZT} {y : LY} {pc : Nat} {ls : List (Option Value)} {st : List Value} {h : HM} {cs : Nat × Nat}
set_option maxRecDepth 100000 in
theorem wk805 : (Jvm.Cond.constantLong "java/lang/Long" (314 : Nat) (6148914691236517205 : Int64)) ∈ TB := tbm (i := 805) rfl rfl
theorem c2_J13_314 (hM : M.1.cls = RJ13) (hd : decode M.2.1 pc = .ok (.ldc2_w 314, 3)) (kk : Go G M R Z y (pc + 3) ls (.long (lZ (6148914691236517205)) :: st) h cs) : Go G M R Z y pc ls st h cs := g_ldc2 hM (by rw [show lZ (6148914691236517205) = (6148914691236517205 : Int64) by decide +kernel]; exact wk805) hd kk
set_option maxRecDepth 100000 in
theorem wk806 : (Jvm.Cond.constantLong "java/lang/Long" (316 : Nat) (3689348814741910323 : Int64)) ∈ TB := tbm (i := 806) rfl rfl
theorem c2_J13_316 (hM : M.1.cls = RJ13) (hd : decode M.2.1 pc = .ok (.ldc2_w 316, 3)) (kk : Go G M R Z y (pc + 3) ls (.long (lZ (3689348814741910323)) :: st) h cs) : Go G M R Z y pc ls st h cs := g_ldc2 hM (by rw [show lZ (3689348814741910323) = (3689348814741910323 : Int64) by decide +kernel]; exact wk806) hd kk
set_option maxRecDepth 100000 in
theorem wk807 : (Jvm.Cond.constantLong "java/lang/Long" (318 : Nat) (1085102592571150095 : Int64)) ∈ TB := tbm (i := 807) rfl rfl
theorem c2_J13_318 (hM : M.1.cls = RJ13) (hd : decode M.2.1 pc = .ok (.ldc2_w 318, 3)) (kk : Go G M R Z y (pc + 3) ls (.long (lZ (1085102592571150095)) :: st) h cs) : Go G M R Z y pc ls st h cs := g_ldc2 hM (by rw [show lZ (1085102592571150095) = (1085102592571150095 : Int64) by decide +kernel]; exact wk807) hd kk
end
set_option maxRecDepth 100000 in
set_option maxHeartbeats 1000000 in
theorem e_J13_bitCount_95d88 {G : GX} {y : LY} {h : HM} {d : Nat} {X : Nat} (hX : X < 2 ^ 60) : EvI G mJ13_bitCount_95d88 (d) [.long (lZ X)] y h (((sp8 8 X : Nat) : Int)) := by
  have hb1 : bt1 8 X < 2 ^ 60 := Nat.lt_of_le_of_lt (Nat.sub_le _ _) hX
  have hb2 := bt2_bd (bt1 8 X)
  have hba := bt_all 8 X (Nat.lt_trans hX (by decide))
  have hbf := bc_fin X
  have hb22 : bt2 8 (bt1 8 X) < 2 ^ 62 := (by have := bt2_c hb1; omega)
  refine Ev.of rfl [some (.long (lZ X)), none] rfl (Nat.le_of_ble_eq_true rfl) ?_
  refine g_lload_n dJ13_bitCount_95d88_0 rfl rfl (g_lload_n dJ13_bitCount_95d88_1 rfl rfl (g_iconst dJ13_bitCount_95d88_2 (g_lushr dJ13_bitCount_95d88_3 (c2_J13_314 (M := mJ13_bitCount_95d88) rfl dJ13_bitCount_95d88_4 (g_land dJ13_bitCount_95d88_7 (g_lsub dJ13_bitCount_95d88_8 (g_dr0 (g_lst0 dJ13_bitCount_95d88_9 (by decide) rfl ?_))))))))
  rw [bc1 hX]
  refine g_lload_n dJ13_bitCount_95d88_10 rfl rfl (c2_J13_316 (M := mJ13_bitCount_95d88) rfl dJ13_bitCount_95d88_11 (g_land dJ13_bitCount_95d88_14 (g_lload_n dJ13_bitCount_95d88_15 rfl rfl (g_iconst dJ13_bitCount_95d88_16 (g_lushr dJ13_bitCount_95d88_17 (c2_J13_316 (M := mJ13_bitCount_95d88) rfl dJ13_bitCount_95d88_18 (g_land dJ13_bitCount_95d88_21 (g_ladd dJ13_bitCount_95d88_22 (g_dr0 (g_lst0 dJ13_bitCount_95d88_23 (by decide) rfl ?_))))))))))
  rw [bc2 hb1]
  refine g_lload_n dJ13_bitCount_95d88_24 rfl rfl (g_lload_n dJ13_bitCount_95d88_25 rfl rfl (g_iconst dJ13_bitCount_95d88_26 (g_lushr dJ13_bitCount_95d88_27 (g_ladd dJ13_bitCount_95d88_28 (c2_J13_318 (M := mJ13_bitCount_95d88) rfl dJ13_bitCount_95d88_29 (g_land dJ13_bitCount_95d88_32 (g_dr0 (g_lst0 dJ13_bitCount_95d88_33 (by decide) rfl ?_))))))))
  rw [bc3 hb22, hba]
  refine g_lload_n dJ13_bitCount_95d88_34 rfl rfl (g_lload_n dJ13_bitCount_95d88_35 rfl rfl (g_bipush dJ13_bitCount_95d88_36 kb8 (g_lushr dJ13_bitCount_95d88_38 (g_ladd dJ13_bitCount_95d88_39 (g_dr0 (g_lst0 dJ13_bitCount_95d88_40 (by decide) rfl ?_))))))
  rw [bc4 (by omega)]
  refine g_lload_n dJ13_bitCount_95d88_41 rfl rfl (g_lload_n dJ13_bitCount_95d88_42 rfl rfl (g_bipush dJ13_bitCount_95d88_43 kb16 (g_lushr dJ13_bitCount_95d88_45 (g_ladd dJ13_bitCount_95d88_46 (g_dr0 (g_lst0 dJ13_bitCount_95d88_47 (by decide) rfl ?_))))))
  rw [bc5 (by omega)]
  refine g_lload_n dJ13_bitCount_95d88_48 rfl rfl (g_lload_n dJ13_bitCount_95d88_49 rfl rfl (g_bipush dJ13_bitCount_95d88_50 kb32 (g_lushr dJ13_bitCount_95d88_52 (g_ladd dJ13_bitCount_95d88_53 (g_dr0 (g_lst0 dJ13_bitCount_95d88_54 (by decide) rfl ?_))))))
  rw [bc6 (by omega)]
  refine g_lload_n dJ13_bitCount_95d88_55 rfl rfl (g_l2i dJ13_bitCount_95d88_56 (g_bipush dJ13_bitCount_95d88_57 kb127 (g_iand dJ13_bitCount_95d88_59 ?_)))
  rw [iAnd127, hbf.1]
  exact g_iret dJ13_bitCount_95d88_60 rfl rfl ⟨Nat.le_refl _, Nat.le_refl _⟩ (by exact ⟨rfl, rfl⟩)
/-- how many wheels fit, by their teeth from 2 on -/
noncomputable def cwT (P : Int → Int → Prop) : Nat → Int
  | 0 => 0
  | n + 1 => cwT P n + cntN (P (n + 2)) 0 (n + 2)
theorem cwT_bd (P : Int → Int → Prop) : ∀ n : Nat, n ≤ 60 → 0 ≤ cwT P n ∧ cwT P n ≤ 100 * n
  | 0, _ => ⟨Int.le_refl _, Int.le_refl _⟩
  | n + 1, h => by
    have h1 := cwT_bd P n (by omega)
    have h2 := cntN_bd (P := P (n + 2)) (lo := 0) (n + 2)
    rw [cwT]; push_cast at h2 ⊢; omega
def NoW (P : Int → Int → Prop) (n : Int) : Prop := ∀ te s : Int, 2 ≤ te → te < n → 0 ≤ s → s < te → ¬ P te s
def FstW (P : Int → Int → Prop) (te s : Int) : Prop := NoW P te ∧ P te s ∧ (2 ≤ te ∧ te ≤ 60) ∧ (0 ≤ s ∧ s < te) ∧ ∀ s2 : Int, 0 ≤ s2 → s2 < s → ¬ P te s2
theorem FstW.uniq {P : Int → Int → Prop} {te s te2 s2 : Int} (h1 : FstW P te s) (h2 : FstW P te2 s2) : te = te2 ∧ s = s2 := by
  obtain ⟨a1, a2, a3, a4, a5⟩ := h1
  obtain ⟨b1, b2, b3, b4, b5⟩ := h2
  have e : te = te2 := by
    rcases Int.lt_trichotomy te te2 with q | q | q
    · exact absurd a2 (b1 te s (by omega) q (by omega) (by omega))
    · exact q
    · exact absurd b2 (a1 te2 s2 (by omega) q (by omega) (by omega))
  subst e
  refine ⟨rfl, ?_⟩
  rcases Int.lt_trichotomy s s2 with q | q | q
  · exact absurd a2 (b5 s (by omega) q)
  · exact q
  · exact absurd b2 (a5 s2 (by omega) q)
def WhP (P : Int → Int → Prop) (w v : Int) : Prop := (w = 0 ∧ v = cwT P 59) ∨ ((w = 1 ∨ w = 2) ∧ ((NoW P 61 ∧ v = -4) ∨ ∃ te s : Int, FstW P te s ∧ v = if w = 1 then te else s))
theorem WhP.uniq {P : Int → Int → Prop} {w v v2 : Int} (h1 : WhP P w v) (h2 : WhP P w v2) : v = v2 := by
  rcases h1 with ⟨a, b⟩ | ⟨a, ⟨b1, b2⟩ | ⟨te, s, b1, b2⟩⟩ <;> rcases h2 with ⟨c, d⟩ | ⟨c, ⟨d1, d2⟩ | ⟨te2, s2, d1, d2⟩⟩ <;> first | omega | skip
  · exact absurd d1.2.1 (b1 te2 s2 d1.2.2.1.1 (by have := d1.2.2.1; omega) d1.2.2.2.1.1 d1.2.2.2.1.2)
  · exact absurd b1.2.1 (d1 te s b1.2.2.1.1 (by have := b1.2.2.1; omega) b1.2.2.2.1.1 b1.2.2.2.1.2)
  · obtain ⟨rfl, rfl⟩ := b1.uniq d1
    rw [b2, d2]
theorem wh_low {P : Int → Int → Prop} {Y : Nat} {te v : Int} (ht : 2 ≤ te ∧ te ≤ 60) (hn : NoW P te) (hY : ∀ s : Nat, Y.testBit s = true ↔ s < te.toNat ∧ P te s) (h0 : ¬ Y = 0) (hl : LowP Y v) : FstW P te v := by
  rcases hl with ⟨q, _⟩ | ⟨q1, q2, q3, q4⟩
  · exact absurd q h0
  · have q5 := (hY v.toNat).mp q3
    rw [show ((v.toNat : Nat) : Int) = v by omega] at q5
    refine ⟨hn, q5.2, ht, by omega, fun s2 z0 z1 z2 => ?_⟩
    have := q4 s2.toNat (by omega)
    have z3 := (hY s2.toNat).mpr ⟨by omega, by rw [show ((s2.toNat : Nat) : Int) = s2 by omega]; exact z2⟩
    rw [this] at z3
    cases z3
theorem wh_ex {Y : Nat} (hY : Y < 2 ^ 60) (h0 : ¬ Y = 0) : ∃ v : Int, LowP Y v := by
  have h : ∃ n : Nat, Y.testBit n = true ∧ ∀ i, i < n → Y.testBit i = false := by
    apply Classical.byContradiction
    intro hn
    apply h0
    apply Nat.eq_of_testBit_eq
    intro i
    rw [Nat.zero_testBit]
    induction i using Nat.strongRecOn with
    | _ i ih =>
      cases hb : Y.testBit i with
      | false => rfl
      | true => exact absurd ⟨i, hb, ih⟩ hn
  obtain ⟨n, h1, h2⟩ := h
  have h3 : n < 60 := lt_of_bit hY h1
  exact ⟨n, Or.inr ⟨by omega, by omega, h1, h2⟩⟩
theorem NoW.next {P : Int → Int → Prop} {Y : Nat} {te : Int} (hn : NoW P te) (hY : ∀ s : Nat, Y.testBit s = true ↔ s < te.toNat ∧ P te s) (h0 : Y = 0) : NoW P (te + 1) := by
  intro t2 s a b c d e
  rcases (by omega : t2 < te ∨ t2 = te) with q | rfl
  · exact hn t2 s a q c d e
  · have := (hY s.toNat).mpr ⟨by omega, by rw [show ((s.toNat : Nat) : Int) = s by omega]; exact e⟩
    rw [h0, Nat.zero_testBit] at this
    cases this
set_option maxRecDepth 100000 in
set_option maxHeartbeats 1000000 in
theorem e_X8_wheels {G : GX} {y : LY} {h : HM} {d : Nat} (hY : Lay y) {f w : Int} (hf : R32 f) (hw : R32 w) (hS : CS_ h 12) (hnf : 0 ≤ h.I 12 3 ∧ h.I 12 3 ≤ 6) : EvQI G mX8_wheels (d + 2) [.ref 9, .int (iZ f), .int (iZ w)] y h (fun v : Int => (¬ ((0 ≤ f ∧ f < h.I 12 3) ∧ (0 ≤ w ∧ w ≤ 2)) ∧ v = -1) ∨ (((0 ≤ f ∧ f < h.I 12 3) ∧ (0 ≤ w ∧ w ≤ 2)) ∧ WhP (PlF h 12 f) w v)) := by
  have hpf := pI_01 (0 ≤ f ∧ f < h.I 12 3)
  have hpf2 := pI_eq1 (P := 0 ≤ f ∧ f < h.I 12 3)
  refine Ev.of rfl [some (.ref 9), some (.int (iZ f)), some (.int (iZ w)), none, none, none, none] rfl (Nat.le_of_ble_eq_true rfl) ?_
  have L24 : ∀ (m : Nat) (te : Nat), m = 59 - te → te ≤ 59 → (0 ≤ f ∧ f < h.I 12 3) ∧ (0 ≤ w ∧ w ≤ 2) → (¬ w = 0 → NoW (PlF h 12 f) (te + 2)) → Go G mX8_wheels (rmo (d + 2) 0 0) (ZM G y 0 0 (fun r h1 => ∃ v_ : Int, r = some (.int (iZ v_)) ∧ h1 = h ∧ (fun v : Int => (¬ ((0 ≤ f ∧ f < h.I 12 3) ∧ (0 ≤ w ∧ w ≤ 2)) ∧ v = -1) ∨ (((0 ≤ f ∧ f < h.I 12 3) ∧ (0 ≤ w ∧ w ≤ 2)) ∧ WhP (PlF h 12 f) w v)) v_)) y 24 [some (.ref 9), some (.int (iZ f)), some (.int (iZ w)), some (.int (iZ (cwT (PlF h 12 f) te))), some (.int (iZ ((te : Int) + 2))), none, none] [] h (0, 0) := by
    intro m
    induction m using Nat.strongRecOn with | _ m ih =>
    intro te hm hte hok hno
    have hcb := cwT_bd (PlF h 12 f) te (by omega)
    refine g_iload dX8_wheels_24 rfl (g_bipush dX8_wheels_26 kb60 ?_)
    refine g_icmp_gt 90 dX8_wheels_28 rfl (by omega) (by omega) (fun c28 => ?_) (fun c28 => ?_)
    · skip
      refine g_iload_n dX8_wheels_90 rfl rfl ?_
      refine g_if_ne 98 dX8_wheels_91 rfl (by omega) (fun c91 => ?_) (fun c91 => ?_)
      · skip
        refine g_bipush dX8_wheels_98 kbm4 ?_
        exact g_iret dX8_wheels_100 rfl rfl ⟨Nat.le_refl _, Nat.le_refl _⟩ (by obtain rfl : te = 59 := (by omega); first | exact ⟨_, rfl, rfl, Or.inr ⟨hok, Or.inl ⟨by omega, rfl⟩⟩⟩ | exact ⟨_, rfl, rfl, Or.inr ⟨hok, Or.inr ⟨by omega, Or.inl ⟨hno (by omega), rfl⟩⟩⟩⟩)
      · skip
        refine g_iload_n dX8_wheels_94 rfl rfl (g_goto 100 dX8_wheels_95 rfl ?_)
        exact g_iret dX8_wheels_100 rfl rfl ⟨Nat.le_refl _, Nat.le_refl _⟩ (by obtain rfl : te = 59 := (by omega); first | exact ⟨_, rfl, rfl, Or.inr ⟨hok, Or.inl ⟨by omega, rfl⟩⟩⟩ | exact ⟨_, rfl, rfl, Or.inr ⟨hok, Or.inr ⟨by omega, Or.inl ⟨hno (by omega), rfl⟩⟩⟩⟩)
    · skip
      refine g_aload_n dX8_wheels_31 rfl rfl (gf_X8_19 (M := mX8_wheels) rfl dX8_wheels_32 (yo9 hY) (yr9_1 hY) (g_iload_n dX8_wheels_35 rfl rfl (g_iload dX8_wheels_36 rfl ?_)))
      refine cv_X8_280 (M := mX8_wheels) rfl dX8_wheels_38 (ck_o hY clk12) (RO.same _ _ _) (Nat.le_of_ble_eq_true rfl) (e_X0_fittingStarts hY (Or.inl rfl) hS (by omega) (by omega)) (kQL fun v38 hq38 => ?_)
      obtain ⟨Y, rfl, hY1, hY2⟩ := hq38
      have hY60 : Y < 2 ^ 60 := Nat.lt_of_lt_of_le hY1 (Nat.pow_le_pow_right (by decide) (by omega))
      have hcn := cnt_bits (P := (PlF h 12 f) ((te : Int) + 2)) (by omega) hY2
      have hcb2 := cntN_bd (P := (PlF h 12 f) ((te : Int) + 2)) (lo := 0) ((te : Int) + 2).toNat
      refine g_lst5 dX8_wheels_41 (by decide) rfl (g_lload dX8_wheels_43 rfl (g_lconst (v := 0) dX8_wheels_45 rfl ?_))
      refine g_lcmp_eq 58 dX8_wheels_46 dX8_wheels_47 rfl (by omega) (by omega) (fun c46 => ?_) (fun c46 => ?_)
      · skip
        refine g_lload dX8_wheels_58 rfl (g_lconst (v := 0) dX8_wheels_60 rfl ?_)
        refine g_lcmp_eq 76 dX8_wheels_61 dX8_wheels_62 rfl (by omega) (by omega) (fun c61 => ?_) (fun c61 => ?_)
        · skip
          refine g_iload_n dX8_wheels_76 rfl rfl (g_lload dX8_wheels_77 rfl (cv_X8_287 (M := mX8_wheels) rfl dX8_wheels_79 (RO.same _ _ _) (Nat.le_of_ble_eq_true rfl) (e_J13_bitCount_95d88 (by omega)) <| kI (g_iadd dX8_wheels_82 (g_ist3 dX8_wheels_83 (by decide) rfl (g_inc4 dX8_wheels_84 (by decide) rfl (g_goto 24 dX8_wheels_87 rfl (g_dr5 ?_)))))))
          have hx := ih (m - 1) (by omega) (te + 1) (by omega) (by omega) hok (fun z => by push_cast; rw [show (te : Int) + 1 + 2 = (te : Int) + 2 + 1 by omega]; exact (hno z).next hY2 (by omega))
          rw [cwT, show ((te + 1 : Nat) : Int) + 2 = (te : Int) + 2 + 1 by omega] at hx
          rw [hcn, show ((te : Int) + 2).toNat = te + 2 by omega]
          exact hx
        · skip
          refine g_iload_n dX8_wheels_65 rfl rfl (g_iconst dX8_wheels_66 ?_)
          refine g_icmp_ne 76 dX8_wheels_67 rfl (by omega) (by omega) (fun c67 => ?_) (fun c67 => ?_)
          · skip
            refine g_iload_n dX8_wheels_76 rfl rfl (g_lload dX8_wheels_77 rfl (cv_X8_287 (M := mX8_wheels) rfl dX8_wheels_79 (RO.same _ _ _) (Nat.le_of_ble_eq_true rfl) (e_J13_bitCount_95d88 (by omega)) <| kI (g_iadd dX8_wheels_82 (g_ist3 dX8_wheels_83 (by decide) rfl (g_inc4 dX8_wheels_84 (by decide) rfl (g_goto 24 dX8_wheels_87 rfl (g_dr5 ?_)))))))
            have hx := ih (m - 1) (by omega) (te + 1) (by omega) (by omega) hok (fun z => by push_cast; rw [show (te : Int) + 1 + 2 = (te : Int) + 2 + 1 by omega]; exact (hno z).next hY2 (by omega))
            rw [cwT, show ((te + 1 : Nat) : Int) + 2 = (te : Int) + 2 + 1 by omega] at hx
            rw [hcn, show ((te : Int) + 2).toNat = te + 2 by omega]
            exact hx
          · skip
            refine g_lload dX8_wheels_70 rfl ?_
            refine cv_X8_284 (M := mX8_wheels) rfl dX8_wheels_72 (RO.same _ _ _) (Nat.le_of_ble_eq_true rfl) (e_X8_lowestBit hY60) (kQI fun v72 hq72 => ?_)
            exact g_iret dX8_wheels_75 rfl rfl ⟨Nat.le_refl _, Nat.le_refl _⟩ (by exact ⟨_, rfl, rfl, Or.inr ⟨hok, Or.inr ⟨Or.inr (by omega), Or.inr ⟨_, _, wh_low (by omega) (hno (by omega)) hY2 (by omega) hq72, by rw [if_neg (by omega)]⟩⟩⟩⟩)
      · skip
        refine g_iload_n dX8_wheels_50 rfl rfl (g_iconst dX8_wheels_51 ?_)
        refine g_icmp_ne 58 dX8_wheels_52 rfl (by omega) (by omega) (fun c52 => ?_) (fun c52 => ?_)
        · skip
          refine g_lload dX8_wheels_58 rfl (g_lconst (v := 0) dX8_wheels_60 rfl ?_)
          refine g_lcmp_eq 76 dX8_wheels_61 dX8_wheels_62 rfl (by omega) (by omega) (fun c61 => ?_) (fun c61 => ?_)
          · skip
            refine g_iload_n dX8_wheels_76 rfl rfl (g_lload dX8_wheels_77 rfl (cv_X8_287 (M := mX8_wheels) rfl dX8_wheels_79 (RO.same _ _ _) (Nat.le_of_ble_eq_true rfl) (e_J13_bitCount_95d88 (by omega)) <| kI (g_iadd dX8_wheels_82 (g_ist3 dX8_wheels_83 (by decide) rfl (g_inc4 dX8_wheels_84 (by decide) rfl (g_goto 24 dX8_wheels_87 rfl (g_dr5 ?_)))))))
            have hx := ih (m - 1) (by omega) (te + 1) (by omega) (by omega) hok (fun z => by push_cast; rw [show (te : Int) + 1 + 2 = (te : Int) + 2 + 1 by omega]; exact (hno z).next hY2 (by omega))
            rw [cwT, show ((te + 1 : Nat) : Int) + 2 = (te : Int) + 2 + 1 by omega] at hx
            rw [hcn, show ((te : Int) + 2).toNat = te + 2 by omega]
            exact hx
          · skip
            refine g_iload_n dX8_wheels_65 rfl rfl (g_iconst dX8_wheels_66 ?_)
            refine g_icmp_ne 76 dX8_wheels_67 rfl (by omega) (by omega) (fun c67 => ?_) (fun c67 => ?_)
            · skip
              refine g_iload_n dX8_wheels_76 rfl rfl (g_lload dX8_wheels_77 rfl (cv_X8_287 (M := mX8_wheels) rfl dX8_wheels_79 (RO.same _ _ _) (Nat.le_of_ble_eq_true rfl) (e_J13_bitCount_95d88 (by omega)) <| kI (g_iadd dX8_wheels_82 (g_ist3 dX8_wheels_83 (by decide) rfl (g_inc4 dX8_wheels_84 (by decide) rfl (g_goto 24 dX8_wheels_87 rfl (g_dr5 ?_)))))))
              have hx := ih (m - 1) (by omega) (te + 1) (by omega) (by omega) hok (fun z => by push_cast; rw [show (te : Int) + 1 + 2 = (te : Int) + 2 + 1 by omega]; exact (hno z).next hY2 (by omega))
              rw [cwT, show ((te + 1 : Nat) : Int) + 2 = (te : Int) + 2 + 1 by omega] at hx
              rw [hcn, show ((te : Int) + 2).toNat = te + 2 by omega]
              exact hx
            · skip
              refine g_lload dX8_wheels_70 rfl ?_
              refine cv_X8_284 (M := mX8_wheels) rfl dX8_wheels_72 (RO.same _ _ _) (Nat.le_of_ble_eq_true rfl) (e_X8_lowestBit hY60) (kQI fun v72 hq72 => ?_)
              exact g_iret dX8_wheels_75 rfl rfl ⟨Nat.le_refl _, Nat.le_refl _⟩ (by exact ⟨_, rfl, rfl, Or.inr ⟨hok, Or.inr ⟨Or.inr (by omega), Or.inr ⟨_, _, wh_low (by omega) (hno (by omega)) hY2 (by omega) hq72, by rw [if_neg (by omega)]⟩⟩⟩⟩)
        · skip
          refine g_iload dX8_wheels_55 rfl ?_
          exact g_iret dX8_wheels_57 rfl rfl ⟨Nat.le_refl _, Nat.le_refl _⟩ (by refine ⟨_, rfl, rfl, Or.inr ⟨hok, Or.inr ⟨Or.inl (by omega), Or.inr ?_⟩⟩⟩; obtain ⟨z, hz⟩ := wh_ex hY60 (by omega); exact ⟨_, z, wh_low (by omega) (hno (by omega)) hY2 (by omega) hz, by rw [if_pos (by omega)]⟩)
  refine g_aload_n dX8_wheels_0 rfl rfl (g_iload_n dX8_wheels_1 rfl rfl (cv_X8_116 (M := mX8_wheels) rfl dX8_wheels_2 (yo9 hY) (RO.same _ _ _) (Nat.le_of_ble_eq_true rfl) (e_X8_isFigure hY (by omega) (by omega)) <| kI ?_))
  refine g_if_eq 17 dX8_wheels_5 rfl (by omega) (fun c5 => ?_) (fun c5 => ?_)
  · skip
    refine g_iconst dX8_wheels_17 ?_
    exact g_iret dX8_wheels_18 rfl rfl ⟨Nat.le_refl _, Nat.le_refl _⟩ (by exact ⟨-1, rfl, rfl, Or.inl ⟨by omega, rfl⟩⟩)
  · skip
    refine g_iload_n dX8_wheels_8 rfl rfl ?_
    refine g_if_lt 17 dX8_wheels_9 rfl (by omega) (fun c9 => ?_) (fun c9 => ?_)
    · skip
      refine g_iconst dX8_wheels_17 ?_
      exact g_iret dX8_wheels_18 rfl rfl ⟨Nat.le_refl _, Nat.le_refl _⟩ (by exact ⟨-1, rfl, rfl, Or.inl ⟨by omega, rfl⟩⟩)
    · skip
      refine g_iload_n dX8_wheels_12 rfl rfl (g_iconst dX8_wheels_13 ?_)
      refine g_icmp_le 19 dX8_wheels_14 rfl (by omega) (by omega) (fun c14 => ?_) (fun c14 => ?_)
      · skip
        refine g_iconst dX8_wheels_19 (g_ist3 dX8_wheels_20 (by decide) rfl (g_iconst dX8_wheels_21 (g_ist4 dX8_wheels_22 (by decide) rfl ?_)))
        exact L24 59 0 (by omega) (by omega) (by omega) (fun _ te s a b => by omega)
      · skip
        refine g_iconst dX8_wheels_17 ?_
        exact g_iret dX8_wheels_18 rfl rfl ⟨Nat.le_refl _, Nat.le_refl _⟩ (by exact ⟨-1, rfl, rfl, Or.inl ⟨by omega, rfl⟩⟩)
