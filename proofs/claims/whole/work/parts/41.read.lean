/-- the heap behind i sights read from row r at a on -/
def rdH (h : HM) (r : Nat) (a : Int) : Nat → HM
  | 0 => h
  | i + 1 => asH (rdH h r a i) (h.I r (a + 3 * i).toNat) (h.I r (a + 3 * i + 1).toNat) (h.I r (a + 3 * i + 2).toNat)
theorem asH_I (h : HM) (p q r : Int) {a : Nat} (ha : a ≠ 12) (hb : a < 28 ∨ 28 + (h.I 12 5).toNat < a ∨ a < 28 + (h.I 12 5).toNat) (j : Nat) : (asH h p q r).I a j = h.I a j := by
  have n1 : ¬ a = 12 + 16 + (h.I 12 5).toNat := by omega
  unfold asH wr3
  simp only [sI_I, n1, ha, false_and, if_false]
theorem asH_12 (h : HM) (p q r : Int) (j : Nat) : (asH h p q r).I 12 j = if j = 5 then h.I 12 5 + 1 else h.I 12 j := by
  have n1 : ¬ 12 = 12 + 16 + (h.I 12 5).toNat := by omega
  unfold asH wr3
  simp only [sI_I, n1, false_and, if_false, true_and]
theorem rdH_5 (h : HM) (r : Nat) (a : Int) : ∀ i : Nat, (rdH h r a i).I 12 5 = h.I 12 5 + i
  | 0 => by simp [rdH]
  | i + 1 => by rw [rdH, asH_12, if_pos rfl, rdH_5 h r a i]; push_cast; omega
theorem rdH_3 (h : HM) (r : Nat) (a : Int) (j : Nat) (hj : j ≠ 5) : ∀ i : Nat, (rdH h r a i).I 12 j = h.I 12 j
  | 0 => rfl
  | i + 1 => by rw [rdH, asH_12, if_neg hj, rdH_3 h r a j hj i]
theorem rdH_I (h : HM) (r : Nat) (a : Int) (h0 : 0 ≤ h.I 12 5) {b : Nat} (hb : b < 12 ∨ (12 < b ∧ b < 28) ∨ 39 < b) (j : Nat) : ∀ i : Nat, h.I 12 5 + i ≤ 12 → (rdH h r a i).I b j = h.I b j
  | 0, _ => rfl
  | i + 1, hi => by
    push_cast at hi
    have e := rdH_5 h r a i
    rw [rdH, asH_I _ _ _ _ (by omega) (by omega), rdH_I h r a h0 hb j i (by omega)]
