def EvQI (G : GX) (M : MI) (d : Nat) (as : List Value) (y : LY) (h : HM) (P : Int → Prop) : Prop := Ev G M d 0 0 as y h y (fun r h1 => ∃ v : Int, r = some (.int (iZ v)) ∧ h1 = h ∧ P v)
def EvQL (G : GX) (M : MI) (d : Nat) (as : List Value) (y : LY) (h : HM) (P : Int → Prop) : Prop := Ev G M d 0 0 as y h y (fun r h1 => ∃ v : Int, r = some (.long (lZ v)) ∧ h1 = h ∧ P v)
def EvQV (G : GX) (M : MI) (d : Nat) (as : List Value) (y : LY) (h : HM) (P : HM → Prop) : Prop := Ev G M d 0 0 as y h y (fun r h1 => r = none ∧ P h1)
def EvQX (G : GX) (M : MI) (d : Nat) (as : List Value) (y : LY) (h : HM) (P : Int → HM → Prop) : Prop := Ev G M d 0 0 as y h y (fun r h1 => ∃ v : Int, r = some (.int (iZ v)) ∧ P v h1)
def EvQW (G : GX) (M : MI) (d : Nat) (as : List Value) (y : LY) (h : HM) (P : Int → HM → Prop) : Prop := Ev G M d 0 0 as y h y (fun r h1 => ∃ v : Int, r = some (.long (lZ v)) ∧ P v h1)
section KQ
variable {G : GX} {M : MI} {R : Room} {Z : ZT} {y : LY} {pc : Nat} {ls : List (Option Value)} {st : List Value} {h : HM} {cs : Nat × Nat}
theorem kQI {P : Int → Prop} (k : ∀ v, P v → Go G M R Z y (pc + 3) ls (.int (iZ v) :: st) h cs) : ∀ (r : Option Value) (h1 : HM), (∃ v : Int, r = some (.int (iZ v)) ∧ h1 = h ∧ P v) → Go G M R Z y (pc + 3) ls (r.toList ++ st) h1 (cs.1 + 0, cs.2 + 0) := by
  rintro r h1 ⟨v, rfl, rfl, hp⟩; exact k v hp
theorem kQL {P : Int → Prop} (k : ∀ v, P v → Go G M R Z y (pc + 3) ls (.long (lZ v) :: st) h cs) : ∀ (r : Option Value) (h1 : HM), (∃ v : Int, r = some (.long (lZ v)) ∧ h1 = h ∧ P v) → Go G M R Z y (pc + 3) ls (r.toList ++ st) h1 (cs.1 + 0, cs.2 + 0) := by
  rintro r h1 ⟨v, rfl, rfl, hp⟩; exact k v hp
theorem kQV {P : HM → Prop} (k : ∀ h1, P h1 → Go G M R Z y (pc + 3) ls st h1 cs) : ∀ (r : Option Value) (h1 : HM), (r = none ∧ P h1) → Go G M R Z y (pc + 3) ls (r.toList ++ st) h1 (cs.1 + 0, cs.2 + 0) := by
  rintro r h1 ⟨rfl, hp⟩; exact k h1 hp
theorem kQX {P : Int → HM → Prop} (k : ∀ v h1, P v h1 → Go G M R Z y (pc + 3) ls (.int (iZ v) :: st) h1 cs) : ∀ (r : Option Value) (h1 : HM), (∃ v : Int, r = some (.int (iZ v)) ∧ P v h1) → Go G M R Z y (pc + 3) ls (r.toList ++ st) h1 (cs.1 + 0, cs.2 + 0) := by
  rintro r h1 ⟨v, rfl, hp⟩; exact k v h1 hp
theorem kQW {P : Int → HM → Prop} (k : ∀ v h1, P v h1 → Go G M R Z y (pc + 3) ls (.long (lZ v) :: st) h1 cs) : ∀ (r : Option Value) (h1 : HM), (∃ v : Int, r = some (.long (lZ v)) ∧ P v h1) → Go G M R Z y (pc + 3) ls (r.toList ++ st) h1 (cs.1 + 0, cs.2 + 0) := by
  rintro r h1 ⟨v, rfl, hp⟩; exact k v h1 hp
end KQ
/-- the lowest bit -/
def LowP (X : Nat) (v : Int) : Prop := (X = 0 ∧ v = 0) ∨ (0 ≤ v ∧ v < 60 ∧ X.testBit v.toNat = true ∧ ∀ i, i < v.toNat → X.testBit i = false)
theorem bit_0 {X : Nat} (hX : X < 2 ^ 60) (h : ∀ i, i < 60 → X.testBit i = false) : X = 0 := by
  apply Nat.eq_of_testBit_eq
  intro i
  rw [Nat.zero_testBit]
  by_cases hi : i < 60
  · exact h i hi
  · exact Nat.testBit_lt_two_pow (Nat.lt_of_lt_of_le hX (Nat.pow_le_pow_right (by decide) (by omega)))
theorem bitQ' {X : Nat} {i : Int} (hi : 0 ≤ i ∧ i < 63) (hX : X < 2 ^ 63) : lAnd (lUshr X i) 1 = if X.testBit i.toNat then 1 else 0 := by
  have := bitQ (n := X) (k := i.toNat) (by omega) hX
  rwa [show ((i.toNat : Nat) : Int) = i by omega] at this
set_option maxRecDepth 100000 in
set_option maxHeartbeats 4000000 in
theorem e_X8_lowestBit {G : GX} {y : LY} {h : HM} {d : Nat} {X : Nat} (hX : X < 2 ^ 60) : EvQI G mX8_lowestBit (d) [.long (lZ X)] y h (LowP X) := by
  refine Ev.of rfl [some (.long (lZ X)), none, none] rfl (Nat.le_of_ble_eq_true rfl) ?_
  have L2 : ∀ (m : Nat) (i : Int), m = (60 - i).toNat → 0 ≤ i ∧ i ≤ 60 → (∀ j, j < i.toNat → X.testBit j = false) → Go G mX8_lowestBit (rmo (d) 0 0) (ZM G y 0 0 (fun r h1 => ∃ v : Int, r = some (.int (iZ v)) ∧ h1 = h ∧ (LowP X) v)) y 2 [some (.long (lZ X)), none, some (.int (iZ i))] [] h (0, 0) := by
    intro m
    induction m using Nat.strongRecOn with | _ m ih =>
    intro i hm hi hno
    have hq : 0 ≤ i ∧ i < 60 → lAnd (lUshr X i) 1 = if X.testBit i.toNat then 1 else 0 := fun q => bitQ' (by omega) (by omega)
    have hq2 : 0 ≤ i ∧ i < 60 → 0 ≤ lAnd (lUshr X i) 1 ∧ lAnd (lUshr X i) 1 ≤ 1 := fun q => by rw [hq q]; split <;> omega
    refine g_iload_n dX8_lowestBit_2 rfl rfl (g_bipush dX8_lowestBit_3 kb60 ?_)
    refine g_icmp_ge 26 dX8_lowestBit_5 rfl (by omega) (by omega) (fun c5 => ?_) (fun c5 => ?_)
    · skip
      refine g_iconst dX8_lowestBit_26 ?_
      exact g_iret dX8_lowestBit_27 rfl rfl ⟨Nat.le_refl _, Nat.le_refl _⟩ (by exact ⟨0, rfl, rfl, Or.inl ⟨bit_0 hX (fun j hj => hno j (by omega)), rfl⟩⟩)
    · skip
      have hq3 := hq2 (by omega)
      have hq4 := hq (by omega)
      refine g_lload_n dX8_lowestBit_8 rfl rfl (g_iload_n dX8_lowestBit_9 rfl rfl (g_lushr dX8_lowestBit_10 (g_lconst (v := 1) dX8_lowestBit_11 rfl (g_land dX8_lowestBit_12 (g_lconst (v := 0) dX8_lowestBit_13 rfl ?_)))))
      refine g_lcmp_eq 20 dX8_lowestBit_14 dX8_lowestBit_15 rfl (by omega) (by omega) (fun c14 => ?_) (fun c14 => ?_)
      · skip
        refine g_inc2 dX8_lowestBit_20 (by decide) rfl (g_goto 2 dX8_lowestBit_23 rfl ?_)
        refine ih _ (by omega) (i + 1) rfl (by omega) (fun j hj => ?_)
        rcases (by omega : j < i.toNat ∨ j = i.toNat) with z | rfl
        · exact hno j z
        · rw [c14] at hq4; cases hb : X.testBit i.toNat with
          | false => rfl
          | true => rw [hb] at hq4; simp at hq4
      · skip
        refine g_iload_n dX8_lowestBit_18 rfl rfl ?_
        exact g_iret dX8_lowestBit_19 rfl rfl ⟨Nat.le_refl _, Nat.le_refl _⟩ (by refine ⟨i, rfl, rfl, Or.inr ⟨hi.1, by omega, ?_, hno⟩⟩; cases hb : X.testBit i.toNat with | true => rfl | false => (rw [hb] at hq4; exact absurd (by simpa using hq4) c14))
  refine g_iconst dX8_lowestBit_0 (g_ist2 dX8_lowestBit_1 (by decide) rfl ?_)
  exact L2 _ 0 rfl (by omega) (fun j hj => absurd hj (by omega))
