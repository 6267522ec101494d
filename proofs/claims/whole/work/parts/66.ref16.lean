/-! names and numbers, in the reference -/
def Is4 (T : Nat → Int) (len ln q n a b c e : Int) : Prop := ln = n ∧ lkV T len q = a ∧ lkV T len (q + 1) = b ∧ lkV T len (q + 2) = c ∧ lkV T len (q + 3) = e
def En3 (T : Nat → Int) (len q a b c : Int) : Prop := lkV T len (q + 4) = a ∧ (b = 0 ∨ lkV T len (q + 5) = b) ∧ (c = 0 ∨ lkV T len (q + 6) = c)
theorem nm_i {T : Nat → Int} {len : Int} {P : PS} (hB : PB T len P) {k : Nat} {n : Int} (hl : lnI k = n) : IsNm T P k ↔ P.tok = 1 ∧ P.ten - P.tat = n ∧ ∀ i : Nat, (i : Int) < n → lkV T len (P.tat + i) = chI k i := by
  subst hl
  have h1 := hB.2.1; have h2 := hB.2.2.1; have h3 := hB.2.2.2.1
  constructor
  · rintro ⟨a, b, c⟩
    exact ⟨a, b, fun i hi => by unfold lkV; rw [if_pos (by omega)]; exact c i hi⟩
  · rintro ⟨a, b, c⟩
    refine ⟨a, b, fun i hi => ?_⟩
    have := c i hi
    unfold lkV at this
    rw [if_pos (by omega)] at this
    exact this
theorem nm0 {T : Nat → Int} {len : Int} {P : PS} (hB : PB T len P) (ht : P.tok = 1) : IsNm T P 0 ↔ Is4 T len (P.ten - P.tat) P.tat 6 102 105 103 117 ∧ En3 T len P.tat 114 101 0 := by
  have c0 : chI 0 0 = 102 := by decide +kernel
  have c1 : chI 0 1 = 105 := by decide +kernel
  have c2 : chI 0 2 = 103 := by decide +kernel
  have c3 : chI 0 3 = 117 := by decide +kernel
  have c4 : chI 0 4 = 114 := by decide +kernel
  have c5 : chI 0 5 = 101 := by decide +kernel
  rw [nm_i hB (n := 6) (by decide +kernel)]
  constructor
  · rintro ⟨_, a, b⟩
    exact ⟨⟨a, (congrArg (lkV T len) (by omega : P.tat = P.tat + ((0 : Nat) : Int))).trans ((b 0 (by decide)).trans c0), (congrArg (lkV T len) (by omega : P.tat + 1 = P.tat + ((1 : Nat) : Int))).trans ((b 1 (by decide)).trans c1), (congrArg (lkV T len) (by omega : P.tat + 2 = P.tat + ((2 : Nat) : Int))).trans ((b 2 (by decide)).trans c2), (congrArg (lkV T len) (by omega : P.tat + 3 = P.tat + ((3 : Nat) : Int))).trans ((b 3 (by decide)).trans c3)⟩, (congrArg (lkV T len) (by omega : P.tat + 4 = P.tat + ((4 : Nat) : Int))).trans ((b 4 (by decide)).trans c4), Or.inr ((congrArg (lkV T len) (by omega : P.tat + 5 = P.tat + ((5 : Nat) : Int))).trans ((b 5 (by decide)).trans c5)), Or.inl rfl⟩
  · rintro ⟨⟨a, x0, x1, x2, x3⟩, x4, x5, _⟩
    refine ⟨ht, a, fun i hi => ?_⟩
    rcases (by omega : i = 0 ∨ i = 1 ∨ i = 2 ∨ i = 3 ∨ i = 4 ∨ i = 5) with rfl | rfl | rfl | rfl | rfl | rfl
    · exact (congrArg (lkV T len) (by omega : P.tat + ((0 : Nat) : Int) = P.tat)).trans (x0.trans c0.symm)
    · exact (congrArg (lkV T len) (by omega : P.tat + ((1 : Nat) : Int) = P.tat + 1)).trans (x1.trans c1.symm)
    · exact (congrArg (lkV T len) (by omega : P.tat + ((2 : Nat) : Int) = P.tat + 2)).trans (x2.trans c2.symm)
    · exact (congrArg (lkV T len) (by omega : P.tat + ((3 : Nat) : Int) = P.tat + 3)).trans (x3.trans c3.symm)
    · exact (congrArg (lkV T len) (by omega : P.tat + ((4 : Nat) : Int) = P.tat + 4)).trans (x4.trans c4.symm)
    · exact (congrArg (lkV T len) (by omega : P.tat + ((5 : Nat) : Int) = P.tat + 5)).trans ((x5.resolve_left (by decide)).trans c5.symm)
theorem nm1 {T : Nat → Int} {len : Int} {P : PS} (hB : PB T len P) (ht : P.tok = 1) : IsNm T P 1 ↔ Is4 T len (P.ten - P.tat) P.tat 5 115 116 105 99 ∧ En3 T len P.tat 107 0 0 := by
  have c0 : chI 1 0 = 115 := by decide +kernel
  have c1 : chI 1 1 = 116 := by decide +kernel
  have c2 : chI 1 2 = 105 := by decide +kernel
  have c3 : chI 1 3 = 99 := by decide +kernel
  have c4 : chI 1 4 = 107 := by decide +kernel
  rw [nm_i hB (n := 5) (by decide +kernel)]
  constructor
  · rintro ⟨_, a, b⟩
    exact ⟨⟨a, (congrArg (lkV T len) (by omega : P.tat = P.tat + ((0 : Nat) : Int))).trans ((b 0 (by decide)).trans c0), (congrArg (lkV T len) (by omega : P.tat + 1 = P.tat + ((1 : Nat) : Int))).trans ((b 1 (by decide)).trans c1), (congrArg (lkV T len) (by omega : P.tat + 2 = P.tat + ((2 : Nat) : Int))).trans ((b 2 (by decide)).trans c2), (congrArg (lkV T len) (by omega : P.tat + 3 = P.tat + ((3 : Nat) : Int))).trans ((b 3 (by decide)).trans c3)⟩, (congrArg (lkV T len) (by omega : P.tat + 4 = P.tat + ((4 : Nat) : Int))).trans ((b 4 (by decide)).trans c4), Or.inl rfl, Or.inl rfl⟩
  · rintro ⟨⟨a, x0, x1, x2, x3⟩, x4, _⟩
    refine ⟨ht, a, fun i hi => ?_⟩
    rcases (by omega : i = 0 ∨ i = 1 ∨ i = 2 ∨ i = 3 ∨ i = 4) with rfl | rfl | rfl | rfl | rfl
    · exact (congrArg (lkV T len) (by omega : P.tat + ((0 : Nat) : Int) = P.tat)).trans (x0.trans c0.symm)
    · exact (congrArg (lkV T len) (by omega : P.tat + ((1 : Nat) : Int) = P.tat + 1)).trans (x1.trans c1.symm)
    · exact (congrArg (lkV T len) (by omega : P.tat + ((2 : Nat) : Int) = P.tat + 2)).trans (x2.trans c2.symm)
    · exact (congrArg (lkV T len) (by omega : P.tat + ((3 : Nat) : Int) = P.tat + 3)).trans (x3.trans c3.symm)
    · exact (congrArg (lkV T len) (by omega : P.tat + ((4 : Nat) : Int) = P.tat + 4)).trans (x4.trans c4.symm)
theorem nm2 {T : Nat → Int} {len : Int} {P : PS} (hB : PB T len P) (ht : P.tok = 1) : IsNm T P 2 ↔ Is4 T len (P.ten - P.tat) P.tat 5 114 101 97 99 ∧ En3 T len P.tat 104 0 0 := by
  have c0 : chI 2 0 = 114 := by decide +kernel
  have c1 : chI 2 1 = 101 := by decide +kernel
  have c2 : chI 2 2 = 97 := by decide +kernel
  have c3 : chI 2 3 = 99 := by decide +kernel
  have c4 : chI 2 4 = 104 := by decide +kernel
  rw [nm_i hB (n := 5) (by decide +kernel)]
  constructor
  · rintro ⟨_, a, b⟩
    exact ⟨⟨a, (congrArg (lkV T len) (by omega : P.tat = P.tat + ((0 : Nat) : Int))).trans ((b 0 (by decide)).trans c0), (congrArg (lkV T len) (by omega : P.tat + 1 = P.tat + ((1 : Nat) : Int))).trans ((b 1 (by decide)).trans c1), (congrArg (lkV T len) (by omega : P.tat + 2 = P.tat + ((2 : Nat) : Int))).trans ((b 2 (by decide)).trans c2), (congrArg (lkV T len) (by omega : P.tat + 3 = P.tat + ((3 : Nat) : Int))).trans ((b 3 (by decide)).trans c3)⟩, (congrArg (lkV T len) (by omega : P.tat + 4 = P.tat + ((4 : Nat) : Int))).trans ((b 4 (by decide)).trans c4), Or.inl rfl, Or.inl rfl⟩
  · rintro ⟨⟨a, x0, x1, x2, x3⟩, x4, _⟩
    refine ⟨ht, a, fun i hi => ?_⟩
    rcases (by omega : i = 0 ∨ i = 1 ∨ i = 2 ∨ i = 3 ∨ i = 4) with rfl | rfl | rfl | rfl | rfl
    · exact (congrArg (lkV T len) (by omega : P.tat + ((0 : Nat) : Int) = P.tat)).trans (x0.trans c0.symm)
    · exact (congrArg (lkV T len) (by omega : P.tat + ((1 : Nat) : Int) = P.tat + 1)).trans (x1.trans c1.symm)
    · exact (congrArg (lkV T len) (by omega : P.tat + ((2 : Nat) : Int) = P.tat + 2)).trans (x2.trans c2.symm)
    · exact (congrArg (lkV T len) (by omega : P.tat + ((3 : Nat) : Int) = P.tat + 3)).trans (x3.trans c3.symm)
    · exact (congrArg (lkV T len) (by omega : P.tat + ((4 : Nat) : Int) = P.tat + 4)).trans (x4.trans c4.symm)
theorem nm3 {T : Nat → Int} {len : Int} {P : PS} (hB : PB T len P) (ht : P.tok = 1) : IsNm T P 3 ↔ Is4 T len (P.ten - P.tat) P.tat 4 118 111 116 101 := by
  have c0 : chI 3 0 = 118 := by decide +kernel
  have c1 : chI 3 1 = 111 := by decide +kernel
  have c2 : chI 3 2 = 116 := by decide +kernel
  have c3 : chI 3 3 = 101 := by decide +kernel
  rw [nm_i hB (n := 4) (by decide +kernel)]
  constructor
  · rintro ⟨_, a, b⟩
    exact ⟨a, (congrArg (lkV T len) (by omega : P.tat = P.tat + ((0 : Nat) : Int))).trans ((b 0 (by decide)).trans c0), (congrArg (lkV T len) (by omega : P.tat + 1 = P.tat + ((1 : Nat) : Int))).trans ((b 1 (by decide)).trans c1), (congrArg (lkV T len) (by omega : P.tat + 2 = P.tat + ((2 : Nat) : Int))).trans ((b 2 (by decide)).trans c2), (congrArg (lkV T len) (by omega : P.tat + 3 = P.tat + ((3 : Nat) : Int))).trans ((b 3 (by decide)).trans c3)⟩
  · rintro ⟨a, x0, x1, x2, x3⟩
    refine ⟨ht, a, fun i hi => ?_⟩
    rcases (by omega : i = 0 ∨ i = 1 ∨ i = 2 ∨ i = 3) with rfl | rfl | rfl | rfl
    · exact (congrArg (lkV T len) (by omega : P.tat + ((0 : Nat) : Int) = P.tat)).trans (x0.trans c0.symm)
    · exact (congrArg (lkV T len) (by omega : P.tat + ((1 : Nat) : Int) = P.tat + 1)).trans (x1.trans c1.symm)
    · exact (congrArg (lkV T len) (by omega : P.tat + ((2 : Nat) : Int) = P.tat + 2)).trans (x2.trans c2.symm)
    · exact (congrArg (lkV T len) (by omega : P.tat + ((3 : Nat) : Int) = P.tat + 3)).trans (x3.trans c3.symm)
theorem nm4 {T : Nat → Int} {len : Int} {P : PS} (hB : PB T len P) (ht : P.tok = 1) : IsNm T P 4 ↔ Is4 T len (P.ten - P.tat) P.tat 4 98 111 116 104 := by
  have c0 : chI 4 0 = 98 := by decide +kernel
  have c1 : chI 4 1 = 111 := by decide +kernel
  have c2 : chI 4 2 = 116 := by decide +kernel
  have c3 : chI 4 3 = 104 := by decide +kernel
  rw [nm_i hB (n := 4) (by decide +kernel)]
  constructor
  · rintro ⟨_, a, b⟩
    exact ⟨a, (congrArg (lkV T len) (by omega : P.tat = P.tat + ((0 : Nat) : Int))).trans ((b 0 (by decide)).trans c0), (congrArg (lkV T len) (by omega : P.tat + 1 = P.tat + ((1 : Nat) : Int))).trans ((b 1 (by decide)).trans c1), (congrArg (lkV T len) (by omega : P.tat + 2 = P.tat + ((2 : Nat) : Int))).trans ((b 2 (by decide)).trans c2), (congrArg (lkV T len) (by omega : P.tat + 3 = P.tat + ((3 : Nat) : Int))).trans ((b 3 (by decide)).trans c3)⟩
  · rintro ⟨a, x0, x1, x2, x3⟩
    refine ⟨ht, a, fun i hi => ?_⟩
    rcases (by omega : i = 0 ∨ i = 1 ∨ i = 2 ∨ i = 3) with rfl | rfl | rfl | rfl
    · exact (congrArg (lkV T len) (by omega : P.tat + ((0 : Nat) : Int) = P.tat)).trans (x0.trans c0.symm)
    · exact (congrArg (lkV T len) (by omega : P.tat + ((1 : Nat) : Int) = P.tat + 1)).trans (x1.trans c1.symm)
    · exact (congrArg (lkV T len) (by omega : P.tat + ((2 : Nat) : Int) = P.tat + 2)).trans (x2.trans c2.symm)
    · exact (congrArg (lkV T len) (by omega : P.tat + ((3 : Nat) : Int) = P.tat + 3)).trans (x3.trans c3.symm)
theorem nm5 {T : Nat → Int} {len : Int} {P : PS} (hB : PB T len P) (ht : P.tok = 1) : IsNm T P 5 ↔ Is4 T len (P.ten - P.tat) P.tat 4 119 111 114 110 := by
  have c0 : chI 5 0 = 119 := by decide +kernel
  have c1 : chI 5 1 = 111 := by decide +kernel
  have c2 : chI 5 2 = 114 := by decide +kernel
  have c3 : chI 5 3 = 110 := by decide +kernel
  rw [nm_i hB (n := 4) (by decide +kernel)]
  constructor
  · rintro ⟨_, a, b⟩
    exact ⟨a, (congrArg (lkV T len) (by omega : P.tat = P.tat + ((0 : Nat) : Int))).trans ((b 0 (by decide)).trans c0), (congrArg (lkV T len) (by omega : P.tat + 1 = P.tat + ((1 : Nat) : Int))).trans ((b 1 (by decide)).trans c1), (congrArg (lkV T len) (by omega : P.tat + 2 = P.tat + ((2 : Nat) : Int))).trans ((b 2 (by decide)).trans c2), (congrArg (lkV T len) (by omega : P.tat + 3 = P.tat + ((3 : Nat) : Int))).trans ((b 3 (by decide)).trans c3)⟩
  · rintro ⟨a, x0, x1, x2, x3⟩
    refine ⟨ht, a, fun i hi => ?_⟩
    rcases (by omega : i = 0 ∨ i = 1 ∨ i = 2 ∨ i = 3) with rfl | rfl | rfl | rfl
    · exact (congrArg (lkV T len) (by omega : P.tat + ((0 : Nat) : Int) = P.tat)).trans (x0.trans c0.symm)
    · exact (congrArg (lkV T len) (by omega : P.tat + ((1 : Nat) : Int) = P.tat + 1)).trans (x1.trans c1.symm)
    · exact (congrArg (lkV T len) (by omega : P.tat + ((2 : Nat) : Int) = P.tat + 2)).trans (x2.trans c2.symm)
    · exact (congrArg (lkV T len) (by omega : P.tat + ((3 : Nat) : Int) = P.tat + 3)).trans (x3.trans c3.symm)
theorem nm6 {T : Nat → Int} {len : Int} {P : PS} (hB : PB T len P) (ht : P.tok = 1) : IsNm T P 6 ↔ Is4 T len (P.ten - P.tat) P.tat 4 116 119 105 110 := by
  have c0 : chI 6 0 = 116 := by decide +kernel
  have c1 : chI 6 1 = 119 := by decide +kernel
  have c2 : chI 6 2 = 105 := by decide +kernel
  have c3 : chI 6 3 = 110 := by decide +kernel
  rw [nm_i hB (n := 4) (by decide +kernel)]
  constructor
  · rintro ⟨_, a, b⟩
    exact ⟨a, (congrArg (lkV T len) (by omega : P.tat = P.tat + ((0 : Nat) : Int))).trans ((b 0 (by decide)).trans c0), (congrArg (lkV T len) (by omega : P.tat + 1 = P.tat + ((1 : Nat) : Int))).trans ((b 1 (by decide)).trans c1), (congrArg (lkV T len) (by omega : P.tat + 2 = P.tat + ((2 : Nat) : Int))).trans ((b 2 (by decide)).trans c2), (congrArg (lkV T len) (by omega : P.tat + 3 = P.tat + ((3 : Nat) : Int))).trans ((b 3 (by decide)).trans c3)⟩
  · rintro ⟨a, x0, x1, x2, x3⟩
    refine ⟨ht, a, fun i hi => ?_⟩
    rcases (by omega : i = 0 ∨ i = 1 ∨ i = 2 ∨ i = 3) with rfl | rfl | rfl | rfl
    · exact (congrArg (lkV T len) (by omega : P.tat + ((0 : Nat) : Int) = P.tat)).trans (x0.trans c0.symm)
    · exact (congrArg (lkV T len) (by omega : P.tat + ((1 : Nat) : Int) = P.tat + 1)).trans (x1.trans c1.symm)
    · exact (congrArg (lkV T len) (by omega : P.tat + ((2 : Nat) : Int) = P.tat + 2)).trans (x2.trans c2.symm)
    · exact (congrArg (lkV T len) (by omega : P.tat + ((3 : Nat) : Int) = P.tat + 3)).trans (x3.trans c3.symm)
theorem nm7 {T : Nat → Int} {len : Int} {P : PS} (hB : PB T len P) (ht : P.tok = 1) : IsNm T P 7 ↔ Is4 T len (P.ten - P.tat) P.tat 5 112 108 97 105 ∧ En3 T len P.tat 110 0 0 := by
  have c0 : chI 7 0 = 112 := by decide +kernel
  have c1 : chI 7 1 = 108 := by decide +kernel
  have c2 : chI 7 2 = 97 := by decide +kernel
  have c3 : chI 7 3 = 105 := by decide +kernel
  have c4 : chI 7 4 = 110 := by decide +kernel
  rw [nm_i hB (n := 5) (by decide +kernel)]
  constructor
  · rintro ⟨_, a, b⟩
    exact ⟨⟨a, (congrArg (lkV T len) (by omega : P.tat = P.tat + ((0 : Nat) : Int))).trans ((b 0 (by decide)).trans c0), (congrArg (lkV T len) (by omega : P.tat + 1 = P.tat + ((1 : Nat) : Int))).trans ((b 1 (by decide)).trans c1), (congrArg (lkV T len) (by omega : P.tat + 2 = P.tat + ((2 : Nat) : Int))).trans ((b 2 (by decide)).trans c2), (congrArg (lkV T len) (by omega : P.tat + 3 = P.tat + ((3 : Nat) : Int))).trans ((b 3 (by decide)).trans c3)⟩, (congrArg (lkV T len) (by omega : P.tat + 4 = P.tat + ((4 : Nat) : Int))).trans ((b 4 (by decide)).trans c4), Or.inl rfl, Or.inl rfl⟩
  · rintro ⟨⟨a, x0, x1, x2, x3⟩, x4, _⟩
    refine ⟨ht, a, fun i hi => ?_⟩
    rcases (by omega : i = 0 ∨ i = 1 ∨ i = 2 ∨ i = 3 ∨ i = 4) with rfl | rfl | rfl | rfl | rfl
    · exact (congrArg (lkV T len) (by omega : P.tat + ((0 : Nat) : Int) = P.tat)).trans (x0.trans c0.symm)
    · exact (congrArg (lkV T len) (by omega : P.tat + ((1 : Nat) : Int) = P.tat + 1)).trans (x1.trans c1.symm)
    · exact (congrArg (lkV T len) (by omega : P.tat + ((2 : Nat) : Int) = P.tat + 2)).trans (x2.trans c2.symm)
    · exact (congrArg (lkV T len) (by omega : P.tat + ((3 : Nat) : Int) = P.tat + 3)).trans (x3.trans c3.symm)
    · exact (congrArg (lkV T len) (by omega : P.tat + ((4 : Nat) : Int) = P.tat + 4)).trans (x4.trans c4.symm)
set_option maxRecDepth 100000 in
set_option maxHeartbeats 1000000 in
theorem e_X9_is {G : GX} {y : LY} {h : HM} {d : Nat} (hY : Lay y) {T : Nat → Int} {len : Int} (hT : TT h T len) (hq : 0 ≤ h.I 150 11 ∧ h.I 150 11 ≤ h.I 150 10 ∧ h.I 150 10 ≤ len) {n a b c e : Int} (hn : R32 n) (ha : R32 a) (hb : R32 b) (hc : R32 c) (he : R32 e) : EvI G mX9_is (d + 1) [.ref 150, .int (iZ n), .int (iZ a), .int (iZ b), .int (iZ c), .int (iZ e)] y h (pI (Is4 T len (h.I 150 10 - h.I 150 11) (h.I 150 11) n a b c e)) := by
  have hb4 := hT.2.1
  have l0 := lk_c hT (i := h.I 150 11) (by omega)
  have l1 := lk_c hT (i := h.I 150 11 + 1) (by omega)
  have l2 := lk_c hT (i := h.I 150 11 + 2) (by omega)
  have l3 := lk_c hT (i := h.I 150 11 + 3) (by omega)
  refine Ev.of rfl [some (.ref 150), some (.int (iZ n)), some (.int (iZ a)), some (.int (iZ b)), some (.int (iZ c)), some (.int (iZ e))] rfl (Nat.le_of_ble_eq_true rfl) ?_
  refine g_aload_n dX9_is_0 rfl rfl (gf_X9_84 (M := mX9_is) rfl dX9_is_1 (yo150 hY) (g_aload_n dX9_is_4 rfl rfl (gf_X9_78 (M := mX9_is) rfl dX9_is_5 (yo150 hY) (g_isub dX9_is_8 (g_iload_n dX9_is_9 rfl rfl ?_)))))
  refine g_icmp_ne 73 dX9_is_10 rfl (by omega) (by omega) (fun c10 => ?_) (fun c10 => ?_)
  · skip
    refine g_iconst dX9_is_73 ?_
    exact g_zret dX9_is_74 rfl rfl ⟨Nat.le_refl _, Nat.le_refl _⟩ (by omega) (by first | exact ⟨someI (pI_t ⟨by omega, by omega, by omega, by omega, by omega⟩).symm, rfl⟩ | exact ⟨someI (pI_f (fun z => by unfold Is4 at z; omega)).symm, rfl⟩)
  · skip
    refine g_aload_n dX9_is_13 rfl rfl (g_aload_n dX9_is_14 rfl rfl (gf_X9_78 (M := mX9_is) rfl dX9_is_15 (yo150 hY) (cv_X9_87 (M := mX9_is) rfl dX9_is_18 (yo150 hY) (RO.same _ _ _) (Nat.le_of_ble_eq_true rfl) (e_X9_look hY hT (by omega)) <| kI (g_iload_n dX9_is_21 rfl rfl ?_))))
    refine g_icmp_ne 73 dX9_is_22 rfl (by omega) (by omega) (fun c22 => ?_) (fun c22 => ?_)
    · skip
      refine g_iconst dX9_is_73 ?_
      exact g_zret dX9_is_74 rfl rfl ⟨Nat.le_refl _, Nat.le_refl _⟩ (by omega) (by first | exact ⟨someI (pI_t ⟨by omega, by omega, by omega, by omega, by omega⟩).symm, rfl⟩ | exact ⟨someI (pI_f (fun z => by unfold Is4 at z; omega)).symm, rfl⟩)
    · skip
      refine g_aload_n dX9_is_25 rfl rfl (g_aload_n dX9_is_26 rfl rfl (gf_X9_78 (M := mX9_is) rfl dX9_is_27 (yo150 hY) (g_iconst dX9_is_30 (g_iadd dX9_is_31 (cv_X9_87 (M := mX9_is) rfl dX9_is_32 (yo150 hY) (RO.same _ _ _) (Nat.le_of_ble_eq_true rfl) (e_X9_look hY hT (by omega)) <| kI (g_iload_n dX9_is_35 rfl rfl ?_))))))
      refine g_icmp_ne 73 dX9_is_36 rfl (by omega) (by omega) (fun c36 => ?_) (fun c36 => ?_)
      · skip
        refine g_iconst dX9_is_73 ?_
        exact g_zret dX9_is_74 rfl rfl ⟨Nat.le_refl _, Nat.le_refl _⟩ (by omega) (by first | exact ⟨someI (pI_t ⟨by omega, by omega, by omega, by omega, by omega⟩).symm, rfl⟩ | exact ⟨someI (pI_f (fun z => by unfold Is4 at z; omega)).symm, rfl⟩)
      · skip
        refine g_aload_n dX9_is_39 rfl rfl (g_aload_n dX9_is_40 rfl rfl (gf_X9_78 (M := mX9_is) rfl dX9_is_41 (yo150 hY) (g_iconst dX9_is_44 (g_iadd dX9_is_45 (cv_X9_87 (M := mX9_is) rfl dX9_is_46 (yo150 hY) (RO.same _ _ _) (Nat.le_of_ble_eq_true rfl) (e_X9_look hY hT (by omega)) <| kI (g_iload dX9_is_49 rfl ?_))))))
        refine g_icmp_ne 73 dX9_is_51 rfl (by omega) (by omega) (fun c51 => ?_) (fun c51 => ?_)
        · skip
          refine g_iconst dX9_is_73 ?_
          exact g_zret dX9_is_74 rfl rfl ⟨Nat.le_refl _, Nat.le_refl _⟩ (by omega) (by first | exact ⟨someI (pI_t ⟨by omega, by omega, by omega, by omega, by omega⟩).symm, rfl⟩ | exact ⟨someI (pI_f (fun z => by unfold Is4 at z; omega)).symm, rfl⟩)
        · skip
          refine g_aload_n dX9_is_54 rfl rfl (g_aload_n dX9_is_55 rfl rfl (gf_X9_78 (M := mX9_is) rfl dX9_is_56 (yo150 hY) (g_iconst dX9_is_59 (g_iadd dX9_is_60 (cv_X9_87 (M := mX9_is) rfl dX9_is_61 (yo150 hY) (RO.same _ _ _) (Nat.le_of_ble_eq_true rfl) (e_X9_look hY hT (by omega)) <| kI (g_iload dX9_is_64 rfl ?_))))))
          refine g_icmp_ne 73 dX9_is_66 rfl (by omega) (by omega) (fun c66 => ?_) (fun c66 => ?_)
          · skip
            refine g_iconst dX9_is_73 ?_
            exact g_zret dX9_is_74 rfl rfl ⟨Nat.le_refl _, Nat.le_refl _⟩ (by omega) (by first | exact ⟨someI (pI_t ⟨by omega, by omega, by omega, by omega, by omega⟩).symm, rfl⟩ | exact ⟨someI (pI_f (fun z => by unfold Is4 at z; omega)).symm, rfl⟩)
          · skip
            refine g_iconst dX9_is_69 (g_goto 74 dX9_is_70 rfl ?_)
            exact g_zret dX9_is_74 rfl rfl ⟨Nat.le_refl _, Nat.le_refl _⟩ (by omega) (by first | exact ⟨someI (pI_t ⟨by omega, by omega, by omega, by omega, by omega⟩).symm, rfl⟩ | exact ⟨someI (pI_f (fun z => by unfold Is4 at z; omega)).symm, rfl⟩)
set_option maxRecDepth 100000 in
set_option maxHeartbeats 1000000 in
theorem e_X9_ends {G : GX} {y : LY} {h : HM} {d : Nat} (hY : Lay y) {T : Nat → Int} {len : Int} (hT : TT h T len) (hq : 0 ≤ h.I 150 11 ∧ h.I 150 11 ≤ h.I 150 10 ∧ h.I 150 10 ≤ len) {a b c : Int} (ha : R32 a) (hb : R32 b) (hc : R32 c) : EvI G mX9_ends (d + 1) [.ref 150, .int (iZ a), .int (iZ b), .int (iZ c)] y h (pI (En3 T len (h.I 150 11) a b c)) := by
  have hb4 := hT.2.1
  have l4 := lk_c hT (i := h.I 150 11 + 4) (by omega)
  have l5 := lk_c hT (i := h.I 150 11 + 5) (by omega)
  have l6 := lk_c hT (i := h.I 150 11 + 6) (by omega)
  refine Ev.of rfl [some (.ref 150), some (.int (iZ a)), some (.int (iZ b)), some (.int (iZ c))] rfl (Nat.le_of_ble_eq_true rfl) ?_
  refine g_aload_n dX9_ends_0 rfl rfl (g_aload_n dX9_ends_1 rfl rfl (gf_X9_78 (M := mX9_ends) rfl dX9_ends_2 (yo150 hY) (g_iconst dX9_ends_5 (g_iadd dX9_ends_6 (cv_X9_87 (M := mX9_ends) rfl dX9_ends_7 (yo150 hY) (RO.same _ _ _) (Nat.le_of_ble_eq_true rfl) (e_X9_look hY hT (by omega)) <| kI (g_iload_n dX9_ends_10 rfl rfl ?_))))))
  refine g_icmp_ne 55 dX9_ends_11 rfl (by omega) (by omega) (fun c11 => ?_) (fun c11 => ?_)
  · skip
    refine g_iconst dX9_ends_55 ?_
    exact g_zret dX9_ends_56 rfl rfl ⟨Nat.le_refl _, Nat.le_refl _⟩ (by omega) (by first | exact ⟨someI (pI_t ⟨by omega, by omega, by omega⟩).symm, rfl⟩ | exact ⟨someI (pI_f (fun z => by unfold En3 at z; omega)).symm, rfl⟩)
  · skip
    refine g_iload_n dX9_ends_14 rfl rfl ?_
    refine g_if_eq 32 dX9_ends_15 rfl (by omega) (fun c15 => ?_) (fun c15 => ?_)
    · skip
      refine g_iload_n dX9_ends_32 rfl rfl ?_
      refine g_if_eq 51 dX9_ends_33 rfl (by omega) (fun c33 => ?_) (fun c33 => ?_)
      · skip
        refine g_iconst dX9_ends_51 (g_goto 56 dX9_ends_52 rfl ?_)
        exact g_zret dX9_ends_56 rfl rfl ⟨Nat.le_refl _, Nat.le_refl _⟩ (by omega) (by first | exact ⟨someI (pI_t ⟨by omega, by omega, by omega⟩).symm, rfl⟩ | exact ⟨someI (pI_f (fun z => by unfold En3 at z; omega)).symm, rfl⟩)
      · skip
        refine g_aload_n dX9_ends_36 rfl rfl (g_aload_n dX9_ends_37 rfl rfl (gf_X9_78 (M := mX9_ends) rfl dX9_ends_38 (yo150 hY) (g_bipush dX9_ends_41 kb6 (g_iadd dX9_ends_43 (cv_X9_87 (M := mX9_ends) rfl dX9_ends_44 (yo150 hY) (RO.same _ _ _) (Nat.le_of_ble_eq_true rfl) (e_X9_look hY hT (by omega)) <| kI (g_iload_n dX9_ends_47 rfl rfl ?_))))))
        refine g_icmp_ne 55 dX9_ends_48 rfl (by omega) (by omega) (fun c48 => ?_) (fun c48 => ?_)
        · skip
          refine g_iconst dX9_ends_55 ?_
          exact g_zret dX9_ends_56 rfl rfl ⟨Nat.le_refl _, Nat.le_refl _⟩ (by omega) (by first | exact ⟨someI (pI_t ⟨by omega, by omega, by omega⟩).symm, rfl⟩ | exact ⟨someI (pI_f (fun z => by unfold En3 at z; omega)).symm, rfl⟩)
        · skip
          refine g_iconst dX9_ends_51 (g_goto 56 dX9_ends_52 rfl ?_)
          exact g_zret dX9_ends_56 rfl rfl ⟨Nat.le_refl _, Nat.le_refl _⟩ (by omega) (by first | exact ⟨someI (pI_t ⟨by omega, by omega, by omega⟩).symm, rfl⟩ | exact ⟨someI (pI_f (fun z => by unfold En3 at z; omega)).symm, rfl⟩)
    · skip
      refine g_aload_n dX9_ends_18 rfl rfl (g_aload_n dX9_ends_19 rfl rfl (gf_X9_78 (M := mX9_ends) rfl dX9_ends_20 (yo150 hY) (g_iconst dX9_ends_23 (g_iadd dX9_ends_24 (cv_X9_87 (M := mX9_ends) rfl dX9_ends_25 (yo150 hY) (RO.same _ _ _) (Nat.le_of_ble_eq_true rfl) (e_X9_look hY hT (by omega)) <| kI (g_iload_n dX9_ends_28 rfl rfl ?_))))))
      refine g_icmp_ne 55 dX9_ends_29 rfl (by omega) (by omega) (fun c29 => ?_) (fun c29 => ?_)
      · skip
        refine g_iconst dX9_ends_55 ?_
        exact g_zret dX9_ends_56 rfl rfl ⟨Nat.le_refl _, Nat.le_refl _⟩ (by omega) (by first | exact ⟨someI (pI_t ⟨by omega, by omega, by omega⟩).symm, rfl⟩ | exact ⟨someI (pI_f (fun z => by unfold En3 at z; omega)).symm, rfl⟩)
      · skip
        refine g_iload_n dX9_ends_32 rfl rfl ?_
        refine g_if_eq 51 dX9_ends_33 rfl (by omega) (fun c33 => ?_) (fun c33 => ?_)
        · skip
          refine g_iconst dX9_ends_51 (g_goto 56 dX9_ends_52 rfl ?_)
          exact g_zret dX9_ends_56 rfl rfl ⟨Nat.le_refl _, Nat.le_refl _⟩ (by omega) (by first | exact ⟨someI (pI_t ⟨by omega, by omega, by omega⟩).symm, rfl⟩ | exact ⟨someI (pI_f (fun z => by unfold En3 at z; omega)).symm, rfl⟩)
        · skip
          refine g_aload_n dX9_ends_36 rfl rfl (g_aload_n dX9_ends_37 rfl rfl (gf_X9_78 (M := mX9_ends) rfl dX9_ends_38 (yo150 hY) (g_bipush dX9_ends_41 kb6 (g_iadd dX9_ends_43 (cv_X9_87 (M := mX9_ends) rfl dX9_ends_44 (yo150 hY) (RO.same _ _ _) (Nat.le_of_ble_eq_true rfl) (e_X9_look hY hT (by omega)) <| kI (g_iload_n dX9_ends_47 rfl rfl ?_))))))
          refine g_icmp_ne 55 dX9_ends_48 rfl (by omega) (by omega) (fun c48 => ?_) (fun c48 => ?_)
          · skip
            refine g_iconst dX9_ends_55 ?_
            exact g_zret dX9_ends_56 rfl rfl ⟨Nat.le_refl _, Nat.le_refl _⟩ (by omega) (by first | exact ⟨someI (pI_t ⟨by omega, by omega, by omega⟩).symm, rfl⟩ | exact ⟨someI (pI_f (fun z => by unfold En3 at z; omega)).symm, rfl⟩)
          · skip
            refine g_iconst dX9_ends_51 (g_goto 56 dX9_ends_52 rfl ?_)
            exact g_zret dX9_ends_56 rfl rfl ⟨Nat.le_refl _, Nat.le_refl _⟩ (by omega) (by first | exact ⟨someI (pI_t ⟨by omega, by omega, by omega⟩).symm, rfl⟩ | exact ⟨someI (pI_f (fun z => by unfold En3 at z; omega)).symm, rfl⟩)
set_option maxRecDepth 100000 in
set_option maxHeartbeats 1000000 in
theorem e_X9_lineNow {G : GX} {y : LY} {h : HM} {d : Nat} (hY : Lay y) {T : Nat → Int} {len : Int} {P : PS} (hS : TQ h T len P) (ht : P.tok = 1) : EvQI G mX9_lineNow (d + 2) [.ref 150] y h (fun v => (v = 0 ∧ IsNm T P 0) ∨ (v = 1 ∧ ¬ IsNm T P 0 ∧ IsNm T P 1) ∨ (v = 2 ∧ ¬ IsNm T P 0 ∧ ¬ IsNm T P 1 ∧ IsNm T P 2) ∨ (v = 3 ∧ ¬ IsNm T P 0 ∧ ¬ IsNm T P 1 ∧ ¬ IsNm T P 2 ∧ IsNm T P 3) ∨ (v = -4 ∧ ¬ IsNm T P 0 ∧ ¬ IsNm T P 1 ∧ ¬ IsNm T P 2 ∧ ¬ IsNm T P 3)) := by
  have hf := hS.f
  have hbd := hS.b
  have hPB := hS.2.2.1
  have m0 := nm0 hPB ht
  have m1 := nm1 hPB ht
  have m2 := nm2 hPB ht
  have m3 := nm3 hPB ht
  rw [← hf.2.1, ← hf.2.2.1] at m0 m1 m2 m3
  refine Ev.of rfl [some (.ref 150)] rfl (Nat.le_of_ble_eq_true rfl) ?_
  refine g_aload_n dX9_lineNow_0 rfl rfl (g_bipush dX9_lineNow_1 kb6 (g_bipush dX9_lineNow_3 kb102 (g_bipush dX9_lineNow_5 kb105 (g_bipush dX9_lineNow_7 kb103 (g_bipush dX9_lineNow_9 kb117 (cv_X9_91 (M := mX9_lineNow) rfl dX9_lineNow_11 (yo150 hY) (RO.same _ _ _) (Nat.le_of_ble_eq_true rfl) (e_X9_is hY hS.1 (by omega) (by omega) (by omega) (by omega) (by omega) (by omega)) <| kI ?_))))))
  refine g_if_eq 31 dX9_lineNow_14 rfl (pI_r _) (fun c14 => ?_) (fun c14 => ?_)
  · have k14 := pI_eq0.mp c14
    refine g_aload_n dX9_lineNow_31 rfl rfl (g_iconst dX9_lineNow_32 (g_bipush dX9_lineNow_33 kb115 (g_bipush dX9_lineNow_35 kb116 (g_bipush dX9_lineNow_37 kb105 (g_bipush dX9_lineNow_39 kb99 (cv_X9_91 (M := mX9_lineNow) rfl dX9_lineNow_41 (yo150 hY) (RO.same _ _ _) (Nat.le_of_ble_eq_true rfl) (e_X9_is hY hS.1 (by omega) (by omega) (by omega) (by omega) (by omega) (by omega)) <| kI ?_))))))
    refine g_if_eq 60 dX9_lineNow_44 rfl (pI_r _) (fun c44 => ?_) (fun c44 => ?_)
    · have k44 := pI_eq0.mp c44
      refine g_aload_n dX9_lineNow_60 rfl rfl (g_iconst dX9_lineNow_61 (g_bipush dX9_lineNow_62 kb114 (g_bipush dX9_lineNow_64 kb101 (g_bipush dX9_lineNow_66 kb97 (g_bipush dX9_lineNow_68 kb99 (cv_X9_91 (M := mX9_lineNow) rfl dX9_lineNow_70 (yo150 hY) (RO.same _ _ _) (Nat.le_of_ble_eq_true rfl) (e_X9_is hY hS.1 (by omega) (by omega) (by omega) (by omega) (by omega) (by omega)) <| kI ?_))))))
      refine g_if_eq 89 dX9_lineNow_73 rfl (pI_r _) (fun c73 => ?_) (fun c73 => ?_)
      · have k73 := pI_eq0.mp c73
        refine g_aload_n dX9_lineNow_89 rfl rfl (g_iconst dX9_lineNow_90 (g_bipush dX9_lineNow_91 kb118 (g_bipush dX9_lineNow_93 kb111 (g_bipush dX9_lineNow_95 kb116 (g_bipush dX9_lineNow_97 kb101 (cv_X9_91 (M := mX9_lineNow) rfl dX9_lineNow_99 (yo150 hY) (RO.same _ _ _) (Nat.le_of_ble_eq_true rfl) (e_X9_is hY hS.1 (by omega) (by omega) (by omega) (by omega) (by omega) (by omega)) <| kI ?_))))))
        refine g_if_eq 109 dX9_lineNow_102 rfl (pI_r _) (fun c102 => ?_) (fun c102 => ?_)
        · have k102 := pI_eq0.mp c102
          refine g_bipush dX9_lineNow_109 kbm4 ?_
          exact g_iret dX9_lineNow_111 rfl rfl ⟨Nat.le_refl _, Nat.le_refl _⟩ (by first | exact ⟨_, rfl, rfl, Or.inl ⟨rfl, m0.mpr ⟨k14, k26⟩⟩⟩ | exact ⟨_, rfl, rfl, Or.inr (Or.inl ⟨rfl, (fun z => by have z1 := m0.mp z; first | exact k14 z1.1 | exact k26 z1.2), m1.mpr ⟨k44, k55⟩⟩)⟩ | exact ⟨_, rfl, rfl, Or.inr (Or.inr (Or.inl ⟨rfl, (fun z => by have z1 := m0.mp z; first | exact k14 z1.1 | exact k26 z1.2), (fun z => by have z1 := m1.mp z; first | exact k44 z1.1 | exact k55 z1.2), m2.mpr ⟨k73, k84⟩⟩))⟩ | exact ⟨_, rfl, rfl, Or.inr (Or.inr (Or.inr (Or.inl ⟨rfl, (fun z => by have z1 := m0.mp z; first | exact k14 z1.1 | exact k26 z1.2), (fun z => by have z1 := m1.mp z; first | exact k44 z1.1 | exact k55 z1.2), (fun z => by have z1 := m2.mp z; first | exact k73 z1.1 | exact k84 z1.2), m3.mpr k102⟩)))⟩ | exact ⟨_, rfl, rfl, Or.inr (Or.inr (Or.inr (Or.inr ⟨rfl, (fun z => by have z1 := m0.mp z; first | exact k14 z1.1 | exact k26 z1.2), (fun z => by have z1 := m1.mp z; first | exact k44 z1.1 | exact k55 z1.2), (fun z => by have z1 := m2.mp z; first | exact k73 z1.1 | exact k84 z1.2), (fun z => k102 (m3.mp z))⟩)))⟩)
        · have k102 := pI_ne c102
          refine g_iconst dX9_lineNow_105 (g_goto 111 dX9_lineNow_106 rfl ?_)
          exact g_iret dX9_lineNow_111 rfl rfl ⟨Nat.le_refl _, Nat.le_refl _⟩ (by first | exact ⟨_, rfl, rfl, Or.inl ⟨rfl, m0.mpr ⟨k14, k26⟩⟩⟩ | exact ⟨_, rfl, rfl, Or.inr (Or.inl ⟨rfl, (fun z => by have z1 := m0.mp z; first | exact k14 z1.1 | exact k26 z1.2), m1.mpr ⟨k44, k55⟩⟩)⟩ | exact ⟨_, rfl, rfl, Or.inr (Or.inr (Or.inl ⟨rfl, (fun z => by have z1 := m0.mp z; first | exact k14 z1.1 | exact k26 z1.2), (fun z => by have z1 := m1.mp z; first | exact k44 z1.1 | exact k55 z1.2), m2.mpr ⟨k73, k84⟩⟩))⟩ | exact ⟨_, rfl, rfl, Or.inr (Or.inr (Or.inr (Or.inl ⟨rfl, (fun z => by have z1 := m0.mp z; first | exact k14 z1.1 | exact k26 z1.2), (fun z => by have z1 := m1.mp z; first | exact k44 z1.1 | exact k55 z1.2), (fun z => by have z1 := m2.mp z; first | exact k73 z1.1 | exact k84 z1.2), m3.mpr k102⟩)))⟩ | exact ⟨_, rfl, rfl, Or.inr (Or.inr (Or.inr (Or.inr ⟨rfl, (fun z => by have z1 := m0.mp z; first | exact k14 z1.1 | exact k26 z1.2), (fun z => by have z1 := m1.mp z; first | exact k44 z1.1 | exact k55 z1.2), (fun z => by have z1 := m2.mp z; first | exact k73 z1.1 | exact k84 z1.2), (fun z => k102 (m3.mp z))⟩)))⟩)
      · have k73 := pI_ne c73
        refine g_aload_n dX9_lineNow_76 rfl rfl (g_bipush dX9_lineNow_77 kb104 (g_iconst dX9_lineNow_79 (g_iconst dX9_lineNow_80 (cv_X9_95 (M := mX9_lineNow) rfl dX9_lineNow_81 (yo150 hY) (RO.same _ _ _) (Nat.le_of_ble_eq_true rfl) (e_X9_ends hY hS.1 (by omega) (by omega) (by omega) (by omega)) <| kI ?_))))
        refine g_if_eq 89 dX9_lineNow_84 rfl (pI_r _) (fun c84 => ?_) (fun c84 => ?_)
        · have k84 := pI_eq0.mp c84
          refine g_aload_n dX9_lineNow_89 rfl rfl (g_iconst dX9_lineNow_90 (g_bipush dX9_lineNow_91 kb118 (g_bipush dX9_lineNow_93 kb111 (g_bipush dX9_lineNow_95 kb116 (g_bipush dX9_lineNow_97 kb101 (cv_X9_91 (M := mX9_lineNow) rfl dX9_lineNow_99 (yo150 hY) (RO.same _ _ _) (Nat.le_of_ble_eq_true rfl) (e_X9_is hY hS.1 (by omega) (by omega) (by omega) (by omega) (by omega) (by omega)) <| kI ?_))))))
          refine g_if_eq 109 dX9_lineNow_102 rfl (pI_r _) (fun c102 => ?_) (fun c102 => ?_)
          · have k102 := pI_eq0.mp c102
            refine g_bipush dX9_lineNow_109 kbm4 ?_
            exact g_iret dX9_lineNow_111 rfl rfl ⟨Nat.le_refl _, Nat.le_refl _⟩ (by first | exact ⟨_, rfl, rfl, Or.inl ⟨rfl, m0.mpr ⟨k14, k26⟩⟩⟩ | exact ⟨_, rfl, rfl, Or.inr (Or.inl ⟨rfl, (fun z => by have z1 := m0.mp z; first | exact k14 z1.1 | exact k26 z1.2), m1.mpr ⟨k44, k55⟩⟩)⟩ | exact ⟨_, rfl, rfl, Or.inr (Or.inr (Or.inl ⟨rfl, (fun z => by have z1 := m0.mp z; first | exact k14 z1.1 | exact k26 z1.2), (fun z => by have z1 := m1.mp z; first | exact k44 z1.1 | exact k55 z1.2), m2.mpr ⟨k73, k84⟩⟩))⟩ | exact ⟨_, rfl, rfl, Or.inr (Or.inr (Or.inr (Or.inl ⟨rfl, (fun z => by have z1 := m0.mp z; first | exact k14 z1.1 | exact k26 z1.2), (fun z => by have z1 := m1.mp z; first | exact k44 z1.1 | exact k55 z1.2), (fun z => by have z1 := m2.mp z; first | exact k73 z1.1 | exact k84 z1.2), m3.mpr k102⟩)))⟩ | exact ⟨_, rfl, rfl, Or.inr (Or.inr (Or.inr (Or.inr ⟨rfl, (fun z => by have z1 := m0.mp z; first | exact k14 z1.1 | exact k26 z1.2), (fun z => by have z1 := m1.mp z; first | exact k44 z1.1 | exact k55 z1.2), (fun z => by have z1 := m2.mp z; first | exact k73 z1.1 | exact k84 z1.2), (fun z => k102 (m3.mp z))⟩)))⟩)
          · have k102 := pI_ne c102
            refine g_iconst dX9_lineNow_105 (g_goto 111 dX9_lineNow_106 rfl ?_)
            exact g_iret dX9_lineNow_111 rfl rfl ⟨Nat.le_refl _, Nat.le_refl _⟩ (by first | exact ⟨_, rfl, rfl, Or.inl ⟨rfl, m0.mpr ⟨k14, k26⟩⟩⟩ | exact ⟨_, rfl, rfl, Or.inr (Or.inl ⟨rfl, (fun z => by have z1 := m0.mp z; first | exact k14 z1.1 | exact k26 z1.2), m1.mpr ⟨k44, k55⟩⟩)⟩ | exact ⟨_, rfl, rfl, Or.inr (Or.inr (Or.inl ⟨rfl, (fun z => by have z1 := m0.mp z; first | exact k14 z1.1 | exact k26 z1.2), (fun z => by have z1 := m1.mp z; first | exact k44 z1.1 | exact k55 z1.2), m2.mpr ⟨k73, k84⟩⟩))⟩ | exact ⟨_, rfl, rfl, Or.inr (Or.inr (Or.inr (Or.inl ⟨rfl, (fun z => by have z1 := m0.mp z; first | exact k14 z1.1 | exact k26 z1.2), (fun z => by have z1 := m1.mp z; first | exact k44 z1.1 | exact k55 z1.2), (fun z => by have z1 := m2.mp z; first | exact k73 z1.1 | exact k84 z1.2), m3.mpr k102⟩)))⟩ | exact ⟨_, rfl, rfl, Or.inr (Or.inr (Or.inr (Or.inr ⟨rfl, (fun z => by have z1 := m0.mp z; first | exact k14 z1.1 | exact k26 z1.2), (fun z => by have z1 := m1.mp z; first | exact k44 z1.1 | exact k55 z1.2), (fun z => by have z1 := m2.mp z; first | exact k73 z1.1 | exact k84 z1.2), (fun z => k102 (m3.mp z))⟩)))⟩)
        · have k84 := pI_ne c84
          refine g_iconst dX9_lineNow_87 ?_
          exact g_iret dX9_lineNow_88 rfl rfl ⟨Nat.le_refl _, Nat.le_refl _⟩ (by first | exact ⟨_, rfl, rfl, Or.inl ⟨rfl, m0.mpr ⟨k14, k26⟩⟩⟩ | exact ⟨_, rfl, rfl, Or.inr (Or.inl ⟨rfl, (fun z => by have z1 := m0.mp z; first | exact k14 z1.1 | exact k26 z1.2), m1.mpr ⟨k44, k55⟩⟩)⟩ | exact ⟨_, rfl, rfl, Or.inr (Or.inr (Or.inl ⟨rfl, (fun z => by have z1 := m0.mp z; first | exact k14 z1.1 | exact k26 z1.2), (fun z => by have z1 := m1.mp z; first | exact k44 z1.1 | exact k55 z1.2), m2.mpr ⟨k73, k84⟩⟩))⟩ | exact ⟨_, rfl, rfl, Or.inr (Or.inr (Or.inr (Or.inl ⟨rfl, (fun z => by have z1 := m0.mp z; first | exact k14 z1.1 | exact k26 z1.2), (fun z => by have z1 := m1.mp z; first | exact k44 z1.1 | exact k55 z1.2), (fun z => by have z1 := m2.mp z; first | exact k73 z1.1 | exact k84 z1.2), m3.mpr k102⟩)))⟩ | exact ⟨_, rfl, rfl, Or.inr (Or.inr (Or.inr (Or.inr ⟨rfl, (fun z => by have z1 := m0.mp z; first | exact k14 z1.1 | exact k26 z1.2), (fun z => by have z1 := m1.mp z; first | exact k44 z1.1 | exact k55 z1.2), (fun z => by have z1 := m2.mp z; first | exact k73 z1.1 | exact k84 z1.2), (fun z => k102 (m3.mp z))⟩)))⟩)
    · have k44 := pI_ne c44
      refine g_aload_n dX9_lineNow_47 rfl rfl (g_bipush dX9_lineNow_48 kb107 (g_iconst dX9_lineNow_50 (g_iconst dX9_lineNow_51 (cv_X9_95 (M := mX9_lineNow) rfl dX9_lineNow_52 (yo150 hY) (RO.same _ _ _) (Nat.le_of_ble_eq_true rfl) (e_X9_ends hY hS.1 (by omega) (by omega) (by omega) (by omega)) <| kI ?_))))
      refine g_if_eq 60 dX9_lineNow_55 rfl (pI_r _) (fun c55 => ?_) (fun c55 => ?_)
      · have k55 := pI_eq0.mp c55
        refine g_aload_n dX9_lineNow_60 rfl rfl (g_iconst dX9_lineNow_61 (g_bipush dX9_lineNow_62 kb114 (g_bipush dX9_lineNow_64 kb101 (g_bipush dX9_lineNow_66 kb97 (g_bipush dX9_lineNow_68 kb99 (cv_X9_91 (M := mX9_lineNow) rfl dX9_lineNow_70 (yo150 hY) (RO.same _ _ _) (Nat.le_of_ble_eq_true rfl) (e_X9_is hY hS.1 (by omega) (by omega) (by omega) (by omega) (by omega) (by omega)) <| kI ?_))))))
        refine g_if_eq 89 dX9_lineNow_73 rfl (pI_r _) (fun c73 => ?_) (fun c73 => ?_)
        · have k73 := pI_eq0.mp c73
          refine g_aload_n dX9_lineNow_89 rfl rfl (g_iconst dX9_lineNow_90 (g_bipush dX9_lineNow_91 kb118 (g_bipush dX9_lineNow_93 kb111 (g_bipush dX9_lineNow_95 kb116 (g_bipush dX9_lineNow_97 kb101 (cv_X9_91 (M := mX9_lineNow) rfl dX9_lineNow_99 (yo150 hY) (RO.same _ _ _) (Nat.le_of_ble_eq_true rfl) (e_X9_is hY hS.1 (by omega) (by omega) (by omega) (by omega) (by omega) (by omega)) <| kI ?_))))))
          refine g_if_eq 109 dX9_lineNow_102 rfl (pI_r _) (fun c102 => ?_) (fun c102 => ?_)
          · have k102 := pI_eq0.mp c102
            refine g_bipush dX9_lineNow_109 kbm4 ?_
            exact g_iret dX9_lineNow_111 rfl rfl ⟨Nat.le_refl _, Nat.le_refl _⟩ (by first | exact ⟨_, rfl, rfl, Or.inl ⟨rfl, m0.mpr ⟨k14, k26⟩⟩⟩ | exact ⟨_, rfl, rfl, Or.inr (Or.inl ⟨rfl, (fun z => by have z1 := m0.mp z; first | exact k14 z1.1 | exact k26 z1.2), m1.mpr ⟨k44, k55⟩⟩)⟩ | exact ⟨_, rfl, rfl, Or.inr (Or.inr (Or.inl ⟨rfl, (fun z => by have z1 := m0.mp z; first | exact k14 z1.1 | exact k26 z1.2), (fun z => by have z1 := m1.mp z; first | exact k44 z1.1 | exact k55 z1.2), m2.mpr ⟨k73, k84⟩⟩))⟩ | exact ⟨_, rfl, rfl, Or.inr (Or.inr (Or.inr (Or.inl ⟨rfl, (fun z => by have z1 := m0.mp z; first | exact k14 z1.1 | exact k26 z1.2), (fun z => by have z1 := m1.mp z; first | exact k44 z1.1 | exact k55 z1.2), (fun z => by have z1 := m2.mp z; first | exact k73 z1.1 | exact k84 z1.2), m3.mpr k102⟩)))⟩ | exact ⟨_, rfl, rfl, Or.inr (Or.inr (Or.inr (Or.inr ⟨rfl, (fun z => by have z1 := m0.mp z; first | exact k14 z1.1 | exact k26 z1.2), (fun z => by have z1 := m1.mp z; first | exact k44 z1.1 | exact k55 z1.2), (fun z => by have z1 := m2.mp z; first | exact k73 z1.1 | exact k84 z1.2), (fun z => k102 (m3.mp z))⟩)))⟩)
          · have k102 := pI_ne c102
            refine g_iconst dX9_lineNow_105 (g_goto 111 dX9_lineNow_106 rfl ?_)
            exact g_iret dX9_lineNow_111 rfl rfl ⟨Nat.le_refl _, Nat.le_refl _⟩ (by first | exact ⟨_, rfl, rfl, Or.inl ⟨rfl, m0.mpr ⟨k14, k26⟩⟩⟩ | exact ⟨_, rfl, rfl, Or.inr (Or.inl ⟨rfl, (fun z => by have z1 := m0.mp z; first | exact k14 z1.1 | exact k26 z1.2), m1.mpr ⟨k44, k55⟩⟩)⟩ | exact ⟨_, rfl, rfl, Or.inr (Or.inr (Or.inl ⟨rfl, (fun z => by have z1 := m0.mp z; first | exact k14 z1.1 | exact k26 z1.2), (fun z => by have z1 := m1.mp z; first | exact k44 z1.1 | exact k55 z1.2), m2.mpr ⟨k73, k84⟩⟩))⟩ | exact ⟨_, rfl, rfl, Or.inr (Or.inr (Or.inr (Or.inl ⟨rfl, (fun z => by have z1 := m0.mp z; first | exact k14 z1.1 | exact k26 z1.2), (fun z => by have z1 := m1.mp z; first | exact k44 z1.1 | exact k55 z1.2), (fun z => by have z1 := m2.mp z; first | exact k73 z1.1 | exact k84 z1.2), m3.mpr k102⟩)))⟩ | exact ⟨_, rfl, rfl, Or.inr (Or.inr (Or.inr (Or.inr ⟨rfl, (fun z => by have z1 := m0.mp z; first | exact k14 z1.1 | exact k26 z1.2), (fun z => by have z1 := m1.mp z; first | exact k44 z1.1 | exact k55 z1.2), (fun z => by have z1 := m2.mp z; first | exact k73 z1.1 | exact k84 z1.2), (fun z => k102 (m3.mp z))⟩)))⟩)
        · have k73 := pI_ne c73
          refine g_aload_n dX9_lineNow_76 rfl rfl (g_bipush dX9_lineNow_77 kb104 (g_iconst dX9_lineNow_79 (g_iconst dX9_lineNow_80 (cv_X9_95 (M := mX9_lineNow) rfl dX9_lineNow_81 (yo150 hY) (RO.same _ _ _) (Nat.le_of_ble_eq_true rfl) (e_X9_ends hY hS.1 (by omega) (by omega) (by omega) (by omega)) <| kI ?_))))
          refine g_if_eq 89 dX9_lineNow_84 rfl (pI_r _) (fun c84 => ?_) (fun c84 => ?_)
          · have k84 := pI_eq0.mp c84
            refine g_aload_n dX9_lineNow_89 rfl rfl (g_iconst dX9_lineNow_90 (g_bipush dX9_lineNow_91 kb118 (g_bipush dX9_lineNow_93 kb111 (g_bipush dX9_lineNow_95 kb116 (g_bipush dX9_lineNow_97 kb101 (cv_X9_91 (M := mX9_lineNow) rfl dX9_lineNow_99 (yo150 hY) (RO.same _ _ _) (Nat.le_of_ble_eq_true rfl) (e_X9_is hY hS.1 (by omega) (by omega) (by omega) (by omega) (by omega) (by omega)) <| kI ?_))))))
            refine g_if_eq 109 dX9_lineNow_102 rfl (pI_r _) (fun c102 => ?_) (fun c102 => ?_)
            · have k102 := pI_eq0.mp c102
              refine g_bipush dX9_lineNow_109 kbm4 ?_
              exact g_iret dX9_lineNow_111 rfl rfl ⟨Nat.le_refl _, Nat.le_refl _⟩ (by first | exact ⟨_, rfl, rfl, Or.inl ⟨rfl, m0.mpr ⟨k14, k26⟩⟩⟩ | exact ⟨_, rfl, rfl, Or.inr (Or.inl ⟨rfl, (fun z => by have z1 := m0.mp z; first | exact k14 z1.1 | exact k26 z1.2), m1.mpr ⟨k44, k55⟩⟩)⟩ | exact ⟨_, rfl, rfl, Or.inr (Or.inr (Or.inl ⟨rfl, (fun z => by have z1 := m0.mp z; first | exact k14 z1.1 | exact k26 z1.2), (fun z => by have z1 := m1.mp z; first | exact k44 z1.1 | exact k55 z1.2), m2.mpr ⟨k73, k84⟩⟩))⟩ | exact ⟨_, rfl, rfl, Or.inr (Or.inr (Or.inr (Or.inl ⟨rfl, (fun z => by have z1 := m0.mp z; first | exact k14 z1.1 | exact k26 z1.2), (fun z => by have z1 := m1.mp z; first | exact k44 z1.1 | exact k55 z1.2), (fun z => by have z1 := m2.mp z; first | exact k73 z1.1 | exact k84 z1.2), m3.mpr k102⟩)))⟩ | exact ⟨_, rfl, rfl, Or.inr (Or.inr (Or.inr (Or.inr ⟨rfl, (fun z => by have z1 := m0.mp z; first | exact k14 z1.1 | exact k26 z1.2), (fun z => by have z1 := m1.mp z; first | exact k44 z1.1 | exact k55 z1.2), (fun z => by have z1 := m2.mp z; first | exact k73 z1.1 | exact k84 z1.2), (fun z => k102 (m3.mp z))⟩)))⟩)
            · have k102 := pI_ne c102
              refine g_iconst dX9_lineNow_105 (g_goto 111 dX9_lineNow_106 rfl ?_)
              exact g_iret dX9_lineNow_111 rfl rfl ⟨Nat.le_refl _, Nat.le_refl _⟩ (by first | exact ⟨_, rfl, rfl, Or.inl ⟨rfl, m0.mpr ⟨k14, k26⟩⟩⟩ | exact ⟨_, rfl, rfl, Or.inr (Or.inl ⟨rfl, (fun z => by have z1 := m0.mp z; first | exact k14 z1.1 | exact k26 z1.2), m1.mpr ⟨k44, k55⟩⟩)⟩ | exact ⟨_, rfl, rfl, Or.inr (Or.inr (Or.inl ⟨rfl, (fun z => by have z1 := m0.mp z; first | exact k14 z1.1 | exact k26 z1.2), (fun z => by have z1 := m1.mp z; first | exact k44 z1.1 | exact k55 z1.2), m2.mpr ⟨k73, k84⟩⟩))⟩ | exact ⟨_, rfl, rfl, Or.inr (Or.inr (Or.inr (Or.inl ⟨rfl, (fun z => by have z1 := m0.mp z; first | exact k14 z1.1 | exact k26 z1.2), (fun z => by have z1 := m1.mp z; first | exact k44 z1.1 | exact k55 z1.2), (fun z => by have z1 := m2.mp z; first | exact k73 z1.1 | exact k84 z1.2), m3.mpr k102⟩)))⟩ | exact ⟨_, rfl, rfl, Or.inr (Or.inr (Or.inr (Or.inr ⟨rfl, (fun z => by have z1 := m0.mp z; first | exact k14 z1.1 | exact k26 z1.2), (fun z => by have z1 := m1.mp z; first | exact k44 z1.1 | exact k55 z1.2), (fun z => by have z1 := m2.mp z; first | exact k73 z1.1 | exact k84 z1.2), (fun z => k102 (m3.mp z))⟩)))⟩)
          · have k84 := pI_ne c84
            refine g_iconst dX9_lineNow_87 ?_
            exact g_iret dX9_lineNow_88 rfl rfl ⟨Nat.le_refl _, Nat.le_refl _⟩ (by first | exact ⟨_, rfl, rfl, Or.inl ⟨rfl, m0.mpr ⟨k14, k26⟩⟩⟩ | exact ⟨_, rfl, rfl, Or.inr (Or.inl ⟨rfl, (fun z => by have z1 := m0.mp z; first | exact k14 z1.1 | exact k26 z1.2), m1.mpr ⟨k44, k55⟩⟩)⟩ | exact ⟨_, rfl, rfl, Or.inr (Or.inr (Or.inl ⟨rfl, (fun z => by have z1 := m0.mp z; first | exact k14 z1.1 | exact k26 z1.2), (fun z => by have z1 := m1.mp z; first | exact k44 z1.1 | exact k55 z1.2), m2.mpr ⟨k73, k84⟩⟩))⟩ | exact ⟨_, rfl, rfl, Or.inr (Or.inr (Or.inr (Or.inl ⟨rfl, (fun z => by have z1 := m0.mp z; first | exact k14 z1.1 | exact k26 z1.2), (fun z => by have z1 := m1.mp z; first | exact k44 z1.1 | exact k55 z1.2), (fun z => by have z1 := m2.mp z; first | exact k73 z1.1 | exact k84 z1.2), m3.mpr k102⟩)))⟩ | exact ⟨_, rfl, rfl, Or.inr (Or.inr (Or.inr (Or.inr ⟨rfl, (fun z => by have z1 := m0.mp z; first | exact k14 z1.1 | exact k26 z1.2), (fun z => by have z1 := m1.mp z; first | exact k44 z1.1 | exact k55 z1.2), (fun z => by have z1 := m2.mp z; first | exact k73 z1.1 | exact k84 z1.2), (fun z => k102 (m3.mp z))⟩)))⟩)
      · have k55 := pI_ne c55
        refine g_iconst dX9_lineNow_58 ?_
        exact g_iret dX9_lineNow_59 rfl rfl ⟨Nat.le_refl _, Nat.le_refl _⟩ (by first | exact ⟨_, rfl, rfl, Or.inl ⟨rfl, m0.mpr ⟨k14, k26⟩⟩⟩ | exact ⟨_, rfl, rfl, Or.inr (Or.inl ⟨rfl, (fun z => by have z1 := m0.mp z; first | exact k14 z1.1 | exact k26 z1.2), m1.mpr ⟨k44, k55⟩⟩)⟩ | exact ⟨_, rfl, rfl, Or.inr (Or.inr (Or.inl ⟨rfl, (fun z => by have z1 := m0.mp z; first | exact k14 z1.1 | exact k26 z1.2), (fun z => by have z1 := m1.mp z; first | exact k44 z1.1 | exact k55 z1.2), m2.mpr ⟨k73, k84⟩⟩))⟩ | exact ⟨_, rfl, rfl, Or.inr (Or.inr (Or.inr (Or.inl ⟨rfl, (fun z => by have z1 := m0.mp z; first | exact k14 z1.1 | exact k26 z1.2), (fun z => by have z1 := m1.mp z; first | exact k44 z1.1 | exact k55 z1.2), (fun z => by have z1 := m2.mp z; first | exact k73 z1.1 | exact k84 z1.2), m3.mpr k102⟩)))⟩ | exact ⟨_, rfl, rfl, Or.inr (Or.inr (Or.inr (Or.inr ⟨rfl, (fun z => by have z1 := m0.mp z; first | exact k14 z1.1 | exact k26 z1.2), (fun z => by have z1 := m1.mp z; first | exact k44 z1.1 | exact k55 z1.2), (fun z => by have z1 := m2.mp z; first | exact k73 z1.1 | exact k84 z1.2), (fun z => k102 (m3.mp z))⟩)))⟩)
  · have k14 := pI_ne c14
    refine g_aload_n dX9_lineNow_17 rfl rfl (g_bipush dX9_lineNow_18 kb114 (g_bipush dX9_lineNow_20 kb101 (g_iconst dX9_lineNow_22 (cv_X9_95 (M := mX9_lineNow) rfl dX9_lineNow_23 (yo150 hY) (RO.same _ _ _) (Nat.le_of_ble_eq_true rfl) (e_X9_ends hY hS.1 (by omega) (by omega) (by omega) (by omega)) <| kI ?_))))
    refine g_if_eq 31 dX9_lineNow_26 rfl (pI_r _) (fun c26 => ?_) (fun c26 => ?_)
    · have k26 := pI_eq0.mp c26
      refine g_aload_n dX9_lineNow_31 rfl rfl (g_iconst dX9_lineNow_32 (g_bipush dX9_lineNow_33 kb115 (g_bipush dX9_lineNow_35 kb116 (g_bipush dX9_lineNow_37 kb105 (g_bipush dX9_lineNow_39 kb99 (cv_X9_91 (M := mX9_lineNow) rfl dX9_lineNow_41 (yo150 hY) (RO.same _ _ _) (Nat.le_of_ble_eq_true rfl) (e_X9_is hY hS.1 (by omega) (by omega) (by omega) (by omega) (by omega) (by omega)) <| kI ?_))))))
      refine g_if_eq 60 dX9_lineNow_44 rfl (pI_r _) (fun c44 => ?_) (fun c44 => ?_)
      · have k44 := pI_eq0.mp c44
        refine g_aload_n dX9_lineNow_60 rfl rfl (g_iconst dX9_lineNow_61 (g_bipush dX9_lineNow_62 kb114 (g_bipush dX9_lineNow_64 kb101 (g_bipush dX9_lineNow_66 kb97 (g_bipush dX9_lineNow_68 kb99 (cv_X9_91 (M := mX9_lineNow) rfl dX9_lineNow_70 (yo150 hY) (RO.same _ _ _) (Nat.le_of_ble_eq_true rfl) (e_X9_is hY hS.1 (by omega) (by omega) (by omega) (by omega) (by omega) (by omega)) <| kI ?_))))))
        refine g_if_eq 89 dX9_lineNow_73 rfl (pI_r _) (fun c73 => ?_) (fun c73 => ?_)
        · have k73 := pI_eq0.mp c73
          refine g_aload_n dX9_lineNow_89 rfl rfl (g_iconst dX9_lineNow_90 (g_bipush dX9_lineNow_91 kb118 (g_bipush dX9_lineNow_93 kb111 (g_bipush dX9_lineNow_95 kb116 (g_bipush dX9_lineNow_97 kb101 (cv_X9_91 (M := mX9_lineNow) rfl dX9_lineNow_99 (yo150 hY) (RO.same _ _ _) (Nat.le_of_ble_eq_true rfl) (e_X9_is hY hS.1 (by omega) (by omega) (by omega) (by omega) (by omega) (by omega)) <| kI ?_))))))
          refine g_if_eq 109 dX9_lineNow_102 rfl (pI_r _) (fun c102 => ?_) (fun c102 => ?_)
          · have k102 := pI_eq0.mp c102
            refine g_bipush dX9_lineNow_109 kbm4 ?_
            exact g_iret dX9_lineNow_111 rfl rfl ⟨Nat.le_refl _, Nat.le_refl _⟩ (by first | exact ⟨_, rfl, rfl, Or.inl ⟨rfl, m0.mpr ⟨k14, k26⟩⟩⟩ | exact ⟨_, rfl, rfl, Or.inr (Or.inl ⟨rfl, (fun z => by have z1 := m0.mp z; first | exact k14 z1.1 | exact k26 z1.2), m1.mpr ⟨k44, k55⟩⟩)⟩ | exact ⟨_, rfl, rfl, Or.inr (Or.inr (Or.inl ⟨rfl, (fun z => by have z1 := m0.mp z; first | exact k14 z1.1 | exact k26 z1.2), (fun z => by have z1 := m1.mp z; first | exact k44 z1.1 | exact k55 z1.2), m2.mpr ⟨k73, k84⟩⟩))⟩ | exact ⟨_, rfl, rfl, Or.inr (Or.inr (Or.inr (Or.inl ⟨rfl, (fun z => by have z1 := m0.mp z; first | exact k14 z1.1 | exact k26 z1.2), (fun z => by have z1 := m1.mp z; first | exact k44 z1.1 | exact k55 z1.2), (fun z => by have z1 := m2.mp z; first | exact k73 z1.1 | exact k84 z1.2), m3.mpr k102⟩)))⟩ | exact ⟨_, rfl, rfl, Or.inr (Or.inr (Or.inr (Or.inr ⟨rfl, (fun z => by have z1 := m0.mp z; first | exact k14 z1.1 | exact k26 z1.2), (fun z => by have z1 := m1.mp z; first | exact k44 z1.1 | exact k55 z1.2), (fun z => by have z1 := m2.mp z; first | exact k73 z1.1 | exact k84 z1.2), (fun z => k102 (m3.mp z))⟩)))⟩)
          · have k102 := pI_ne c102
            refine g_iconst dX9_lineNow_105 (g_goto 111 dX9_lineNow_106 rfl ?_)
            exact g_iret dX9_lineNow_111 rfl rfl ⟨Nat.le_refl _, Nat.le_refl _⟩ (by first | exact ⟨_, rfl, rfl, Or.inl ⟨rfl, m0.mpr ⟨k14, k26⟩⟩⟩ | exact ⟨_, rfl, rfl, Or.inr (Or.inl ⟨rfl, (fun z => by have z1 := m0.mp z; first | exact k14 z1.1 | exact k26 z1.2), m1.mpr ⟨k44, k55⟩⟩)⟩ | exact ⟨_, rfl, rfl, Or.inr (Or.inr (Or.inl ⟨rfl, (fun z => by have z1 := m0.mp z; first | exact k14 z1.1 | exact k26 z1.2), (fun z => by have z1 := m1.mp z; first | exact k44 z1.1 | exact k55 z1.2), m2.mpr ⟨k73, k84⟩⟩))⟩ | exact ⟨_, rfl, rfl, Or.inr (Or.inr (Or.inr (Or.inl ⟨rfl, (fun z => by have z1 := m0.mp z; first | exact k14 z1.1 | exact k26 z1.2), (fun z => by have z1 := m1.mp z; first | exact k44 z1.1 | exact k55 z1.2), (fun z => by have z1 := m2.mp z; first | exact k73 z1.1 | exact k84 z1.2), m3.mpr k102⟩)))⟩ | exact ⟨_, rfl, rfl, Or.inr (Or.inr (Or.inr (Or.inr ⟨rfl, (fun z => by have z1 := m0.mp z; first | exact k14 z1.1 | exact k26 z1.2), (fun z => by have z1 := m1.mp z; first | exact k44 z1.1 | exact k55 z1.2), (fun z => by have z1 := m2.mp z; first | exact k73 z1.1 | exact k84 z1.2), (fun z => k102 (m3.mp z))⟩)))⟩)
        · have k73 := pI_ne c73
          refine g_aload_n dX9_lineNow_76 rfl rfl (g_bipush dX9_lineNow_77 kb104 (g_iconst dX9_lineNow_79 (g_iconst dX9_lineNow_80 (cv_X9_95 (M := mX9_lineNow) rfl dX9_lineNow_81 (yo150 hY) (RO.same _ _ _) (Nat.le_of_ble_eq_true rfl) (e_X9_ends hY hS.1 (by omega) (by omega) (by omega) (by omega)) <| kI ?_))))
          refine g_if_eq 89 dX9_lineNow_84 rfl (pI_r _) (fun c84 => ?_) (fun c84 => ?_)
          · have k84 := pI_eq0.mp c84
            refine g_aload_n dX9_lineNow_89 rfl rfl (g_iconst dX9_lineNow_90 (g_bipush dX9_lineNow_91 kb118 (g_bipush dX9_lineNow_93 kb111 (g_bipush dX9_lineNow_95 kb116 (g_bipush dX9_lineNow_97 kb101 (cv_X9_91 (M := mX9_lineNow) rfl dX9_lineNow_99 (yo150 hY) (RO.same _ _ _) (Nat.le_of_ble_eq_true rfl) (e_X9_is hY hS.1 (by omega) (by omega) (by omega) (by omega) (by omega) (by omega)) <| kI ?_))))))
            refine g_if_eq 109 dX9_lineNow_102 rfl (pI_r _) (fun c102 => ?_) (fun c102 => ?_)
            · have k102 := pI_eq0.mp c102
              refine g_bipush dX9_lineNow_109 kbm4 ?_
              exact g_iret dX9_lineNow_111 rfl rfl ⟨Nat.le_refl _, Nat.le_refl _⟩ (by first | exact ⟨_, rfl, rfl, Or.inl ⟨rfl, m0.mpr ⟨k14, k26⟩⟩⟩ | exact ⟨_, rfl, rfl, Or.inr (Or.inl ⟨rfl, (fun z => by have z1 := m0.mp z; first | exact k14 z1.1 | exact k26 z1.2), m1.mpr ⟨k44, k55⟩⟩)⟩ | exact ⟨_, rfl, rfl, Or.inr (Or.inr (Or.inl ⟨rfl, (fun z => by have z1 := m0.mp z; first | exact k14 z1.1 | exact k26 z1.2), (fun z => by have z1 := m1.mp z; first | exact k44 z1.1 | exact k55 z1.2), m2.mpr ⟨k73, k84⟩⟩))⟩ | exact ⟨_, rfl, rfl, Or.inr (Or.inr (Or.inr (Or.inl ⟨rfl, (fun z => by have z1 := m0.mp z; first | exact k14 z1.1 | exact k26 z1.2), (fun z => by have z1 := m1.mp z; first | exact k44 z1.1 | exact k55 z1.2), (fun z => by have z1 := m2.mp z; first | exact k73 z1.1 | exact k84 z1.2), m3.mpr k102⟩)))⟩ | exact ⟨_, rfl, rfl, Or.inr (Or.inr (Or.inr (Or.inr ⟨rfl, (fun z => by have z1 := m0.mp z; first | exact k14 z1.1 | exact k26 z1.2), (fun z => by have z1 := m1.mp z; first | exact k44 z1.1 | exact k55 z1.2), (fun z => by have z1 := m2.mp z; first | exact k73 z1.1 | exact k84 z1.2), (fun z => k102 (m3.mp z))⟩)))⟩)
            · have k102 := pI_ne c102
              refine g_iconst dX9_lineNow_105 (g_goto 111 dX9_lineNow_106 rfl ?_)
              exact g_iret dX9_lineNow_111 rfl rfl ⟨Nat.le_refl _, Nat.le_refl _⟩ (by first | exact ⟨_, rfl, rfl, Or.inl ⟨rfl, m0.mpr ⟨k14, k26⟩⟩⟩ | exact ⟨_, rfl, rfl, Or.inr (Or.inl ⟨rfl, (fun z => by have z1 := m0.mp z; first | exact k14 z1.1 | exact k26 z1.2), m1.mpr ⟨k44, k55⟩⟩)⟩ | exact ⟨_, rfl, rfl, Or.inr (Or.inr (Or.inl ⟨rfl, (fun z => by have z1 := m0.mp z; first | exact k14 z1.1 | exact k26 z1.2), (fun z => by have z1 := m1.mp z; first | exact k44 z1.1 | exact k55 z1.2), m2.mpr ⟨k73, k84⟩⟩))⟩ | exact ⟨_, rfl, rfl, Or.inr (Or.inr (Or.inr (Or.inl ⟨rfl, (fun z => by have z1 := m0.mp z; first | exact k14 z1.1 | exact k26 z1.2), (fun z => by have z1 := m1.mp z; first | exact k44 z1.1 | exact k55 z1.2), (fun z => by have z1 := m2.mp z; first | exact k73 z1.1 | exact k84 z1.2), m3.mpr k102⟩)))⟩ | exact ⟨_, rfl, rfl, Or.inr (Or.inr (Or.inr (Or.inr ⟨rfl, (fun z => by have z1 := m0.mp z; first | exact k14 z1.1 | exact k26 z1.2), (fun z => by have z1 := m1.mp z; first | exact k44 z1.1 | exact k55 z1.2), (fun z => by have z1 := m2.mp z; first | exact k73 z1.1 | exact k84 z1.2), (fun z => k102 (m3.mp z))⟩)))⟩)
          · have k84 := pI_ne c84
            refine g_iconst dX9_lineNow_87 ?_
            exact g_iret dX9_lineNow_88 rfl rfl ⟨Nat.le_refl _, Nat.le_refl _⟩ (by first | exact ⟨_, rfl, rfl, Or.inl ⟨rfl, m0.mpr ⟨k14, k26⟩⟩⟩ | exact ⟨_, rfl, rfl, Or.inr (Or.inl ⟨rfl, (fun z => by have z1 := m0.mp z; first | exact k14 z1.1 | exact k26 z1.2), m1.mpr ⟨k44, k55⟩⟩)⟩ | exact ⟨_, rfl, rfl, Or.inr (Or.inr (Or.inl ⟨rfl, (fun z => by have z1 := m0.mp z; first | exact k14 z1.1 | exact k26 z1.2), (fun z => by have z1 := m1.mp z; first | exact k44 z1.1 | exact k55 z1.2), m2.mpr ⟨k73, k84⟩⟩))⟩ | exact ⟨_, rfl, rfl, Or.inr (Or.inr (Or.inr (Or.inl ⟨rfl, (fun z => by have z1 := m0.mp z; first | exact k14 z1.1 | exact k26 z1.2), (fun z => by have z1 := m1.mp z; first | exact k44 z1.1 | exact k55 z1.2), (fun z => by have z1 := m2.mp z; first | exact k73 z1.1 | exact k84 z1.2), m3.mpr k102⟩)))⟩ | exact ⟨_, rfl, rfl, Or.inr (Or.inr (Or.inr (Or.inr ⟨rfl, (fun z => by have z1 := m0.mp z; first | exact k14 z1.1 | exact k26 z1.2), (fun z => by have z1 := m1.mp z; first | exact k44 z1.1 | exact k55 z1.2), (fun z => by have z1 := m2.mp z; first | exact k73 z1.1 | exact k84 z1.2), (fun z => k102 (m3.mp z))⟩)))⟩)
      · have k44 := pI_ne c44
        refine g_aload_n dX9_lineNow_47 rfl rfl (g_bipush dX9_lineNow_48 kb107 (g_iconst dX9_lineNow_50 (g_iconst dX9_lineNow_51 (cv_X9_95 (M := mX9_lineNow) rfl dX9_lineNow_52 (yo150 hY) (RO.same _ _ _) (Nat.le_of_ble_eq_true rfl) (e_X9_ends hY hS.1 (by omega) (by omega) (by omega) (by omega)) <| kI ?_))))
        refine g_if_eq 60 dX9_lineNow_55 rfl (pI_r _) (fun c55 => ?_) (fun c55 => ?_)
        · have k55 := pI_eq0.mp c55
          refine g_aload_n dX9_lineNow_60 rfl rfl (g_iconst dX9_lineNow_61 (g_bipush dX9_lineNow_62 kb114 (g_bipush dX9_lineNow_64 kb101 (g_bipush dX9_lineNow_66 kb97 (g_bipush dX9_lineNow_68 kb99 (cv_X9_91 (M := mX9_lineNow) rfl dX9_lineNow_70 (yo150 hY) (RO.same _ _ _) (Nat.le_of_ble_eq_true rfl) (e_X9_is hY hS.1 (by omega) (by omega) (by omega) (by omega) (by omega) (by omega)) <| kI ?_))))))
          refine g_if_eq 89 dX9_lineNow_73 rfl (pI_r _) (fun c73 => ?_) (fun c73 => ?_)
          · have k73 := pI_eq0.mp c73
            refine g_aload_n dX9_lineNow_89 rfl rfl (g_iconst dX9_lineNow_90 (g_bipush dX9_lineNow_91 kb118 (g_bipush dX9_lineNow_93 kb111 (g_bipush dX9_lineNow_95 kb116 (g_bipush dX9_lineNow_97 kb101 (cv_X9_91 (M := mX9_lineNow) rfl dX9_lineNow_99 (yo150 hY) (RO.same _ _ _) (Nat.le_of_ble_eq_true rfl) (e_X9_is hY hS.1 (by omega) (by omega) (by omega) (by omega) (by omega) (by omega)) <| kI ?_))))))
            refine g_if_eq 109 dX9_lineNow_102 rfl (pI_r _) (fun c102 => ?_) (fun c102 => ?_)
            · have k102 := pI_eq0.mp c102
              refine g_bipush dX9_lineNow_109 kbm4 ?_
              exact g_iret dX9_lineNow_111 rfl rfl ⟨Nat.le_refl _, Nat.le_refl _⟩ (by first | exact ⟨_, rfl, rfl, Or.inl ⟨rfl, m0.mpr ⟨k14, k26⟩⟩⟩ | exact ⟨_, rfl, rfl, Or.inr (Or.inl ⟨rfl, (fun z => by have z1 := m0.mp z; first | exact k14 z1.1 | exact k26 z1.2), m1.mpr ⟨k44, k55⟩⟩)⟩ | exact ⟨_, rfl, rfl, Or.inr (Or.inr (Or.inl ⟨rfl, (fun z => by have z1 := m0.mp z; first | exact k14 z1.1 | exact k26 z1.2), (fun z => by have z1 := m1.mp z; first | exact k44 z1.1 | exact k55 z1.2), m2.mpr ⟨k73, k84⟩⟩))⟩ | exact ⟨_, rfl, rfl, Or.inr (Or.inr (Or.inr (Or.inl ⟨rfl, (fun z => by have z1 := m0.mp z; first | exact k14 z1.1 | exact k26 z1.2), (fun z => by have z1 := m1.mp z; first | exact k44 z1.1 | exact k55 z1.2), (fun z => by have z1 := m2.mp z; first | exact k73 z1.1 | exact k84 z1.2), m3.mpr k102⟩)))⟩ | exact ⟨_, rfl, rfl, Or.inr (Or.inr (Or.inr (Or.inr ⟨rfl, (fun z => by have z1 := m0.mp z; first | exact k14 z1.1 | exact k26 z1.2), (fun z => by have z1 := m1.mp z; first | exact k44 z1.1 | exact k55 z1.2), (fun z => by have z1 := m2.mp z; first | exact k73 z1.1 | exact k84 z1.2), (fun z => k102 (m3.mp z))⟩)))⟩)
            · have k102 := pI_ne c102
              refine g_iconst dX9_lineNow_105 (g_goto 111 dX9_lineNow_106 rfl ?_)
              exact g_iret dX9_lineNow_111 rfl rfl ⟨Nat.le_refl _, Nat.le_refl _⟩ (by first | exact ⟨_, rfl, rfl, Or.inl ⟨rfl, m0.mpr ⟨k14, k26⟩⟩⟩ | exact ⟨_, rfl, rfl, Or.inr (Or.inl ⟨rfl, (fun z => by have z1 := m0.mp z; first | exact k14 z1.1 | exact k26 z1.2), m1.mpr ⟨k44, k55⟩⟩)⟩ | exact ⟨_, rfl, rfl, Or.inr (Or.inr (Or.inl ⟨rfl, (fun z => by have z1 := m0.mp z; first | exact k14 z1.1 | exact k26 z1.2), (fun z => by have z1 := m1.mp z; first | exact k44 z1.1 | exact k55 z1.2), m2.mpr ⟨k73, k84⟩⟩))⟩ | exact ⟨_, rfl, rfl, Or.inr (Or.inr (Or.inr (Or.inl ⟨rfl, (fun z => by have z1 := m0.mp z; first | exact k14 z1.1 | exact k26 z1.2), (fun z => by have z1 := m1.mp z; first | exact k44 z1.1 | exact k55 z1.2), (fun z => by have z1 := m2.mp z; first | exact k73 z1.1 | exact k84 z1.2), m3.mpr k102⟩)))⟩ | exact ⟨_, rfl, rfl, Or.inr (Or.inr (Or.inr (Or.inr ⟨rfl, (fun z => by have z1 := m0.mp z; first | exact k14 z1.1 | exact k26 z1.2), (fun z => by have z1 := m1.mp z; first | exact k44 z1.1 | exact k55 z1.2), (fun z => by have z1 := m2.mp z; first | exact k73 z1.1 | exact k84 z1.2), (fun z => k102 (m3.mp z))⟩)))⟩)
          · have k73 := pI_ne c73
            refine g_aload_n dX9_lineNow_76 rfl rfl (g_bipush dX9_lineNow_77 kb104 (g_iconst dX9_lineNow_79 (g_iconst dX9_lineNow_80 (cv_X9_95 (M := mX9_lineNow) rfl dX9_lineNow_81 (yo150 hY) (RO.same _ _ _) (Nat.le_of_ble_eq_true rfl) (e_X9_ends hY hS.1 (by omega) (by omega) (by omega) (by omega)) <| kI ?_))))
            refine g_if_eq 89 dX9_lineNow_84 rfl (pI_r _) (fun c84 => ?_) (fun c84 => ?_)
            · have k84 := pI_eq0.mp c84
              refine g_aload_n dX9_lineNow_89 rfl rfl (g_iconst dX9_lineNow_90 (g_bipush dX9_lineNow_91 kb118 (g_bipush dX9_lineNow_93 kb111 (g_bipush dX9_lineNow_95 kb116 (g_bipush dX9_lineNow_97 kb101 (cv_X9_91 (M := mX9_lineNow) rfl dX9_lineNow_99 (yo150 hY) (RO.same _ _ _) (Nat.le_of_ble_eq_true rfl) (e_X9_is hY hS.1 (by omega) (by omega) (by omega) (by omega) (by omega) (by omega)) <| kI ?_))))))
              refine g_if_eq 109 dX9_lineNow_102 rfl (pI_r _) (fun c102 => ?_) (fun c102 => ?_)
              · have k102 := pI_eq0.mp c102
                refine g_bipush dX9_lineNow_109 kbm4 ?_
                exact g_iret dX9_lineNow_111 rfl rfl ⟨Nat.le_refl _, Nat.le_refl _⟩ (by first | exact ⟨_, rfl, rfl, Or.inl ⟨rfl, m0.mpr ⟨k14, k26⟩⟩⟩ | exact ⟨_, rfl, rfl, Or.inr (Or.inl ⟨rfl, (fun z => by have z1 := m0.mp z; first | exact k14 z1.1 | exact k26 z1.2), m1.mpr ⟨k44, k55⟩⟩)⟩ | exact ⟨_, rfl, rfl, Or.inr (Or.inr (Or.inl ⟨rfl, (fun z => by have z1 := m0.mp z; first | exact k14 z1.1 | exact k26 z1.2), (fun z => by have z1 := m1.mp z; first | exact k44 z1.1 | exact k55 z1.2), m2.mpr ⟨k73, k84⟩⟩))⟩ | exact ⟨_, rfl, rfl, Or.inr (Or.inr (Or.inr (Or.inl ⟨rfl, (fun z => by have z1 := m0.mp z; first | exact k14 z1.1 | exact k26 z1.2), (fun z => by have z1 := m1.mp z; first | exact k44 z1.1 | exact k55 z1.2), (fun z => by have z1 := m2.mp z; first | exact k73 z1.1 | exact k84 z1.2), m3.mpr k102⟩)))⟩ | exact ⟨_, rfl, rfl, Or.inr (Or.inr (Or.inr (Or.inr ⟨rfl, (fun z => by have z1 := m0.mp z; first | exact k14 z1.1 | exact k26 z1.2), (fun z => by have z1 := m1.mp z; first | exact k44 z1.1 | exact k55 z1.2), (fun z => by have z1 := m2.mp z; first | exact k73 z1.1 | exact k84 z1.2), (fun z => k102 (m3.mp z))⟩)))⟩)
              · have k102 := pI_ne c102
                refine g_iconst dX9_lineNow_105 (g_goto 111 dX9_lineNow_106 rfl ?_)
                exact g_iret dX9_lineNow_111 rfl rfl ⟨Nat.le_refl _, Nat.le_refl _⟩ (by first | exact ⟨_, rfl, rfl, Or.inl ⟨rfl, m0.mpr ⟨k14, k26⟩⟩⟩ | exact ⟨_, rfl, rfl, Or.inr (Or.inl ⟨rfl, (fun z => by have z1 := m0.mp z; first | exact k14 z1.1 | exact k26 z1.2), m1.mpr ⟨k44, k55⟩⟩)⟩ | exact ⟨_, rfl, rfl, Or.inr (Or.inr (Or.inl ⟨rfl, (fun z => by have z1 := m0.mp z; first | exact k14 z1.1 | exact k26 z1.2), (fun z => by have z1 := m1.mp z; first | exact k44 z1.1 | exact k55 z1.2), m2.mpr ⟨k73, k84⟩⟩))⟩ | exact ⟨_, rfl, rfl, Or.inr (Or.inr (Or.inr (Or.inl ⟨rfl, (fun z => by have z1 := m0.mp z; first | exact k14 z1.1 | exact k26 z1.2), (fun z => by have z1 := m1.mp z; first | exact k44 z1.1 | exact k55 z1.2), (fun z => by have z1 := m2.mp z; first | exact k73 z1.1 | exact k84 z1.2), m3.mpr k102⟩)))⟩ | exact ⟨_, rfl, rfl, Or.inr (Or.inr (Or.inr (Or.inr ⟨rfl, (fun z => by have z1 := m0.mp z; first | exact k14 z1.1 | exact k26 z1.2), (fun z => by have z1 := m1.mp z; first | exact k44 z1.1 | exact k55 z1.2), (fun z => by have z1 := m2.mp z; first | exact k73 z1.1 | exact k84 z1.2), (fun z => k102 (m3.mp z))⟩)))⟩)
            · have k84 := pI_ne c84
              refine g_iconst dX9_lineNow_87 ?_
              exact g_iret dX9_lineNow_88 rfl rfl ⟨Nat.le_refl _, Nat.le_refl _⟩ (by first | exact ⟨_, rfl, rfl, Or.inl ⟨rfl, m0.mpr ⟨k14, k26⟩⟩⟩ | exact ⟨_, rfl, rfl, Or.inr (Or.inl ⟨rfl, (fun z => by have z1 := m0.mp z; first | exact k14 z1.1 | exact k26 z1.2), m1.mpr ⟨k44, k55⟩⟩)⟩ | exact ⟨_, rfl, rfl, Or.inr (Or.inr (Or.inl ⟨rfl, (fun z => by have z1 := m0.mp z; first | exact k14 z1.1 | exact k26 z1.2), (fun z => by have z1 := m1.mp z; first | exact k44 z1.1 | exact k55 z1.2), m2.mpr ⟨k73, k84⟩⟩))⟩ | exact ⟨_, rfl, rfl, Or.inr (Or.inr (Or.inr (Or.inl ⟨rfl, (fun z => by have z1 := m0.mp z; first | exact k14 z1.1 | exact k26 z1.2), (fun z => by have z1 := m1.mp z; first | exact k44 z1.1 | exact k55 z1.2), (fun z => by have z1 := m2.mp z; first | exact k73 z1.1 | exact k84 z1.2), m3.mpr k102⟩)))⟩ | exact ⟨_, rfl, rfl, Or.inr (Or.inr (Or.inr (Or.inr ⟨rfl, (fun z => by have z1 := m0.mp z; first | exact k14 z1.1 | exact k26 z1.2), (fun z => by have z1 := m1.mp z; first | exact k44 z1.1 | exact k55 z1.2), (fun z => by have z1 := m2.mp z; first | exact k73 z1.1 | exact k84 z1.2), (fun z => k102 (m3.mp z))⟩)))⟩)
        · have k55 := pI_ne c55
          refine g_iconst dX9_lineNow_58 ?_
          exact g_iret dX9_lineNow_59 rfl rfl ⟨Nat.le_refl _, Nat.le_refl _⟩ (by first | exact ⟨_, rfl, rfl, Or.inl ⟨rfl, m0.mpr ⟨k14, k26⟩⟩⟩ | exact ⟨_, rfl, rfl, Or.inr (Or.inl ⟨rfl, (fun z => by have z1 := m0.mp z; first | exact k14 z1.1 | exact k26 z1.2), m1.mpr ⟨k44, k55⟩⟩)⟩ | exact ⟨_, rfl, rfl, Or.inr (Or.inr (Or.inl ⟨rfl, (fun z => by have z1 := m0.mp z; first | exact k14 z1.1 | exact k26 z1.2), (fun z => by have z1 := m1.mp z; first | exact k44 z1.1 | exact k55 z1.2), m2.mpr ⟨k73, k84⟩⟩))⟩ | exact ⟨_, rfl, rfl, Or.inr (Or.inr (Or.inr (Or.inl ⟨rfl, (fun z => by have z1 := m0.mp z; first | exact k14 z1.1 | exact k26 z1.2), (fun z => by have z1 := m1.mp z; first | exact k44 z1.1 | exact k55 z1.2), (fun z => by have z1 := m2.mp z; first | exact k73 z1.1 | exact k84 z1.2), m3.mpr k102⟩)))⟩ | exact ⟨_, rfl, rfl, Or.inr (Or.inr (Or.inr (Or.inr ⟨rfl, (fun z => by have z1 := m0.mp z; first | exact k14 z1.1 | exact k26 z1.2), (fun z => by have z1 := m1.mp z; first | exact k44 z1.1 | exact k55 z1.2), (fun z => by have z1 := m2.mp z; first | exact k73 z1.1 | exact k84 z1.2), (fun z => k102 (m3.mp z))⟩)))⟩)
    · have k26 := pI_ne c26
      refine g_iconst dX9_lineNow_29 ?_
      exact g_iret dX9_lineNow_30 rfl rfl ⟨Nat.le_refl _, Nat.le_refl _⟩ (by first | exact ⟨_, rfl, rfl, Or.inl ⟨rfl, m0.mpr ⟨k14, k26⟩⟩⟩ | exact ⟨_, rfl, rfl, Or.inr (Or.inl ⟨rfl, (fun z => by have z1 := m0.mp z; first | exact k14 z1.1 | exact k26 z1.2), m1.mpr ⟨k44, k55⟩⟩)⟩ | exact ⟨_, rfl, rfl, Or.inr (Or.inr (Or.inl ⟨rfl, (fun z => by have z1 := m0.mp z; first | exact k14 z1.1 | exact k26 z1.2), (fun z => by have z1 := m1.mp z; first | exact k44 z1.1 | exact k55 z1.2), m2.mpr ⟨k73, k84⟩⟩))⟩ | exact ⟨_, rfl, rfl, Or.inr (Or.inr (Or.inr (Or.inl ⟨rfl, (fun z => by have z1 := m0.mp z; first | exact k14 z1.1 | exact k26 z1.2), (fun z => by have z1 := m1.mp z; first | exact k44 z1.1 | exact k55 z1.2), (fun z => by have z1 := m2.mp z; first | exact k73 z1.1 | exact k84 z1.2), m3.mpr k102⟩)))⟩ | exact ⟨_, rfl, rfl, Or.inr (Or.inr (Or.inr (Or.inr ⟨rfl, (fun z => by have z1 := m0.mp z; first | exact k14 z1.1 | exact k26 z1.2), (fun z => by have z1 := m1.mp z; first | exact k44 z1.1 | exact k55 z1.2), (fun z => by have z1 := m2.mp z; first | exact k73 z1.1 | exact k84 z1.2), (fun z => k102 (m3.mp z))⟩)))⟩)
set_option maxRecDepth 100000 in
set_option maxHeartbeats 1000000 in
theorem e_X9_kindNow {G : GX} {y : LY} {h : HM} {d : Nat} (hY : Lay y) {T : Nat → Int} {len : Int} {P : PS} (hS : TQ h T len P) (ht : P.tok = 1) : EvQI G mX9_kindNow (d + 2) [.ref 150] y h (fun v => (v = 0 ∧ IsNm T P 7) ∨ (v = 1 ∧ ¬ IsNm T P 7 ∧ IsNm T P 5) ∨ (v = 2 ∧ ¬ IsNm T P 7 ∧ ¬ IsNm T P 5 ∧ IsNm T P 6) ∨ (v = 3 ∧ ¬ IsNm T P 7 ∧ ¬ IsNm T P 5 ∧ ¬ IsNm T P 6 ∧ IsNm T P 4) ∨ (v = -4 ∧ ¬ IsNm T P 7 ∧ ¬ IsNm T P 5 ∧ ¬ IsNm T P 6 ∧ ¬ IsNm T P 4)) := by
  have hf := hS.f
  have hbd := hS.b
  have hPB := hS.2.2.1
  have m7 := nm7 hPB ht
  have m5 := nm5 hPB ht
  have m6 := nm6 hPB ht
  have m4 := nm4 hPB ht
  rw [← hf.2.1, ← hf.2.2.1] at m7 m5 m6 m4
  refine Ev.of rfl [some (.ref 150)] rfl (Nat.le_of_ble_eq_true rfl) ?_
  refine g_aload_n dX9_kindNow_0 rfl rfl (g_iconst dX9_kindNow_1 (g_bipush dX9_kindNow_2 kb112 (g_bipush dX9_kindNow_4 kb108 (g_bipush dX9_kindNow_6 kb97 (g_bipush dX9_kindNow_8 kb105 (cv_X9_91 (M := mX9_kindNow) rfl dX9_kindNow_10 (yo150 hY) (RO.same _ _ _) (Nat.le_of_ble_eq_true rfl) (e_X9_is hY hS.1 (by omega) (by omega) (by omega) (by omega) (by omega) (by omega)) <| kI ?_))))))
  refine g_if_eq 29 dX9_kindNow_13 rfl (pI_r _) (fun c13 => ?_) (fun c13 => ?_)
  · have k13 := pI_eq0.mp c13
    refine g_aload_n dX9_kindNow_29 rfl rfl (g_iconst dX9_kindNow_30 (g_bipush dX9_kindNow_31 kb119 (g_bipush dX9_kindNow_33 kb111 (g_bipush dX9_kindNow_35 kb114 (g_bipush dX9_kindNow_37 kb110 (cv_X9_91 (M := mX9_kindNow) rfl dX9_kindNow_39 (yo150 hY) (RO.same _ _ _) (Nat.le_of_ble_eq_true rfl) (e_X9_is hY hS.1 (by omega) (by omega) (by omega) (by omega) (by omega) (by omega)) <| kI ?_))))))
    refine g_if_eq 47 dX9_kindNow_42 rfl (pI_r _) (fun c42 => ?_) (fun c42 => ?_)
    · have k42 := pI_eq0.mp c42
      refine g_aload_n dX9_kindNow_47 rfl rfl (g_iconst dX9_kindNow_48 (g_bipush dX9_kindNow_49 kb116 (g_bipush dX9_kindNow_51 kb119 (g_bipush dX9_kindNow_53 kb105 (g_bipush dX9_kindNow_55 kb110 (cv_X9_91 (M := mX9_kindNow) rfl dX9_kindNow_57 (yo150 hY) (RO.same _ _ _) (Nat.le_of_ble_eq_true rfl) (e_X9_is hY hS.1 (by omega) (by omega) (by omega) (by omega) (by omega) (by omega)) <| kI ?_))))))
      refine g_if_eq 67 dX9_kindNow_60 rfl (pI_r _) (fun c60 => ?_) (fun c60 => ?_)
      · have k60 := pI_eq0.mp c60
        refine g_aload_n dX9_kindNow_67 rfl rfl (g_iconst dX9_kindNow_68 (g_bipush dX9_kindNow_69 kb98 (g_bipush dX9_kindNow_71 kb111 (g_bipush dX9_kindNow_73 kb116 (g_bipush dX9_kindNow_75 kb104 (cv_X9_91 (M := mX9_kindNow) rfl dX9_kindNow_77 (yo150 hY) (RO.same _ _ _) (Nat.le_of_ble_eq_true rfl) (e_X9_is hY hS.1 (by omega) (by omega) (by omega) (by omega) (by omega) (by omega)) <| kI ?_))))))
        refine g_if_eq 87 dX9_kindNow_80 rfl (pI_r _) (fun c80 => ?_) (fun c80 => ?_)
        · have k80 := pI_eq0.mp c80
          refine g_bipush dX9_kindNow_87 kbm4 ?_
          exact g_iret dX9_kindNow_89 rfl rfl ⟨Nat.le_refl _, Nat.le_refl _⟩ (by first | exact ⟨_, rfl, rfl, Or.inl ⟨rfl, m7.mpr ⟨k13, k24⟩⟩⟩ | exact ⟨_, rfl, rfl, Or.inr (Or.inl ⟨rfl, (fun z => by have z1 := m7.mp z; first | exact k13 z1.1 | exact k24 z1.2), m5.mpr k42⟩)⟩ | exact ⟨_, rfl, rfl, Or.inr (Or.inr (Or.inl ⟨rfl, (fun z => by have z1 := m7.mp z; first | exact k13 z1.1 | exact k24 z1.2), (fun z => k42 (m5.mp z)), m6.mpr k60⟩))⟩ | exact ⟨_, rfl, rfl, Or.inr (Or.inr (Or.inr (Or.inl ⟨rfl, (fun z => by have z1 := m7.mp z; first | exact k13 z1.1 | exact k24 z1.2), (fun z => k42 (m5.mp z)), (fun z => k60 (m6.mp z)), m4.mpr k80⟩)))⟩ | exact ⟨_, rfl, rfl, Or.inr (Or.inr (Or.inr (Or.inr ⟨rfl, (fun z => by have z1 := m7.mp z; first | exact k13 z1.1 | exact k24 z1.2), (fun z => k42 (m5.mp z)), (fun z => k60 (m6.mp z)), (fun z => k80 (m4.mp z))⟩)))⟩)
        · have k80 := pI_ne c80
          refine g_iconst dX9_kindNow_83 (g_goto 89 dX9_kindNow_84 rfl ?_)
          exact g_iret dX9_kindNow_89 rfl rfl ⟨Nat.le_refl _, Nat.le_refl _⟩ (by first | exact ⟨_, rfl, rfl, Or.inl ⟨rfl, m7.mpr ⟨k13, k24⟩⟩⟩ | exact ⟨_, rfl, rfl, Or.inr (Or.inl ⟨rfl, (fun z => by have z1 := m7.mp z; first | exact k13 z1.1 | exact k24 z1.2), m5.mpr k42⟩)⟩ | exact ⟨_, rfl, rfl, Or.inr (Or.inr (Or.inl ⟨rfl, (fun z => by have z1 := m7.mp z; first | exact k13 z1.1 | exact k24 z1.2), (fun z => k42 (m5.mp z)), m6.mpr k60⟩))⟩ | exact ⟨_, rfl, rfl, Or.inr (Or.inr (Or.inr (Or.inl ⟨rfl, (fun z => by have z1 := m7.mp z; first | exact k13 z1.1 | exact k24 z1.2), (fun z => k42 (m5.mp z)), (fun z => k60 (m6.mp z)), m4.mpr k80⟩)))⟩ | exact ⟨_, rfl, rfl, Or.inr (Or.inr (Or.inr (Or.inr ⟨rfl, (fun z => by have z1 := m7.mp z; first | exact k13 z1.1 | exact k24 z1.2), (fun z => k42 (m5.mp z)), (fun z => k60 (m6.mp z)), (fun z => k80 (m4.mp z))⟩)))⟩)
      · have k60 := pI_ne c60
        refine g_iconst dX9_kindNow_63 (g_goto 89 dX9_kindNow_64 rfl ?_)
        exact g_iret dX9_kindNow_89 rfl rfl ⟨Nat.le_refl _, Nat.le_refl _⟩ (by first | exact ⟨_, rfl, rfl, Or.inl ⟨rfl, m7.mpr ⟨k13, k24⟩⟩⟩ | exact ⟨_, rfl, rfl, Or.inr (Or.inl ⟨rfl, (fun z => by have z1 := m7.mp z; first | exact k13 z1.1 | exact k24 z1.2), m5.mpr k42⟩)⟩ | exact ⟨_, rfl, rfl, Or.inr (Or.inr (Or.inl ⟨rfl, (fun z => by have z1 := m7.mp z; first | exact k13 z1.1 | exact k24 z1.2), (fun z => k42 (m5.mp z)), m6.mpr k60⟩))⟩ | exact ⟨_, rfl, rfl, Or.inr (Or.inr (Or.inr (Or.inl ⟨rfl, (fun z => by have z1 := m7.mp z; first | exact k13 z1.1 | exact k24 z1.2), (fun z => k42 (m5.mp z)), (fun z => k60 (m6.mp z)), m4.mpr k80⟩)))⟩ | exact ⟨_, rfl, rfl, Or.inr (Or.inr (Or.inr (Or.inr ⟨rfl, (fun z => by have z1 := m7.mp z; first | exact k13 z1.1 | exact k24 z1.2), (fun z => k42 (m5.mp z)), (fun z => k60 (m6.mp z)), (fun z => k80 (m4.mp z))⟩)))⟩)
    · have k42 := pI_ne c42
      refine g_iconst dX9_kindNow_45 ?_
      exact g_iret dX9_kindNow_46 rfl rfl ⟨Nat.le_refl _, Nat.le_refl _⟩ (by first | exact ⟨_, rfl, rfl, Or.inl ⟨rfl, m7.mpr ⟨k13, k24⟩⟩⟩ | exact ⟨_, rfl, rfl, Or.inr (Or.inl ⟨rfl, (fun z => by have z1 := m7.mp z; first | exact k13 z1.1 | exact k24 z1.2), m5.mpr k42⟩)⟩ | exact ⟨_, rfl, rfl, Or.inr (Or.inr (Or.inl ⟨rfl, (fun z => by have z1 := m7.mp z; first | exact k13 z1.1 | exact k24 z1.2), (fun z => k42 (m5.mp z)), m6.mpr k60⟩))⟩ | exact ⟨_, rfl, rfl, Or.inr (Or.inr (Or.inr (Or.inl ⟨rfl, (fun z => by have z1 := m7.mp z; first | exact k13 z1.1 | exact k24 z1.2), (fun z => k42 (m5.mp z)), (fun z => k60 (m6.mp z)), m4.mpr k80⟩)))⟩ | exact ⟨_, rfl, rfl, Or.inr (Or.inr (Or.inr (Or.inr ⟨rfl, (fun z => by have z1 := m7.mp z; first | exact k13 z1.1 | exact k24 z1.2), (fun z => k42 (m5.mp z)), (fun z => k60 (m6.mp z)), (fun z => k80 (m4.mp z))⟩)))⟩)
  · have k13 := pI_ne c13
    refine g_aload_n dX9_kindNow_16 rfl rfl (g_bipush dX9_kindNow_17 kb110 (g_iconst dX9_kindNow_19 (g_iconst dX9_kindNow_20 (cv_X9_95 (M := mX9_kindNow) rfl dX9_kindNow_21 (yo150 hY) (RO.same _ _ _) (Nat.le_of_ble_eq_true rfl) (e_X9_ends hY hS.1 (by omega) (by omega) (by omega) (by omega)) <| kI ?_))))
    refine g_if_eq 29 dX9_kindNow_24 rfl (pI_r _) (fun c24 => ?_) (fun c24 => ?_)
    · have k24 := pI_eq0.mp c24
      refine g_aload_n dX9_kindNow_29 rfl rfl (g_iconst dX9_kindNow_30 (g_bipush dX9_kindNow_31 kb119 (g_bipush dX9_kindNow_33 kb111 (g_bipush dX9_kindNow_35 kb114 (g_bipush dX9_kindNow_37 kb110 (cv_X9_91 (M := mX9_kindNow) rfl dX9_kindNow_39 (yo150 hY) (RO.same _ _ _) (Nat.le_of_ble_eq_true rfl) (e_X9_is hY hS.1 (by omega) (by omega) (by omega) (by omega) (by omega) (by omega)) <| kI ?_))))))
      refine g_if_eq 47 dX9_kindNow_42 rfl (pI_r _) (fun c42 => ?_) (fun c42 => ?_)
      · have k42 := pI_eq0.mp c42
        refine g_aload_n dX9_kindNow_47 rfl rfl (g_iconst dX9_kindNow_48 (g_bipush dX9_kindNow_49 kb116 (g_bipush dX9_kindNow_51 kb119 (g_bipush dX9_kindNow_53 kb105 (g_bipush dX9_kindNow_55 kb110 (cv_X9_91 (M := mX9_kindNow) rfl dX9_kindNow_57 (yo150 hY) (RO.same _ _ _) (Nat.le_of_ble_eq_true rfl) (e_X9_is hY hS.1 (by omega) (by omega) (by omega) (by omega) (by omega) (by omega)) <| kI ?_))))))
        refine g_if_eq 67 dX9_kindNow_60 rfl (pI_r _) (fun c60 => ?_) (fun c60 => ?_)
        · have k60 := pI_eq0.mp c60
          refine g_aload_n dX9_kindNow_67 rfl rfl (g_iconst dX9_kindNow_68 (g_bipush dX9_kindNow_69 kb98 (g_bipush dX9_kindNow_71 kb111 (g_bipush dX9_kindNow_73 kb116 (g_bipush dX9_kindNow_75 kb104 (cv_X9_91 (M := mX9_kindNow) rfl dX9_kindNow_77 (yo150 hY) (RO.same _ _ _) (Nat.le_of_ble_eq_true rfl) (e_X9_is hY hS.1 (by omega) (by omega) (by omega) (by omega) (by omega) (by omega)) <| kI ?_))))))
          refine g_if_eq 87 dX9_kindNow_80 rfl (pI_r _) (fun c80 => ?_) (fun c80 => ?_)
          · have k80 := pI_eq0.mp c80
            refine g_bipush dX9_kindNow_87 kbm4 ?_
            exact g_iret dX9_kindNow_89 rfl rfl ⟨Nat.le_refl _, Nat.le_refl _⟩ (by first | exact ⟨_, rfl, rfl, Or.inl ⟨rfl, m7.mpr ⟨k13, k24⟩⟩⟩ | exact ⟨_, rfl, rfl, Or.inr (Or.inl ⟨rfl, (fun z => by have z1 := m7.mp z; first | exact k13 z1.1 | exact k24 z1.2), m5.mpr k42⟩)⟩ | exact ⟨_, rfl, rfl, Or.inr (Or.inr (Or.inl ⟨rfl, (fun z => by have z1 := m7.mp z; first | exact k13 z1.1 | exact k24 z1.2), (fun z => k42 (m5.mp z)), m6.mpr k60⟩))⟩ | exact ⟨_, rfl, rfl, Or.inr (Or.inr (Or.inr (Or.inl ⟨rfl, (fun z => by have z1 := m7.mp z; first | exact k13 z1.1 | exact k24 z1.2), (fun z => k42 (m5.mp z)), (fun z => k60 (m6.mp z)), m4.mpr k80⟩)))⟩ | exact ⟨_, rfl, rfl, Or.inr (Or.inr (Or.inr (Or.inr ⟨rfl, (fun z => by have z1 := m7.mp z; first | exact k13 z1.1 | exact k24 z1.2), (fun z => k42 (m5.mp z)), (fun z => k60 (m6.mp z)), (fun z => k80 (m4.mp z))⟩)))⟩)
          · have k80 := pI_ne c80
            refine g_iconst dX9_kindNow_83 (g_goto 89 dX9_kindNow_84 rfl ?_)
            exact g_iret dX9_kindNow_89 rfl rfl ⟨Nat.le_refl _, Nat.le_refl _⟩ (by first | exact ⟨_, rfl, rfl, Or.inl ⟨rfl, m7.mpr ⟨k13, k24⟩⟩⟩ | exact ⟨_, rfl, rfl, Or.inr (Or.inl ⟨rfl, (fun z => by have z1 := m7.mp z; first | exact k13 z1.1 | exact k24 z1.2), m5.mpr k42⟩)⟩ | exact ⟨_, rfl, rfl, Or.inr (Or.inr (Or.inl ⟨rfl, (fun z => by have z1 := m7.mp z; first | exact k13 z1.1 | exact k24 z1.2), (fun z => k42 (m5.mp z)), m6.mpr k60⟩))⟩ | exact ⟨_, rfl, rfl, Or.inr (Or.inr (Or.inr (Or.inl ⟨rfl, (fun z => by have z1 := m7.mp z; first | exact k13 z1.1 | exact k24 z1.2), (fun z => k42 (m5.mp z)), (fun z => k60 (m6.mp z)), m4.mpr k80⟩)))⟩ | exact ⟨_, rfl, rfl, Or.inr (Or.inr (Or.inr (Or.inr ⟨rfl, (fun z => by have z1 := m7.mp z; first | exact k13 z1.1 | exact k24 z1.2), (fun z => k42 (m5.mp z)), (fun z => k60 (m6.mp z)), (fun z => k80 (m4.mp z))⟩)))⟩)
        · have k60 := pI_ne c60
          refine g_iconst dX9_kindNow_63 (g_goto 89 dX9_kindNow_64 rfl ?_)
          exact g_iret dX9_kindNow_89 rfl rfl ⟨Nat.le_refl _, Nat.le_refl _⟩ (by first | exact ⟨_, rfl, rfl, Or.inl ⟨rfl, m7.mpr ⟨k13, k24⟩⟩⟩ | exact ⟨_, rfl, rfl, Or.inr (Or.inl ⟨rfl, (fun z => by have z1 := m7.mp z; first | exact k13 z1.1 | exact k24 z1.2), m5.mpr k42⟩)⟩ | exact ⟨_, rfl, rfl, Or.inr (Or.inr (Or.inl ⟨rfl, (fun z => by have z1 := m7.mp z; first | exact k13 z1.1 | exact k24 z1.2), (fun z => k42 (m5.mp z)), m6.mpr k60⟩))⟩ | exact ⟨_, rfl, rfl, Or.inr (Or.inr (Or.inr (Or.inl ⟨rfl, (fun z => by have z1 := m7.mp z; first | exact k13 z1.1 | exact k24 z1.2), (fun z => k42 (m5.mp z)), (fun z => k60 (m6.mp z)), m4.mpr k80⟩)))⟩ | exact ⟨_, rfl, rfl, Or.inr (Or.inr (Or.inr (Or.inr ⟨rfl, (fun z => by have z1 := m7.mp z; first | exact k13 z1.1 | exact k24 z1.2), (fun z => k42 (m5.mp z)), (fun z => k60 (m6.mp z)), (fun z => k80 (m4.mp z))⟩)))⟩)
      · have k42 := pI_ne c42
        refine g_iconst dX9_kindNow_45 ?_
        exact g_iret dX9_kindNow_46 rfl rfl ⟨Nat.le_refl _, Nat.le_refl _⟩ (by first | exact ⟨_, rfl, rfl, Or.inl ⟨rfl, m7.mpr ⟨k13, k24⟩⟩⟩ | exact ⟨_, rfl, rfl, Or.inr (Or.inl ⟨rfl, (fun z => by have z1 := m7.mp z; first | exact k13 z1.1 | exact k24 z1.2), m5.mpr k42⟩)⟩ | exact ⟨_, rfl, rfl, Or.inr (Or.inr (Or.inl ⟨rfl, (fun z => by have z1 := m7.mp z; first | exact k13 z1.1 | exact k24 z1.2), (fun z => k42 (m5.mp z)), m6.mpr k60⟩))⟩ | exact ⟨_, rfl, rfl, Or.inr (Or.inr (Or.inr (Or.inl ⟨rfl, (fun z => by have z1 := m7.mp z; first | exact k13 z1.1 | exact k24 z1.2), (fun z => k42 (m5.mp z)), (fun z => k60 (m6.mp z)), m4.mpr k80⟩)))⟩ | exact ⟨_, rfl, rfl, Or.inr (Or.inr (Or.inr (Or.inr ⟨rfl, (fun z => by have z1 := m7.mp z; first | exact k13 z1.1 | exact k24 z1.2), (fun z => k42 (m5.mp z)), (fun z => k60 (m6.mp z)), (fun z => k80 (m4.mp z))⟩)))⟩)
    · have k24 := pI_ne c24
      refine g_iconst dX9_kindNow_27 ?_
      exact g_iret dX9_kindNow_28 rfl rfl ⟨Nat.le_refl _, Nat.le_refl _⟩ (by first | exact ⟨_, rfl, rfl, Or.inl ⟨rfl, m7.mpr ⟨k13, k24⟩⟩⟩ | exact ⟨_, rfl, rfl, Or.inr (Or.inl ⟨rfl, (fun z => by have z1 := m7.mp z; first | exact k13 z1.1 | exact k24 z1.2), m5.mpr k42⟩)⟩ | exact ⟨_, rfl, rfl, Or.inr (Or.inr (Or.inl ⟨rfl, (fun z => by have z1 := m7.mp z; first | exact k13 z1.1 | exact k24 z1.2), (fun z => k42 (m5.mp z)), m6.mpr k60⟩))⟩ | exact ⟨_, rfl, rfl, Or.inr (Or.inr (Or.inr (Or.inl ⟨rfl, (fun z => by have z1 := m7.mp z; first | exact k13 z1.1 | exact k24 z1.2), (fun z => k42 (m5.mp z)), (fun z => k60 (m6.mp z)), m4.mpr k80⟩)))⟩ | exact ⟨_, rfl, rfl, Or.inr (Or.inr (Or.inr (Or.inr ⟨rfl, (fun z => by have z1 := m7.mp z; first | exact k13 z1.1 | exact k24 z1.2), (fun z => k42 (m5.mp z)), (fun z => k60 (m6.mp z)), (fun z => k80 (m4.mp z))⟩)))⟩)
theorem lkd {T : Nat → Int} {lo hi : Int} {P : PS} (h0 : P.fnd = 0) (ht : P.tok = 2) : ckS T lo hi P = (demS (lo ≤ nuV T (P.ten - P.tat).toNat P.tat ∧ nuV T (P.ten - P.tat).toNat P.tat ≤ hi) 3 P, nuV T (P.ten - P.tat).toNat P.tat) := by
  unfold ckS
  rw [demS_t ht, cnd_f (fun z => z h0)]
theorem lkd2 {T : Nat → Int} {lo hi : Int} {P : PS} (h0 : P.fnd = 0) (ht : ¬ P.tok = 2) : ckS T lo hi P = (demS (P.tok = 2) 2 P, 0) := by
  unfold ckS
  rw [cnd_t (by rw [demS_f ht h0]; show (2 : Int) ≠ 0; decide)]
theorem nu_bd {h : HM} {T : Nat → Int} {len : Int} {P : PS} (hS : TQ h T len P) (h0 : P.fnd = 0) (ht : P.tok = 2) : 0 ≤ nuV T (P.ten - P.tat).toNat P.tat ∧ nuV T (P.ten - P.tat).toNat P.tat ≤ 999 := by
  have hB := hS.2.2.1
  have q := (ckS_v (T := T) (lo := 0) (hi := 999) hB).2.1
  rw [lkd h0 ht] at q
  exact q
theorem pI_nz {P : Prop} : pI P ≠ 0 ↔ P := ⟨pI_ne, fun z => by rw [pI_t z]; decide⟩
set_option maxRecDepth 100000 in
set_option maxHeartbeats 1000000 in
theorem e_X9_looked {G : GX} {y : LY} {h : HM} {d : Nat} (hY : Lay y) {T : Nat → Int} {len : Int} {P : PS} (hS : TQ h T len P) {lo hi : Int} (hlo : R32 lo) (hhi : R32 hi) : EvQX G mX9_looked (d + 1) [.ref 150, .int (iZ lo), .int (iZ hi)] y h (fun v h1 => FrQ h h1 ∧ TQ h1 T len (ckS T lo hi P).1 ∧ ((ckS T lo hi P).1.fnd = 0 → v = (ckS T lo hi P).2) ∧ (0 ≤ v ∧ v ≤ 999)) := by
  have hf := hS.f
  have hbd := hS.b
  have hPB := hS.2.2.1
  refine Ev.of rfl [some (.ref 150), some (.int (iZ lo)), some (.int (iZ hi))] rfl (Nat.le_of_ble_eq_true rfl) ?_
  by_cases hA : P.fnd ≠ 0
  · skip
    refine g_aload_n dX9_looked_0 rfl rfl (gf_X9_75 (M := mX9_looked) rfl dX9_looked_1 (yo150 hY) ?_)
    refine g_if_ne 25 dX9_looked_4 rfl (by omega) (fun c4 => ?_) (fun c4 => absurd c4 (by omega))
    refine g_aload_n dX9_looked_25 rfl rfl (gf_X9_75 (M := mX9_looked) rfl dX9_looked_26 (yo150 hY) ?_)
    refine g_if_ne 49 dX9_looked_29 rfl (by omega) (fun c29 => ?_) (fun c29 => absurd c29 (by omega))
    refine g_aload_n dX9_looked_49 rfl rfl (gf_X9_75 (M := mX9_looked) rfl dX9_looked_50 (yo150 hY) ?_)
    refine g_if_ne 63 dX9_looked_53 rfl (by omega) (fun c53 => ?_) (fun c53 => absurd c53 (by omega))
    refine g_iconst dX9_looked_63 ?_
    exact g_iret dX9_looked_64 rfl rfl ⟨Nat.le_refl _, Nat.le_refl _⟩ (by exact ⟨0, rfl, FrQ.rf h, by rw [ckS_n hA]; exact hS, fun z => absurd z (by rw [ckS_n hA]; exact hA), by omega⟩)
  · have h0 : P.fnd = 0 := by omega
    by_cases hC : P.tok = 2
    · have nb := nu_bd hS h0 hC
      refine g_aload_n dX9_looked_0 rfl rfl (gf_X9_75 (M := mX9_looked) rfl dX9_looked_1 (yo150 hY) ?_)
      refine g_if_ne 25 dX9_looked_4 rfl (by omega) (fun c4 => absurd c4 (by omega)) (fun c4 => ?_)
      refine g_aload_n dX9_looked_7 rfl rfl (g_aload_n dX9_looked_8 rfl rfl (gf_X9_99 (M := mX9_looked) rfl dX9_looked_9 (yo150 hY) (g_iconst dX9_looked_12 ?_)))
      refine g_icmp_ne 20 dX9_looked_13 rfl (by omega) (by omega) (fun c13 => absurd c13 (by omega)) (fun c13 => ?_)
      refine g_iconst dX9_looked_16 (g_goto 21 dX9_looked_17 rfl (g_iconst dX9_looked_21 ?_))
      refine cv_X9_113 (M := mX9_looked) rfl dX9_looked_22 (yo150 hY) (RO.same _ _ _) (Nat.le_of_ble_eq_true rfl) (e_X9_needs hY (by omega) (by omega) (by omega)) (kQV fun h22 hq22 => ?_)
      have t22 := hS.dem hq22 (by omega) (B' := P.tok = 2) (by omega)
      rw [demS_t hC] at t22
      have f22 := t22.f
      have ev := t22.2.2.2 hC h0
      refine g_aload_n dX9_looked_25 rfl rfl (gf_X9_75 (M := mX9_looked) rfl dX9_looked_26 (yo150 hY) ?_)
      refine g_if_ne 49 dX9_looked_29 rfl (by omega) (fun c29 => absurd c29 (by omega)) (fun c29 => ?_)
      refine g_aload_n dX9_looked_32 rfl rfl (g_aload_n dX9_looked_33 rfl rfl (gf_X9_110 (M := mX9_looked) rfl dX9_looked_34 (yo150 hY) ?_))
      rw [ev]
      refine g_i2l dX9_looked_37 (by omega) (g_iload_n dX9_looked_38 rfl rfl (g_i2l dX9_looked_39 (by omega) (g_iload_n dX9_looked_40 rfl rfl (g_i2l dX9_looked_41 (by omega) (cv_X9_71 (M := mX9_looked) rfl dX9_looked_42 (RO.same _ _ _) (Nat.le_of_ble_eq_true rfl) (e_X9_in (by omega) (by omega) (by omega)) <| kI (g_iconst dX9_looked_45 ?_))))))
      refine cv_X9_113 (M := mX9_looked) rfl dX9_looked_46 (yo150 hY) (RO.same _ _ _) (Nat.le_of_ble_eq_true rfl) (e_X9_needs hY (pI_01 _) (by omega) (by omega)) (kQV fun h46 hq46 => ?_)
      have t46 := t22.dem hq46 (by omega) (B' := lo ≤ nuV T (P.ten - P.tat).toNat P.tat ∧ nuV T (P.ten - P.tat).toNat P.tat ≤ hi) pI_nz
      have f46 := t46.f
      have ev2 := hq46.2.1
      have b46 := t46.b
      refine g_aload_n dX9_looked_49 rfl rfl (gf_X9_75 (M := mX9_looked) rfl dX9_looked_50 (yo150 hY) ?_)
      refine g_if_ne 63 dX9_looked_53 rfl (by omega) (fun c53 => ?_) (fun c53 => ?_)
      · skip
        refine g_iconst dX9_looked_63 ?_
        exact g_iret dX9_looked_64 rfl rfl ⟨Nat.le_refl _, Nat.le_refl _⟩ (by first | (refine ⟨0, rfl, hq22.1.tr hq46.1, by rw [lkd h0 hC]; exact t46, fun z => ?_, by omega⟩; rw [lkd h0 hC] at z; exact absurd (show (demS (lo ≤ nuV T (P.ten - P.tat).toNat P.tat ∧ nuV T (P.ten - P.tat).toNat P.tat ≤ hi) 3 P).fnd = 0 from z) (by omega)) | exact ⟨_, rfl, hq22.1.tr hq46.1, by rw [lkd h0 hC]; exact t46, fun z => by rw [lkd h0 hC]; show h46.I 150 13 = nuV _ _ _; omega, by omega⟩)
      · skip
        refine g_aload_n dX9_looked_56 rfl rfl (gf_X9_110 (M := mX9_looked) rfl dX9_looked_57 (yo150 hY) (g_goto 64 dX9_looked_60 rfl ?_))
        exact g_iret dX9_looked_64 rfl rfl ⟨Nat.le_refl _, Nat.le_refl _⟩ (by first | (refine ⟨0, rfl, hq22.1.tr hq46.1, by rw [lkd h0 hC]; exact t46, fun z => ?_, by omega⟩; rw [lkd h0 hC] at z; exact absurd (show (demS (lo ≤ nuV T (P.ten - P.tat).toNat P.tat ∧ nuV T (P.ten - P.tat).toNat P.tat ≤ hi) 3 P).fnd = 0 from z) (by omega)) | exact ⟨_, rfl, hq22.1.tr hq46.1, by rw [lkd h0 hC]; exact t46, fun z => by rw [lkd h0 hC]; show h46.I 150 13 = nuV _ _ _; omega, by omega⟩)
    · skip
      refine g_aload_n dX9_looked_0 rfl rfl (gf_X9_75 (M := mX9_looked) rfl dX9_looked_1 (yo150 hY) ?_)
      refine g_if_ne 25 dX9_looked_4 rfl (by omega) (fun c4 => absurd c4 (by omega)) (fun c4 => ?_)
      refine g_aload_n dX9_looked_7 rfl rfl (g_aload_n dX9_looked_8 rfl rfl (gf_X9_99 (M := mX9_looked) rfl dX9_looked_9 (yo150 hY) (g_iconst dX9_looked_12 ?_)))
      refine g_icmp_ne 20 dX9_looked_13 rfl (by omega) (by omega) (fun c13 => ?_) (fun c13 => absurd c13 (by omega))
      refine g_iconst dX9_looked_20 (g_iconst dX9_looked_21 ?_)
      refine cv_X9_113 (M := mX9_looked) rfl dX9_looked_22 (yo150 hY) (RO.same _ _ _) (Nat.le_of_ble_eq_true rfl) (e_X9_needs hY (by omega) (by omega) (by omega)) (kQV fun h22 hq22 => ?_)
      have t22 := hS.dem hq22 (by omega) (B' := P.tok = 2) (by omega)
      have f22 := t22.f
      have d22 : (demS (P.tok = 2) 2 P).fnd = 2 := by rw [demS_f hC h0]; rfl
      refine g_aload_n dX9_looked_25 rfl rfl (gf_X9_75 (M := mX9_looked) rfl dX9_looked_26 (yo150 hY) ?_)
      refine g_if_ne 49 dX9_looked_29 rfl (by omega) (fun c29 => ?_) (fun c29 => absurd c29 (by omega))
      refine g_aload_n dX9_looked_49 rfl rfl (gf_X9_75 (M := mX9_looked) rfl dX9_looked_50 (yo150 hY) ?_)
      refine g_if_ne 63 dX9_looked_53 rfl (by omega) (fun c53 => ?_) (fun c53 => absurd c53 (by omega))
      refine g_iconst dX9_looked_63 ?_
      exact g_iret dX9_looked_64 rfl rfl ⟨Nat.le_refl _, Nat.le_refl _⟩ (by exact ⟨0, rfl, hq22.1, by rw [lkd2 h0 hC]; exact t22, fun z => absurd z (by rw [lkd2 h0 hC]; show (demS (P.tok = 2) 2 P).fnd ≠ 0; omega), by omega⟩)
set_option maxRecDepth 100000 in
set_option maxHeartbeats 1000000 in
theorem e_X9_readNumber {G : GX} {y : LY} {h : HM} {d : Nat} (hY : Lay y) {T : Nat → Int} {len : Int} {P : PS} (hS : TQ h T len P) {lo hi : Int} (hlo : R32 lo) (hhi : R32 hi) : EvQX G mX9_readNumber (d + 2) [.ref 150, .int (iZ lo), .int (iZ hi)] y h (fun v h1 => FrQ h h1 ∧ TQ h1 T len (advS T len (ckS T lo hi P).1) ∧ ((ckS T lo hi P).1.fnd = 0 → v = (ckS T lo hi P).2) ∧ (0 ≤ v ∧ v ≤ 999)) := by
  have hf := hS.f
  have hbd := hS.b
  have hPB := hS.2.2.1
  refine Ev.of rfl [some (.ref 150), some (.int (iZ lo)), some (.int (iZ hi)), none] rfl (Nat.le_of_ble_eq_true rfl) ?_
  refine g_aload_n dX9_readNumber_0 rfl rfl (g_iload_n dX9_readNumber_1 rfl rfl (g_iload_n dX9_readNumber_2 rfl rfl ?_))
  refine cv_X9_117 (M := mX9_readNumber) rfl dX9_readNumber_3 (yo150 hY) (RO.same _ _ _) (Nat.le_of_ble_eq_true rfl) (e_X9_looked hY hS hlo hhi) (kQX fun v3 h3 hq3 => ?_)
  refine g_ist3 dX9_readNumber_6 (by decide) rfl (g_aload_n dX9_readNumber_7 rfl rfl ?_)
  refine cv_X9_121 (M := mX9_readNumber) rfl dX9_readNumber_8 (yo150 hY) (RO.same _ _ _) (Nat.le_of_ble_eq_true rfl) (e_X9_next1 hY hq3.2.1) (kQV fun h8 hq8 => ?_)
  refine g_iload_n dX9_readNumber_11 rfl rfl ?_
  exact g_iret dX9_readNumber_12 rfl rfl ⟨Nat.le_refl _, Nat.le_refl _⟩ (by exact ⟨v3, rfl, hq3.1.tr hq8.1, hq8.2, hq3.2.2.1, hq3.2.2.2⟩)
