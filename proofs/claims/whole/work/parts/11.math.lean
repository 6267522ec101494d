section MathRules
variable {G : GX} {M : MI} {R : Room} {Z : ZT} {y : LY} {pc : Nat} {ls : List (Option Value)} {st : List Value} {h : HM} {cs : Nat × Nat}
def RM (R : Room) (cs : Nat × Nat) : Prop := 1 ≤ R.frames ∧ 64 ≤ R.locals ∧ cs.1 ≤ R.cells ∧ cs.2 ≤ R.slots
theorem RM.same (d mc ms : Nat) : RM (rmo (d + 1) mc ms) (0, 0) := ⟨by simp [rmo], by simp only [rmo]; omega, Nat.zero_le _, Nat.zero_le _⟩
theorem mx_i {a b : Int} (ha : R32 a) (hb : R32 b) : (if iZ a < iZ b then iZ b else iZ a) = iZ (max a b) := by
  simp only [iZ_lt ha hb]; split <;> congr 1 <;> omega
theorem mx_l {a b : Int} (ha : R64 a) (hb : R64 b) : (if lZ b < lZ a then lZ a else lZ b) = lZ (max a b) := by
  simp only [lZ_lt hb ha]; split <;> congr 1 <;> omega
theorem g_mmax {own : String} {index : Nat} (hM : M.1.cls = own) (w1 : Cond.methodLink own index Lib.Math.max.name ∈ TB) (w2 : Cond.static Lib.Math.max.name ∈ TB) (w3 : Cond.initialized "java/lang/Math" ∈ TB) (w4 : Cond.code Lib.Math.max.name Lib.Math.max.code 2 (some .int) ∈ TB) (hd : decode M.2.1 pc = .ok (.invokestatic index, 3)) {a b : Int} (hR : RM R cs) (hst : (st.map fun v => v.category).sum ≤ 8) (ha : R32 a) (hb : R32 b)
    (k : Go G M R Z y (pc + 3) ls (.int (iZ (max a b)) :: st) h cs) : Go G M R Z y pc ls (.int (iZ b) :: .int (iZ a) :: st) h cs := by
  intro p e s m args below meth c H locs la C hh hS hl
  have hts := C.2.2.2.2.2.2.1
  have k1 := k p e s m args below meth c H locs la C hh hS hl
  rw [← mx_i ha hb] at k1
  exact va_mmax C.1 C.2.1 (C.2.2.2.1.trans hl.1.symm) (hM ▸ C.2.2.2.2.1) (hts _ w1) (hts _ w2) (hts _ w3) (hts _ w4) hR.1 (by have := cat8 (G := G) hst; have := hR.2.1; omega) hR.2.2.1 hR.2.2.2 hd k1
theorem g_mmaxL {own : String} {index : Nat} (hM : M.1.cls = own) (w1 : Cond.methodLink own index Lib.MathLoose.max_long.x ∈ TB) (w2 : Cond.static Lib.MathLoose.max_long.x ∈ TB) (w3 : Cond.initialized "java/lang/Math" ∈ TB) (w4 : Cond.code Lib.MathLoose.max_long.x Lib.MathLoose.max_long.code 4 (some .long) ∈ TB) (hd : decode M.2.1 pc = .ok (.invokestatic index, 3)) {a b : Int} (hR : RM R cs) (hst : (st.map fun v => v.category).sum ≤ 8) (ha : R64 a) (hb : R64 b)
    (k : Go G M R Z y (pc + 3) ls (.long (lZ (max a b)) :: st) h cs) : Go G M R Z y pc ls (.long (lZ b) :: .long (lZ a) :: st) h cs := by
  intro p e s m args below meth c H locs la C hh hS hl
  have hts := C.2.2.2.2.2.2.1
  have k1 := k p e s m args below meth c H locs la C hh hS hl
  rw [← mx_l ha hb] at k1
  exact va_mmax_long C.1 C.2.1 (C.2.2.2.1.trans hl.1.symm) (hM ▸ C.2.2.2.2.1) (hts _ w1) (hts _ w2) (hts _ w3) (hts _ w4) hR.1 (by have := cat8 (G := G) hst; have := hR.2.1; omega) hR.2.2.1 hR.2.2.2 hd k1
theorem mn_i {a b : Int} (ha : R32 a) (hb : R32 b) : (if iZ b < iZ a then iZ b else iZ a) = iZ (min a b) := by
  simp only [iZ_lt hb ha]; split <;> congr 1 <;> omega
theorem g_mmin {own : String} {index : Nat} (hM : M.1.cls = own) (w1 : Cond.methodLink own index Lib.Math.min.name ∈ TB) (w2 : Cond.static Lib.Math.min.name ∈ TB) (w3 : Cond.initialized "java/lang/Math" ∈ TB) (w4 : Cond.code Lib.Math.min.name Lib.Math.min.code 2 (some .int) ∈ TB) (hd : decode M.2.1 pc = .ok (.invokestatic index, 3)) {a b : Int} (hR : RM R cs) (hst : (st.map fun v => v.category).sum ≤ 8) (ha : R32 a) (hb : R32 b)
    (k : Go G M R Z y (pc + 3) ls (.int (iZ (min a b)) :: st) h cs) : Go G M R Z y pc ls (.int (iZ b) :: .int (iZ a) :: st) h cs := by
  intro p e s m args below meth c H locs la C hh hS hl
  have hts := C.2.2.2.2.2.2.1
  have k1 := k p e s m args below meth c H locs la C hh hS hl
  rw [← mn_i ha hb] at k1
  exact va_mmin C.1 C.2.1 (C.2.2.2.1.trans hl.1.symm) (hM ▸ C.2.2.2.2.1) (hts _ w1) (hts _ w2) (hts _ w3) (hts _ w4) hR.1 (by have := cat8 (G := G) hst; have := hR.2.1; omega) hR.2.2.1 hR.2.2.2 hd k1
theorem gm_X8_347 (hM : M.1.cls = RX8) (hd : decode M.2.1 pc = .ok (.invokestatic 347, 3)) {a b : Int} (hR : RM R cs) (hst : (st.map fun v => v.category).sum ≤ 8) (ha : R32 a) (hb : R32 b) (k : Go G M R Z y (pc + 3) ls (.int (iZ (max a b)) :: st) h cs) : Go G M R Z y pc ls (.int (iZ b) :: .int (iZ a) :: st) h cs := g_mmax hM w823 w533 w15 w534 hd hR hst ha hb k
theorem gm_X8_352 (hM : M.1.cls = RX8) (hd : decode M.2.1 pc = .ok (.invokestatic 352, 3)) {a b : Int} (hR : RM R cs) (hst : (st.map fun v => v.category).sum ≤ 8) (ha : R32 a) (hb : R32 b) (k : Go G M R Z y (pc + 3) ls (.int (iZ (min a b)) :: st) h cs) : Go G M R Z y pc ls (.int (iZ b) :: .int (iZ a) :: st) h cs := g_mmin hM w824 w825 w15 w826 hd hR hst ha hb k
theorem gm_X8_359 (hM : M.1.cls = RX8) (hd : decode M.2.1 pc = .ok (.invokestatic 359, 3)) {a b : Int} (hR : RM R cs) (hst : (st.map fun v => v.category).sum ≤ 8) (ha : R64 a) (hb : R64 b) (k : Go G M R Z y (pc + 3) ls (.long (lZ (max a b)) :: st) h cs) : Go G M R Z y pc ls (.long (lZ b) :: .long (lZ a) :: st) h cs := g_mmaxL hM w556 w557 w15 w558 hd hR hst ha hb k
theorem gm_X1_27 (hM : M.1.cls = RX1) (hd : decode M.2.1 pc = .ok (.invokestatic 27, 3)) {a b : Int} (hR : RM R cs) (hst : (st.map fun v => v.category).sum ≤ 8) (ha : R32 a) (hb : R32 b) (k : Go G M R Z y (pc + 3) ls (.int (iZ (max a b)) :: st) h cs) : Go G M R Z y pc ls (.int (iZ b) :: .int (iZ a) :: st) h cs := g_mmax hM w532 w533 w15 w534 hd hR hst ha hb k
theorem gm_X2_87 (hM : M.1.cls = RX2) (hd : decode M.2.1 pc = .ok (.invokestatic 87, 3)) {a b : Int} (hR : RM R cs) (hst : (st.map fun v => v.category).sum ≤ 8) (ha : R64 a) (hb : R64 b) (k : Go G M R Z y (pc + 3) ls (.long (lZ (max a b)) :: st) h cs) : Go G M R Z y pc ls (.long (lZ b) :: .long (lZ a) :: st) h cs := g_mmaxL hM w607 w557 w15 w558 hd hR hst ha hb k
end MathRules
