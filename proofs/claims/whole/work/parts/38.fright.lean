theorem cntN_bd {P : Int → Prop} {lo : Int} : ∀ n : Nat, 0 ≤ cntN P lo n ∧ cntN P lo n ≤ n
  | 0 => ⟨Int.le_refl _, Int.le_refl _⟩
  | n + 1 => by
    have := cntN_bd (P := P) (lo := lo) n
    have := pI_01 (P (lo + n))
    rw [cntN]; push_cast; omega
/-- on the day something stands near the door -/
def FrgP (h : HM) (p : Nat) (t : Int) : Prop := iAnd (drs (dOut h 12 t) (dDor h 12 t) (h.I 12 3).toNat : Nat) (nearB p (h.I 12 9)) ≠ 0
def Fr85 (h h1 : HM) : Prop := ∀ a, a ≠ 85 → h1.I a = h.I a ∧ h1.L a = h.L a
theorem Fr85.I {h h1 : HM} (hf : Fr85 h h1) {a : Nat} (ha : a ≠ 85) (j : Nat) : h1.I a j = h.I a j := by rw [(hf a ha).1]
theorem Fr85.s {h h1 : HM} (hf : Fr85 h h1) (j : Nat) (v : Int) : Fr85 h (h1.sI 85 j v) := fun a ha => ⟨by funext i; rw [sI_I, if_neg (fun z => ha z.1), hf.I ha], (hf a ha).2⟩
theorem Fr85.CF {h h1 : HM} (hf : Fr85 h h1) (hC : CF h 12) : CF h1 12 := CF_eq (hf.I (by omega) 3) (fun i i0 i1 j => hf.I (by have := hC.1; omega) j) hC
theorem drs_congr {O O' : Nat → Prop} {D D' : Nat → Int} : ∀ n : Nat, (∀ i, i < n → (O i ↔ O' i) ∧ D i = D' i) → drs O D n = drs O' D' n
  | 0, _ => rfl
  | n + 1, h => by
    have e := drs_congr n (fun i hi => h i (by omega))
    have q := h n (by omega)
    unfold drs
    rw [e, q.2]
    by_cases z : O n
    · rw [if_pos z, if_pos (q.1.mp z)]
    · rw [if_neg z, if_neg (fun w => z (q.1.mpr w))]
theorem Fr85.drs {h h1 : HM} (hf : Fr85 h h1) (hn : h.I 12 3 ≤ 6) (t : Int) : drs (dOut h1 12 t) (dDor h1 12 t) (h1.I 12 3).toNat = drs (dOut h 12 t) (dDor h 12 t) (h.I 12 3).toNat := by
  rw [hf.I (by omega) 3]
  refine drs_congr _ (fun i hi => ?_)
  have n : 12 + 4 + i ≠ 85 := by omega
  unfold dOut dDor
  rw [hf.I n, hf.I n, hf.I n, hf.I n, hf.I n, hf.I (by omega), hf.I (by omega), hf.I (by omega)]
  exact ⟨Iff.rfl, rfl⟩
