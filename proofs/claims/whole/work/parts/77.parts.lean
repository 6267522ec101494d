/-! the parts of the invariant, each with what it sees -/
def IvC (h : HM) : Prop := CkW h 12 ∧ StR (h.I 151) h 12 ∧ h.I 150 2 = h.I 12 9
def IvK (h : HM) : Prop := (∀ k : Nat, k < 2 → h.I 152 k = h.I 69 k ∧ (h.I 69 k = 0 ∨ h.I 69 k = 1)) ∧ ∀ k : Nat, k < 2 → h.I 69 k = 1 → CkW h (86 + 28 * k) ∧ StR (rwI h (108 * (k + 1))) h (86 + 28 * k) ∧ h.I (86 + 28 * k) 9 = h.I 12 9
def IvS (h : HM) : Prop := (∀ k : Nat, k < 4 → ShR h k (h.I (142 + 2 * k) 1) (h.I (142 + 2 * k) 2) ∧ (-1 ≤ h.I (142 + 2 * k) 2) ∧ (0 ≤ h.I (142 + 2 * k) 1 ∧ h.I (142 + 2 * k) 1 ≤ 2)) ∧ ∀ k j : Nat, k < 4 → j < 40 → h.I 160 (40 * k + j) = h.I (143 + 2 * k) j ∧ R32 (h.I (143 + 2 * k) j)
def IvT (h : HM) : Prop := (h.I 150 9 = h.I 10 1 ∧ (0 ≤ h.I 10 1 ∧ h.I 10 1 ≤ 400)) ∧ ∀ j : Nat, h.I 154 j = h.I 11 j ∧ (0 ≤ h.I 11 j ∧ h.I 11 j ≤ 255)
def IvF (h : HM) : Prop := (h.I 150 14 = h.I 9 11 ∧ (0 ≤ h.I 9 11 ∧ h.I 9 11 ≤ 6)) ∧ (h.I 150 26 = h.I 9 12 ∧ (0 ≤ h.I 9 12 ∧ h.I 9 12 ≤ 3))
theorem Inv.of {h : HM} (c : IvC h) (k : IvK h) (s : IvS h) (t : IvT h) (f : IvF h) : Inv h := ⟨c.1, c.2.1, c.2.2, k.1, k.2, s.1, s.2, t.1, t.2, f.1, f.2⟩
theorem Inv.vC {h : HM} (v : Inv h) : IvC h := ⟨v.cw, v.st, v.rc⟩
theorem Inv.vK {h : HM} (v : Inv h) : IvK h := ⟨v.kp, v.im⟩
theorem Inv.vS {h : HM} (v : Inv h) : IvS h := ⟨v.sh, v.ce⟩
theorem Inv.vT {h : HM} (v : Inv h) : IvT h := ⟨v.tl, v.tp⟩
theorem Inv.vF {h : HM} (v : Inv h) : IvF h := ⟨v.fa, v.to⟩
theorem IvF.fr {h h1 : HM} (v : IvF h) (e : ∀ a j : Nat, (a = 9 ∧ (j = 11 ∨ j = 12)) ∨ (a = 150 ∧ (j = 14 ∨ j = 26)) → h1.I a j = h.I a j) : IvF h1 := by
  unfold IvF
  rw [e 150 14 (by omega), e 150 26 (by omega), e 9 11 (by omega), e 9 12 (by omega)]; exact v
theorem IvT.fr {h h1 : HM} (v : IvT h) (e : ∀ a j : Nat, (a = 10 ∧ j = 1) ∨ a = 11 ∨ a = 154 ∨ (a = 150 ∧ j = 9) → h1.I a j = h.I a j) : IvT h1 := by
  unfold IvT
  rw [e 150 9 (by omega), e 10 1 (by omega)]
  exact ⟨v.1, fun j => by rw [e 154 j (by omega), e 11 j (by omega)]; exact v.2 j⟩
theorem IvS.fr {h h1 : HM} (v : IvS h) (e : ∀ a j : Nat, (142 ≤ a ∧ a < 150) ∨ (158 ≤ a ∧ a ≤ 160) → h1.I a j = h.I a j) : IvS h1 := by
  refine ⟨fun k hk => ?_, fun k j hk hj => ?_⟩
  · have q := v.1 k hk
    unfold ShR at q ⊢
    rw [e 158 _ (by omega), e 159 _ (by omega), e _ _ (by omega), e _ _ (by omega)]; exact q
  · rw [e 160 _ (by omega), e _ _ (by omega)]; exact v.2 k j hk hj
theorem IvK.fr {h h1 : HM} (v : IvK h) (e : ∀ a j : Nat, a = 69 ∨ a = 152 ∨ (86 ≤ a ∧ a < 142) ∨ (a = 151 ∧ 108 ≤ j) ∨ (a = 12 ∧ j = 9) → h1.I a j = h.I a j) : IvK h1 := by
  have rw_ : ∀ k : Nat, rwI h1 (108 * (k + 1)) = rwI h (108 * (k + 1)) := fun k => by funext j; unfold rwI; exact e 151 _ (by omega)
  refine ⟨fun k hk => ?_, fun k hk hz => ?_⟩
  · rw [e 152 _ (by omega), e 69 _ (by omega)]; exact v.1 k hk
  · rw [e 69 _ (by omega)] at hz
    have q := v.2 k hk hz
    have ck := ck_eq (h1 := h1) (c := 86 + 28 * k) (fun a j a0 a1 => e a j (by omega)) q.1
    rw [rw_, e _ 9 (by omega), e 12 9 (by omega)]
    exact ⟨ck.1, ck.2 _ q.2.1, q.2.2⟩
