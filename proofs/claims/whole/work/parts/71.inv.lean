/-! what binds the two halves -/
def cVs (h : HM) (c : Nat) : Nat → Fg := fun i => c5 h (c + 10 + i)
def RGf (g : Nat → Int) (f : Int) (X : Fg) : Prop := g (1 + 6 * f + 0).toNat = kdR X ∧ g (1 + 6 * f + 1).toNat = X.te ∧ g (1 + 6 * f + 2).toNat = X.st ∧ g (1 + 6 * f + 3).toNat = X.dr ∧ g (1 + 6 * f + 4).toNat = laR X ∧ g (1 + 6 * f + 5).toNat = gaR X
def RGv (g : Nat → Int) (i : Int) (V : Fg) : Prop := g (38 + 5 * i).toNat = V.1 ∧ g (38 + 5 * i + 1).toNat = V.2.1 ∧ g (38 + 5 * i + 2).toNat = V.2.2.1 ∧ g (38 + 5 * i + 3).toNat = V.2.2.2.1 ∧ g (38 + 5 * i + 4).toNat = V.2.2.2.2
def RGs (g : Nat → Int) (i : Int) (S : Sg) : Prop := g (72 + 3 * i).toNat = S.1 ∧ g (72 + 3 * i + 1).toNat = S.2.1 ∧ g (72 + 3 * i + 2).toNat = S.2.2
/-- the row g tells of the clock c -/
def StR (g : Nat → Int) (h : HM) (c : Nat) : Prop := (g 0 = h.I c 3 ∧ ∀ i : Int, 0 ≤ i → i < h.I c 3 → RGf g i (cFs h c i.toNat)) ∧ (g 37 = h.I c 4 ∧ ∀ i : Int, 0 ≤ i → i < h.I c 4 → RGv g i (cVs h c i.toNat)) ∧ (g 71 = h.I c 5 ∧ ∀ i : Int, 0 ≤ i → i < h.I c 5 → RGs g i (cSs h c i.toNat)) ∧ (g 68 = h.I c 6 ∧ g 69 = h.I c 7 ∧ g 70 = h.I c 8)
/-- a clock's bounds -/
def CkW (h : HM) (c : Nat) : Prop := ((0 ≤ h.I c 3 ∧ h.I c 3 ≤ 6) ∧ ∀ i : Int, 0 ≤ i → i < h.I c 3 → FgB (cFs h c i.toNat)) ∧ ((0 ≤ h.I c 4 ∧ h.I c 4 ≤ 6) ∧ ∀ i : Int, 0 ≤ i → i < h.I c 4 → VoB (cVs h c i.toNat) ∧ (cVs h c i.toNat).2.1 < h.I c 3) ∧ ((0 ≤ h.I c 5 ∧ h.I c 5 ≤ 12) ∧ ∀ i : Int, 0 ≤ i → i < h.I c 5 → SgB (cSs h c i.toNat)) ∧ ((-4 ≤ h.I c 6 ∧ h.I c 6 ≤ 8) ∧ (-4 ≤ h.I c 7 ∧ h.I c 7 ≤ 365) ∧ (-4 ≤ h.I c 8 ∧ h.I c 8 ≤ 365)) ∧ (0 ≤ h.I c 9 ∧ h.I c 9 ≤ 3)
theorem CkW.F {h : HM} {c : Nat} (w : CkW h c) : CF h c := ⟨w.1.1, fun i i0 i1 => (w.1.2 i i0 i1)⟩
theorem CkW.S {h : HM} {c : Nat} (w : CkW h c) : CS_ h c := ⟨w.2.2.1.1, fun i i0 i1 => (w.2.2.1.2 i i0 i1)⟩
theorem CkW.V {h : HM} {c : Nat} (w : CkW h c) : CV h c := ⟨w.2.1.1, fun i i0 i1 => (w.2.1.2 i i0 i1).1.2.1⟩
theorem CkW.B {h : HM} {c : Nat} (w : CkW h c) : CkB h c := ⟨w.1.1, w.2.1.1, w.2.2.1.1, fun i i0 i1 => (w.2.2.1.2 i i0 i1).2.2⟩
/-- the row of an image -/
def rwI (h : HM) (o : Nat) : Nat → Int := fun j => h.I 151 (o + j)
theorem rwI_0 (h : HM) : rwI h 0 = h.I 151 := by funext j; unfold rwI; rw [Nat.zero_add]
def Inv (h : HM) : Prop := (CkW h 12) ∧ (StR (h.I 151) h 12) ∧ (h.I 150 2 = h.I 12 9) ∧ (∀ k : Nat, k < 2 → h.I 152 k = h.I 69 k ∧ (h.I 69 k = 0 ∨ h.I 69 k = 1)) ∧ (∀ k : Nat, k < 2 → h.I 69 k = 1 → CkW h (86 + 28 * k) ∧ StR (rwI h (108 * (k + 1))) h (86 + 28 * k) ∧ h.I (86 + 28 * k) 9 = h.I 12 9) ∧ (∀ k : Nat, k < 4 → ShR h k (h.I (142 + 2 * k) 1) (h.I (142 + 2 * k) 2) ∧ (-1 ≤ h.I (142 + 2 * k) 2) ∧ (0 ≤ h.I (142 + 2 * k) 1 ∧ h.I (142 + 2 * k) 1 ≤ 2)) ∧ (∀ k j : Nat, k < 4 → j < 40 → h.I 160 (40 * k + j) = h.I (143 + 2 * k) j ∧ R32 (h.I (143 + 2 * k) j)) ∧ (h.I 150 9 = h.I 10 1 ∧ (0 ≤ h.I 10 1 ∧ h.I 10 1 ≤ 400)) ∧ (∀ j : Nat, h.I 154 j = h.I 11 j ∧ (0 ≤ h.I 11 j ∧ h.I 11 j ≤ 255)) ∧ (h.I 150 14 = h.I 9 11 ∧ (0 ≤ h.I 9 11 ∧ h.I 9 11 ≤ 6)) ∧ (h.I 150 26 = h.I 9 12 ∧ (0 ≤ h.I 9 12 ∧ h.I 9 12 ≤ 3))
theorem Inv.cw {h : HM} (v : Inv h) : CkW h 12 := v.1
theorem Inv.st {h : HM} (v : Inv h) : StR (h.I 151) h 12 := v.2.1
theorem Inv.rc {h : HM} (v : Inv h) : h.I 150 2 = h.I 12 9 := v.2.2.1
theorem Inv.kp {h : HM} (v : Inv h) : ∀ k : Nat, k < 2 → h.I 152 k = h.I 69 k ∧ (h.I 69 k = 0 ∨ h.I 69 k = 1) := v.2.2.2.1
theorem Inv.im {h : HM} (v : Inv h) : ∀ k : Nat, k < 2 → h.I 69 k = 1 → CkW h (86 + 28 * k) ∧ StR (rwI h (108 * (k + 1))) h (86 + 28 * k) ∧ h.I (86 + 28 * k) 9 = h.I 12 9 := v.2.2.2.2.1
theorem Inv.sh {h : HM} (v : Inv h) : ∀ k : Nat, k < 4 → ShR h k (h.I (142 + 2 * k) 1) (h.I (142 + 2 * k) 2) ∧ (-1 ≤ h.I (142 + 2 * k) 2) ∧ (0 ≤ h.I (142 + 2 * k) 1 ∧ h.I (142 + 2 * k) 1 ≤ 2) := v.2.2.2.2.2.1
theorem Inv.ce {h : HM} (v : Inv h) : ∀ k j : Nat, k < 4 → j < 40 → h.I 160 (40 * k + j) = h.I (143 + 2 * k) j ∧ R32 (h.I (143 + 2 * k) j) := v.2.2.2.2.2.2.1
theorem Inv.tl {h : HM} (v : Inv h) : h.I 150 9 = h.I 10 1 ∧ (0 ≤ h.I 10 1 ∧ h.I 10 1 ≤ 400) := v.2.2.2.2.2.2.2.1
theorem Inv.tp {h : HM} (v : Inv h) : ∀ j : Nat, h.I 154 j = h.I 11 j ∧ (0 ≤ h.I 11 j ∧ h.I 11 j ≤ 255) := v.2.2.2.2.2.2.2.2.1
theorem Inv.fa {h : HM} (v : Inv h) : h.I 150 14 = h.I 9 11 ∧ (0 ≤ h.I 9 11 ∧ h.I 9 11 ≤ 6) := v.2.2.2.2.2.2.2.2.2.1
theorem Inv.to {h : HM} (v : Inv h) : h.I 150 26 = h.I 9 12 ∧ (0 ≤ h.I 9 12 ∧ h.I 9 12 ≤ 3) := v.2.2.2.2.2.2.2.2.2.2
/-- what the invariant looks at -/
def Sees (a j : Nat) : Prop := (a = 9 ∧ (j = 11 ∨ j = 12)) ∨ (a = 10 ∧ j = 1) ∨ a = 11 ∨ (12 ≤ a ∧ a < 40) ∨ a = 69 ∨ (86 ≤ a ∧ a < 150) ∨ (a = 150 ∧ (j = 2 ∨ j = 9 ∨ j = 14 ∨ j = 26)) ∨ a = 151 ∨ a = 152 ∨ a = 154 ∨ a = 158 ∨ a = 159 ∨ a = 160
theorem ck_eq {h h1 : HM} {c : Nat} (e : ∀ a j : Nat, c ≤ a → a < c + 28 → h1.I a j = h.I a j) (hw : CkW h c) : CkW h1 c ∧ ∀ g, StR g h c → StR g h1 c := by
  have e0 : ∀ j, h1.I c j = h.I c j := fun j => e c j (by omega) (by omega)
  have n3 := hw.1.1; have n4 := hw.2.1.1; have n5 := hw.2.2.1.1
  have f : ∀ i : Int, 0 ≤ i → i < h.I c 3 → cFs h1 c i.toNat = cFs h c i.toNat := fun i i0 i1 => c5_eq (fun j => e _ j (by omega) (by omega))
  have v : ∀ i : Int, 0 ≤ i → i < h.I c 4 → cVs h1 c i.toNat = cVs h c i.toNat := fun i i0 i1 => c5_eq (fun j => e _ j (by omega) (by omega))
  have s : ∀ i : Int, 0 ≤ i → i < h.I c 5 → cSs h1 c i.toNat = cSs h c i.toNat := fun i i0 i1 => by
    unfold cSs; rw [e _ _ (by omega) (by omega), e _ _ (by omega) (by omega), e _ _ (by omega) (by omega)]
  constructor
  · unfold CkW
    rw [e0, e0, e0, e0, e0, e0, e0]
    exact ⟨⟨n3, fun i i0 i1 => by rw [f i i0 i1]; exact hw.1.2 i i0 i1⟩, ⟨n4, fun i i0 i1 => by rw [v i i0 i1]; exact hw.2.1.2 i i0 i1⟩, ⟨n5, fun i i0 i1 => by rw [s i i0 i1]; exact hw.2.2.1.2 i i0 i1⟩, hw.2.2.2⟩
  · intro g hg
    unfold StR
    rw [e0, e0, e0, e0, e0, e0]
    exact ⟨⟨hg.1.1, fun i i0 i1 => by rw [f i i0 i1]; exact hg.1.2 i i0 i1⟩, ⟨hg.2.1.1, fun i i0 i1 => by rw [v i i0 i1]; exact hg.2.1.2 i i0 i1⟩, ⟨hg.2.2.1.1, fun i i0 i1 => by rw [s i i0 i1]; exact hg.2.2.1.2 i i0 i1⟩, hg.2.2.2⟩
theorem Inv.fr {h h1 : HM} (v : Inv h) (e : ∀ a j : Nat, Sees a j → h1.I a j = h.I a j) : Inv h1 := by
  have r : ∀ a : Nat, (a = 11 ∨ (12 ≤ a ∧ a < 40) ∨ a = 69 ∨ (86 ≤ a ∧ a < 150) ∨ a = 151 ∨ a = 152 ∨ a = 154 ∨ a = 158 ∨ a = 159 ∨ a = 160) → ∀ j, h1.I a j = h.I a j := fun a q j => e a j (by unfold Sees; omega)
  have r151 : h1.I 151 = h.I 151 := funext (r 151 (by omega))
  have rw_ : ∀ o, rwI h1 o = rwI h o := fun o => by unfold rwI; rw [r151]
  have c12 := ck_eq (h1 := h1) (c := 12) (fun a j a0 a1 => r a (by omega) j) v.cw
  refine ⟨c12.1, ?_, ?_, fun k hk => ?_, fun k hk hz => ?_, fun k hk => ?_, fun k j hk hj => ?_, ?_, fun j => ?_, ?_, ?_⟩
  · rw [r151]; exact c12.2 _ v.st
  · rw [e 150 2 (by unfold Sees; omega), r 12 (by omega)]; exact v.rc
  · rw [r 152 (by omega), r 69 (by omega)]; exact v.kp k hk
  · rw [r 69 (by omega)] at hz
    have q := v.im k hk hz
    have ck := ck_eq (h1 := h1) (c := 86 + 28 * k) (fun a j a0 a1 => r a (by omega) j) q.1
    rw [rw_, r _ (by omega), r 12 (by omega)]
    exact ⟨ck.1, ck.2 _ q.2.1, q.2.2⟩
  · have q := v.sh k hk
    unfold ShR at q ⊢
    rw [r 158 (by omega), r 159 (by omega), r _ (by omega), r _ (by omega)]; exact q
  · rw [r 160 (by omega), r _ (by omega)]; exact v.ce k j hk hj
  · rw [e 150 9 (by unfold Sees; omega), e 10 1 (by unfold Sees; omega)]; exact v.tl
  · rw [r 154 (by omega), r 11 (by omega)]; exact v.tp j
  · rw [e 150 14 (by unfold Sees; omega), e 9 11 (by unfold Sees; omega)]; exact v.fa
  · rw [e 150 26 (by unfold Sees; omega), e 9 12 (by unfold Sees; omega)]; exact v.to
theorem Inv.rf {h : HM} (v : Inv h) : RF h (cFs h 12) := by
  have e := v.st.1.1
  have n := v.cw.1.1
  refine ⟨by rw [e]; exact n, fun i i0 i1 => ?_⟩
  rw [e] at i1
  exact ⟨v.st.1.2 i i0 i1, v.cw.1.2 i i0 i1⟩
theorem Inv.rv {h : HM} (v : Inv h) : RV h (cVs h 12) := by
  have e := v.st.2.1.1
  have e0 := v.st.1.1
  have n := v.cw.2.1.1
  refine ⟨by rw [e]; exact n, fun i i0 i1 => ?_⟩
  rw [e] at i1
  rw [e0]
  exact ⟨v.st.2.1.2 i i0 i1, v.cw.2.1.2 i i0 i1⟩
theorem Inv.rs {h : HM} (v : Inv h) : RS h (cSs h 12) := by
  have e := v.st.2.2.1.1
  have n := v.cw.2.2.1.1
  refine ⟨by rw [e]; exact n, fun i i0 i1 => ?_⟩
  rw [e] at i1
  exact ⟨v.st.2.2.1.2 i i0 i1, v.cw.2.2.1.2 i i0 i1⟩
