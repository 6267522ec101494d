/-! lines, in the reference: the draft -/
def FrD (h h1 : HM) : Prop := h1.L = h.L ∧ ∀ a j : Nat, a ≠ 153 → (a ≠ 150 ∨ j < 4 ∨ j = 8 ∨ j = 9 ∨ 16 ≤ j) → h1.I a j = h.I a j
theorem FrD.rf (h : HM) : FrD h h := ⟨rfl, fun _ _ _ _ => rfl⟩
theorem FrD.tr {h h1 h2 : HM} (a : FrD h h1) (b : FrD h1 h2) : FrD h h2 := ⟨b.1.trans a.1, fun x j q z => (b.2 x j q z).trans (a.2 x j q z)⟩
theorem FrQ.d {h h1 : HM} (f : FrQ h h1) : FrD h h1 := ⟨f.1, fun a j q z => f.2 a j (by omega)⟩
theorem FrD.s {h h1 : HM} (f : FrD h h1) (j : Nat) (v : Int) : FrD h (h1.sI 153 j v) := ⟨f.1, fun x k q z => by rw [sI_I, if_neg (by omega)]; exact f.2 x k q z⟩
theorem FrD.s0 {h h1 : HM} (f : FrD h h1) {j : Nat} (hj : 4 ≤ j ∧ j ≤ 7) (v : Int) : FrD h (h1.sI 150 j v) := ⟨f.1, fun x k q z => by rw [sI_I, if_neg (by omega)]; exact f.2 x k q z⟩
theorem TT.s {h : HM} {T : Nat → Int} {len : Int} (hT : TT h T len) {a j : Nat} (ha : a = 153 ∨ (a = 150 ∧ j ≠ 9)) (v : Int) : TT (h.sI a j v) T len := by
  refine ⟨by rw [sI_I, if_neg (by omega)]; exact hT.1, hT.2.1, fun k hk => ?_⟩
  rw [sI_I, if_neg (by omega)]; exact hT.2.2 k hk
theorem TQ.s {h : HM} {T : Nat → Int} {len : Int} {P : PS} (hS : TQ h T len P) {a j : Nat} (ha : a = 153 ∨ (a = 150 ∧ 4 ≤ j ∧ j ≤ 7)) (v : Int) : TQ (h.sI a j v) T len P := by
  have f : ∀ k, 9 ≤ k → (h.sI a j v).I 150 k = h.I 150 k := fun k hk => by rw [sI_I, if_neg (by omega)]
  refine ⟨hS.1.s (by omega) v, ?_, hS.2.2.1, fun z1 z2 => by rw [f 13 (by omega)]; exact hS.2.2.2 z1 z2⟩
  rw [← hS.2.1]
  unfold rdQ
  rw [f 12 (by omega), f 11 (by omega), f 10 (by omega), f 14 (by omega), f 15 (by omega)]
def RDg (h : HM) (f : Int) (X : Fg) : Prop := h.I 153 (1 + 6 * f + 0).toNat = kdR X ∧ h.I 153 (1 + 6 * f + 1).toNat = X.te ∧ h.I 153 (1 + 6 * f + 2).toNat = X.st ∧ h.I 153 (1 + 6 * f + 3).toNat = X.dr ∧ h.I 153 (1 + 6 * f + 4).toNat = laR X ∧ h.I 153 (1 + 6 * f + 5).toNat = gaR X
def RDv (h : HM) (i : Int) (V : Fg) : Prop := h.I 153 (38 + 5 * i).toNat = V.1 ∧ h.I 153 (38 + 5 * i + 1).toNat = V.2.1 ∧ h.I 153 (38 + 5 * i + 2).toNat = V.2.2.1 ∧ h.I 153 (38 + 5 * i + 3).toNat = V.2.2.2.1 ∧ h.I 153 (38 + 5 * i + 4).toNat = V.2.2.2.2
def HgQ (hg : Int) (D : DT) : Prop := (hg = -4 ∨ (0 ≤ hg ∧ hg ≤ 5)) ∧ (∀ v : Nat, (v : Int) < D.nv → (D.V v).2.1 ≤ hg) ∧ (hg = -4 ∨ ∃ v : Nat, (v : Int) < D.nv ∧ (D.V v).2.1 = hg)
/-- the draft of the reference -/
def DRR (h : HM) (D : DT) : Prop := (h.I 153 0 = D.nf ∧ ∀ i : Int, 0 ≤ i → i < D.nf → RDg h i (D.F i.toNat)) ∧ (h.I 153 37 = D.nv ∧ ∀ i : Int, 0 ≤ i → i < D.nv → RDv h i (D.V i.toNat)) ∧ (h.I 153 68 = D.sd ∧ h.I 153 69 = D.sf ∧ h.I 153 70 = D.s2 ∧ h.I 153 71 = 0) ∧ (h.I 150 4 = D.rc ∧ h.I 150 6 = D.hs ∧ h.I 150 5 = D.hr) ∧ HgQ (h.I 150 7) D
theorem DRR.fr {h h1 : HM} {D : DT} (hD : DRR h D) (f : FrQ h h1) : DRR h1 D := by
  have e : ∀ j, h1.I 153 j = h.I 153 j := fun j => f.2 153 j (by omega)
  have e0 : ∀ j, j < 10 → h1.I 150 j = h.I 150 j := fun j hj => f.2 150 j (by omega)
  unfold DRR RDg RDv
  simp only [e, e0 4 (by omega), e0 5 (by omega), e0 6 (by omega), e0 7 (by omega)]
  exact hD
theorem num_n {T : Nat → Int} {len lo hi : Int} {P : PS} (h : P.fnd ≠ 0) : numS T len lo hi P = (P, 0) := by unfold numS; rw [advS_n h, ckS_n h]
theorem end_n {T : Nat → Int} {len : Int} {P : PS} (h : P.fnd ≠ 0) : endS T len P = P := by unfold endS; rw [advS_n h, demS_n h]
theorem ck_0 {T : Nat → Int} {lo hi : Int} {P : PS} (h : (ckS T lo hi P).1.fnd = 0) : P.fnd = 0 := Decidable.byContradiction fun z => by rw [ckS_n z] at h; exact z h
theorem ck_any {T : Nat → Int} {lo hi lo2 hi2 : Int} {P : PS} (h : P.fnd = 0 → lo = lo2 ∧ hi = hi2) : ckS T lo hi P = ckS T lo2 hi2 P := by
  by_cases z : P.fnd = 0
  · rw [(h z).1, (h z).2]
  · rw [ckS_n z, ckS_n z]
theorem num_adv {T : Nat → Int} {len lo hi : Int} {P : PS} (h : (advS T len P).fnd ≠ 0) : numS T len lo hi P = (advS T len P, 0) := by unfold numS; rw [ckS_n h]
/-- a figure more in the draft -/
def wrD (H : HM) (n k te st dr la ga : Int) : HM := ((((((H.sI 153 (1 + 6 * n + 0).toNat k).sI 153 (1 + 6 * n + 1).toNat te).sI 153 (1 + 6 * n + 2).toNat st).sI 153 (1 + 6 * n + 3).toNat dr).sI 153 (1 + 6 * n + 4).toNat la).sI 153 (1 + 6 * n + 5).toNat ga).sI 153 0 (n + 1)
theorem wrD_o {H : HM} {n k te st dr la ga : Int} (hn : 0 ≤ n) {a j : Nat} (q : a ≠ 153 ∨ (j ≠ 0 ∧ ((j : Int) < 1 + 6 * n ∨ 1 + 6 * n + 6 ≤ j))) : (wrD H n k te st dr la ga).I a j = H.I a j := by
  unfold wrD
  rw [sI_I, if_neg (by omega), sI_I, if_neg (by omega), sI_I, if_neg (by omega), sI_I, if_neg (by omega), sI_I, if_neg (by omega), sI_I, if_neg (by omega), sI_I, if_neg (by omega)]
theorem dr_F {H : HM} {D : DT} (hD : DRR H D) (hn : 0 ≤ D.nf ∧ D.nf ≤ 5) {k te st dr la ga l g : Int} (hk : k = kdR (te, st, dr, la, ga)) (hl : l = laR (te, st, dr, la, ga)) (hg : g = gaR (te, st, dr, la, ga)) (hnv : D.nv ≤ 6) : DRR (wrD H D.nf k te st dr l g) (D.wF (te, st, dr, la, ga)) := by
  generalize hN : D.nf = n at *
  have ho : ∀ j : Nat, j ≠ 0 → ((j : Int) < 1 + 6 * n ∨ 1 + 6 * n + 6 ≤ j) → (wrD H n k te st dr l g).I 153 j = H.I 153 j := fun j a b => wrD_o hn.1 (Or.inr ⟨a, b⟩)
  have h0 : ∀ j : Nat, (wrD H n k te st dr l g).I 150 j = H.I 150 j := fun j => wrD_o hn.1 (Or.inl (by omega))
  have hF : (D.wF (te, st, dr, la, ga)).F = upF D.F n.toNat (te, st, dr, la, ga) := by rw [← hN]; rfl
  refine ⟨⟨?_, fun i i0 i1 => ?_⟩, ⟨?_, fun i i0 i1 => ?_⟩, ?_, ?_, ?_⟩
  · unfold wrD; rw [sI_I, if_pos ⟨rfl, rfl⟩]; show n + 1 = D.nf + 1; omega
  · have i1 : i < D.nf + 1 := i1
    rw [hF]
    unfold upF
    by_cases q : i = n
    · subst q
      rw [if_pos rfl]
      refine ⟨?_, ?_, ?_, ?_, ?_, ?_⟩
      · unfold wrD; rw [sI_I, if_neg (by omega), sI_I, if_neg (by omega), sI_I, if_neg (by omega), sI_I, if_neg (by omega), sI_I, if_neg (by omega), sI_I, if_neg (by omega), sI_I, if_pos ⟨rfl, rfl⟩]; exact hk
      · unfold wrD; rw [sI_I, if_neg (by omega), sI_I, if_neg (by omega), sI_I, if_neg (by omega), sI_I, if_neg (by omega), sI_I, if_neg (by omega), sI_I, if_pos ⟨rfl, rfl⟩]; rfl
      · unfold wrD; rw [sI_I, if_neg (by omega), sI_I, if_neg (by omega), sI_I, if_neg (by omega), sI_I, if_neg (by omega), sI_I, if_pos ⟨rfl, rfl⟩]; rfl
      · unfold wrD; rw [sI_I, if_neg (by omega), sI_I, if_neg (by omega), sI_I, if_neg (by omega), sI_I, if_pos ⟨rfl, rfl⟩]; rfl
      · unfold wrD; rw [sI_I, if_neg (by omega), sI_I, if_neg (by omega), sI_I, if_pos ⟨rfl, rfl⟩]; exact hl
      · unfold wrD; rw [sI_I, if_neg (by omega), sI_I, if_pos ⟨rfl, rfl⟩]; exact hg
    · rw [if_neg (by omega)]
      have hi := hD.1.2 i i0 (by omega)
      unfold RDg
      rw [ho _ (by omega) (by omega), ho _ (by omega) (by omega), ho _ (by omega) (by omega), ho _ (by omega) (by omega), ho _ (by omega) (by omega), ho _ (by omega) (by omega)]
      exact hi
  · rw [ho 37 (by omega) (by omega)]; exact hD.2.1.1
  · have i1 : i < D.nv := i1
    have hi := hD.2.1.2 i i0 i1
    unfold RDv
    rw [ho _ (by omega) (by omega), ho _ (by omega) (by omega), ho _ (by omega) (by omega), ho _ (by omega) (by omega), ho _ (by omega) (by omega)]
    exact hi
  · rw [ho 68 (by omega) (by omega), ho 69 (by omega) (by omega), ho 70 (by omega) (by omega), ho 71 (by omega) (by omega)]; exact hD.2.2.1
  · rw [h0, h0, h0]; exact hD.2.2.2.1
  · rw [h0]; exact hD.2.2.2.2
theorem wrD_fr {h H : HM} {n k te st dr la ga : Int} (f : FrD h H) : FrD h (wrD H n k te st dr la ga) := ((((((f.s _ _).s _ _).s _ _).s _ _).s _ _).s _ _).s _ _
theorem wrD_Q {H : HM} {T : Nat → Int} {len : Int} {P : PS} {n k te st dr la ga : Int} (hS : TQ H T len P) : TQ (wrD H n k te st dr la ga) T len P := ((((((hS.s (Or.inl rfl) _).s (Or.inl rfl) _).s (Or.inl rfl) _).s (Or.inl rfl) _).s (Or.inl rfl) _).s (Or.inl rfl) _).s (Or.inl rfl) _
theorem nm_x {T : Nat → Int} {P : PS} {k k2 : Nat} (a : IsNm T P k) (b : IsNm T P k2) (h1 : 0 < lnI k) (h2 : 0 < lnI k2) : chI k 0 = chI k2 0 := (a.2.2 0 h1).symm.trans (b.2.2 0 h2)
theorem nm_4567 {T : Nat → Int} {P : PS} : (IsNm T P 4 → ¬ IsNm T P 5 ∧ ¬ IsNm T P 6 ∧ ¬ IsNm T P 7) ∧ (IsNm T P 5 → ¬ IsNm T P 4 ∧ ¬ IsNm T P 6 ∧ ¬ IsNm T P 7) ∧ (IsNm T P 6 → ¬ IsNm T P 4 ∧ ¬ IsNm T P 5 ∧ ¬ IsNm T P 7) ∧ (IsNm T P 7 → ¬ IsNm T P 4 ∧ ¬ IsNm T P 5 ∧ ¬ IsNm T P 6) := by
  have g : ∀ k k2 : Nat, 0 < lnI k → 0 < lnI k2 → chI k 0 ≠ chI k2 0 → IsNm T P k → ¬ IsNm T P k2 := fun k k2 a b c x z => c (nm_x x z a b)
  refine ⟨fun x => ⟨?_, ?_, ?_⟩, fun x => ⟨?_, ?_, ?_⟩, fun x => ⟨?_, ?_, ?_⟩, fun x => ⟨?_, ?_, ?_⟩⟩
  · exact g 4 5 (by decide +kernel) (by decide +kernel) (by decide +kernel) x
  · exact g 4 6 (by decide +kernel) (by decide +kernel) (by decide +kernel) x
  · exact g 4 7 (by decide +kernel) (by decide +kernel) (by decide +kernel) x
  · exact g 5 4 (by decide +kernel) (by decide +kernel) (by decide +kernel) x
  · exact g 5 6 (by decide +kernel) (by decide +kernel) (by decide +kernel) x
  · exact g 5 7 (by decide +kernel) (by decide +kernel) (by decide +kernel) x
  · exact g 6 4 (by decide +kernel) (by decide +kernel) (by decide +kernel) x
  · exact g 6 5 (by decide +kernel) (by decide +kernel) (by decide +kernel) x
  · exact g 6 7 (by decide +kernel) (by decide +kernel) (by decide +kernel) x
  · exact g 7 4 (by decide +kernel) (by decide +kernel) (by decide +kernel) x
  · exact g 7 5 (by decide +kernel) (by decide +kernel) (by decide +kernel) x
  · exact g 7 6 (by decide +kernel) (by decide +kernel) (by decide +kernel) x
def KQ (T : Nat → Int) (P : PS) (k : Int) : Prop := (-4 ≤ k ∧ k ≤ 3) ∧ (k ≠ -4 ↔ (IsNm T P 4 ∨ IsNm T P 5) ∨ (IsNm T P 4 ∨ IsNm T P 6) ∨ IsNm T P 7) ∧ ((IsNm T P 4 ∨ IsNm T P 5) ∨ (IsNm T P 4 ∨ IsNm T P 6) ∨ IsNm T P 7 → (0 ≤ k ∧ k ≤ 3) ∧ (k % 2 = 1 ↔ IsNm T P 4 ∨ IsNm T P 5) ∧ (1 < k ↔ IsNm T P 4 ∨ IsNm T P 6))
theorem iff_b {b : Int} {p B : Prop} (h : p ↔ B) (hb : (b = 1 ∧ p) ∨ (b = 0 ∧ ¬ p)) : b ≠ 0 ↔ B := by
  rcases hb with ⟨h1, h2⟩ | ⟨h1, h2⟩
  · exact ⟨fun _ => h.mp h2, fun _ => by omega⟩
  · exact ⟨fun z => absurd h1 z, fun z => absurd (h.mpr z) h2⟩
theorem kq_no {T : Nat → Int} {P : PS} (ht : ¬ P.tok = 1) : KQ T P (-4) := by
  have n : ∀ k, ¬ IsNm T P k := fun k z => ht z.1
  refine ⟨by omega, ⟨fun z => absurd rfl z, fun z => ?_⟩, fun z => ?_⟩
  · rcases z with (z | z) | (z | z) | z <;> exact absurd z (n _)
  · rcases z with (z | z) | (z | z) | z <;> exact absurd z (n _)
theorem kq_of {T : Nat → Int} {P : PS} {v : Int} (h : (v = 0 ∧ IsNm T P 7) ∨ (v = 1 ∧ ¬ IsNm T P 7 ∧ IsNm T P 5) ∨ (v = 2 ∧ ¬ IsNm T P 7 ∧ ¬ IsNm T P 5 ∧ IsNm T P 6) ∨ (v = 3 ∧ ¬ IsNm T P 7 ∧ ¬ IsNm T P 5 ∧ ¬ IsNm T P 6 ∧ IsNm T P 4) ∨ (v = -4 ∧ ¬ IsNm T P 7 ∧ ¬ IsNm T P 5 ∧ ¬ IsNm T P 6 ∧ ¬ IsNm T P 4)) : KQ T P v := by
  have hx := nm_4567 (T := T) (P := P)
  rcases h with ⟨rfl, a⟩ | ⟨rfl, _, a⟩ | ⟨rfl, _, _, a⟩ | ⟨rfl, _, _, _, a⟩ | ⟨rfl, a, b, c, e⟩
  · have q := hx.2.2.2 a
    exact ⟨by omega, ⟨fun _ => Or.inr (Or.inr a), fun _ => by decide⟩, fun _ => ⟨by omega, ⟨fun z => absurd z (by decide), fun z => z.elim (fun w => absurd w q.1) (fun w => absurd w q.2.1)⟩, ⟨fun z => absurd z (by decide), fun z => z.elim (fun w => absurd w q.1) (fun w => absurd w q.2.2)⟩⟩⟩
  · have q := hx.2.1 a
    exact ⟨by omega, ⟨fun _ => Or.inl (Or.inr a), fun _ => by decide⟩, fun _ => ⟨by omega, ⟨fun _ => Or.inr a, fun _ => by decide⟩, ⟨fun z => absurd z (by decide), fun z => z.elim (fun w => absurd w q.1) (fun w => absurd w q.2.1)⟩⟩⟩
  · have q := hx.2.2.1 a
    exact ⟨by omega, ⟨fun _ => Or.inr (Or.inl (Or.inr a)), fun _ => by decide⟩, fun _ => ⟨by omega, ⟨fun z => absurd z (by decide), fun z => z.elim (fun w => absurd w q.1) (fun w => absurd w q.2.1)⟩, ⟨fun _ => Or.inr a, fun _ => by decide⟩⟩⟩
  · exact ⟨by omega, ⟨fun _ => Or.inl (Or.inl a), fun _ => by decide⟩, fun _ => ⟨by omega, ⟨fun _ => Or.inl a, fun _ => by decide⟩, ⟨fun _ => Or.inl a, fun _ => by decide⟩⟩⟩
  · have n : ¬ ((IsNm T P 4 ∨ IsNm T P 5) ∨ (IsNm T P 4 ∨ IsNm T P 6) ∨ IsNm T P 7) := fun z => by
      rcases z with (z | z) | (z | z) | z
      · exact e z
      · exact b z
      · exact e z
      · exact c z
      · exact a z
    exact ⟨by omega, ⟨fun z => absurd rfl z, fun z => absurd z n⟩, fun z => absurd z n⟩
set_option maxRecDepth 100000 in
set_option maxHeartbeats 1000000 in
theorem e_X9_readFigure {G : GX} {y : LY} {h : HM} {d : Nat} (hY : Lay y) {T : Nat → Int} {len : Int} {P : PS} (hS : TQ h T len P) {D : DT} (h0 : P.fnd = 0) (hD : DRR h D) (hV : DV D) (h5 : D.nf ≤ 5) : EvQV G mX9_readFigure (d + 3) [.ref 150] y h (fun h1 => ∃ (X : PS) (Y : Fg), FrD h h1 ∧ TQ h1 T len (advS T len X) ∧ fg1 T len P D = (endS T len X, cnd ((endS T len X).fnd = 0) (D.wF Y) D) ∧ (X.fnd = 0 → DRR h1 (D.wF Y))) := by
  have hf := hS.f
  have hbd := hS.b
  have hPB := hS.2.2.1
  have hnf := hV.1.1
  have hnv := hV.2.1.1
  have en0 := hD.1.1
  refine Ev.of rfl [some (.ref 150), none, none, none, none, none, none, none] rfl (Nat.le_of_ble_eq_true rfl) ?_
  have L183 : ∀ (H : HM) (P5 : PS) (k la ga l g te st t2 s2 : Int), FrD h H → DRR H D → TQ H T len (advS T len P5) → fg1 T len P D = fg6 T len la ga te st P5 D → ((advS T len P5).fnd = 0 → t2 = te ∧ s2 = st ∧ k = (if 0 < la then 1 else 0) + (if 0 < ga then 2 else 0) ∧ l = (if 0 < la then la else -4) ∧ g = (if 0 < ga then ga else -4) ∧ (0 ≤ la ∧ la ≤ 3) ∧ (0 ≤ ga ∧ ga ≤ 59)) → Go G mX9_readFigure (rmo (d + 3) 0 0) (ZM G y 0 0 (fun r h1 => r = none ∧ (fun h1 => ∃ (X : PS) (Y : Fg), FrD h h1 ∧ TQ h1 T len (advS T len X) ∧ fg1 T len P D = (endS T len X, cnd ((endS T len X).fnd = 0) (D.wF Y) D) ∧ (X.fnd = 0 → DRR h1 (D.wF Y))) h1)) y 183 [some (.ref 150), some (.int (iZ (1 + 6 * D.nf))), some (.int (iZ k)), some (.int (iZ l)), some (.int (iZ g)), some (.int (iZ t2)), some (.int (iZ s2)), none] [] H (0, 0) := by
    intro H P5 k la ga l g te st t2 s2 hfr hDH hSH heq hok
    refine g_aload_n dX9_readFigure_183 rfl rfl (g_iconst dX9_readFigure_184 (g_bipush dX9_readFigure_185 kb8 ?_))
    refine cv_X9_128 (M := mX9_readFigure) rfl dX9_readFigure_187 (yo150 hY) (RO.same _ _ _) (Nat.le_of_ble_eq_true rfl) (e_X9_readNumber hY hSH (by omega) (by omega)) (kQX fun v187 h187 hq187 => ?_)
    have hDn := hDH.fr hq187.1
    have en := hDn.1.1
    refine g_ist7 dX9_readFigure_190 (by decide) rfl (g_aload_n dX9_readFigure_192 rfl rfl (gf_X9_17 (M := mX9_readFigure) rfl dX9_readFigure_193 (yo150 hY) (yr150_3 hY) (g_iload_n dX9_readFigure_196 rfl rfl (g_iconst dX9_readFigure_197 (g_iadd dX9_readFigure_198 (g_iload_n dX9_readFigure_199 rfl rfl (g_iast dX9_readFigure_200 (ya153 hY) ⟨by omega, by omega, by omega⟩ (g_aload_n dX9_readFigure_201 rfl rfl (gf_X9_17 (M := mX9_readFigure) rfl dX9_readFigure_202 (yo150 hY) (yr150_3 hY) (g_iload_n dX9_readFigure_205 rfl rfl (g_iconst dX9_readFigure_206 ?_)))))))))))
    refine g_iadd dX9_readFigure_207 (g_iload dX9_readFigure_208 rfl (g_iast dX9_readFigure_210 (ya153 hY) ⟨by omega, by omega, by omega⟩ (g_aload_n dX9_readFigure_211 rfl rfl (gf_X9_17 (M := mX9_readFigure) rfl dX9_readFigure_212 (yo150 hY) (yr150_3 hY) (g_iload_n dX9_readFigure_215 rfl rfl (g_iconst dX9_readFigure_216 (g_iadd dX9_readFigure_217 (g_iload dX9_readFigure_218 rfl (g_iast dX9_readFigure_220 (ya153 hY) ⟨by omega, by omega, by omega⟩ (g_aload_n dX9_readFigure_221 rfl rfl (gf_X9_17 (M := mX9_readFigure) rfl dX9_readFigure_222 (yo150 hY) (yr150_3 hY) ?_)))))))))))
    refine g_iload_n dX9_readFigure_225 rfl rfl (g_iconst dX9_readFigure_226 (g_iadd dX9_readFigure_227 (g_iload dX9_readFigure_228 rfl (g_iast dX9_readFigure_230 (ya153 hY) ⟨by omega, by omega, by omega⟩ (g_aload_n dX9_readFigure_231 rfl rfl (gf_X9_17 (M := mX9_readFigure) rfl dX9_readFigure_232 (yo150 hY) (yr150_3 hY) (g_iload_n dX9_readFigure_235 rfl rfl (g_iconst dX9_readFigure_236 (g_iadd dX9_readFigure_237 (g_iload_n dX9_readFigure_238 rfl rfl (g_iast dX9_readFigure_239 (ya153 hY) ⟨by omega, by omega, by omega⟩ ?_)))))))))))
    refine g_aload_n dX9_readFigure_240 rfl rfl (gf_X9_17 (M := mX9_readFigure) rfl dX9_readFigure_241 (yo150 hY) (yr150_3 hY) (g_iload_n dX9_readFigure_244 rfl rfl (g_iconst dX9_readFigure_245 (g_iadd dX9_readFigure_246 (g_iload dX9_readFigure_247 rfl (g_iast dX9_readFigure_249 (ya153 hY) ⟨by omega, by omega, by omega⟩ (g_aload_n dX9_readFigure_250 rfl rfl (gf_X9_17 (M := mX9_readFigure) rfl dX9_readFigure_251 (yo150 hY) (yr150_3 hY) (g_iconst dX9_readFigure_254 (g_dup2 dX9_readFigure_255 rfl rfl (g_iaN 0 dX9_readFigure_256 (ya153 hY) ⟨by decide, by decide, by decide⟩ rfl ?_)))))))))))
    rw [sI_I, if_neg (by omega), sI_I, if_neg (by omega), sI_I, if_neg (by omega), sI_I, if_neg (by omega), sI_I, if_neg (by omega), sI_I, if_neg (by omega), en]
    refine g_iconst dX9_readFigure_257 (g_iadd dX9_readFigure_258 (g_isN 0 dX9_readFigure_259 (ya153 hY) ⟨by decide, by decide, by decide⟩ rfl ?_))
    exact g_vret dX9_readFigure_260 rfl rfl ⟨Nat.le_refl _, Nat.le_refl _⟩ (by refine ⟨rfl, (numS T len 0 8 P5).1, (te, st, (numS T len 0 8 P5).2, la, ga), wrD_fr (hfr.tr hq187.1.d), wrD_Q hq187.2.1, heq, fun z => ?_⟩; have z1 : (advS T len P5).fnd = 0 := ck_0 z; have z2 := hok z1; have z3 := hq187.2.2.1 z; have z4 := dr_F hDn (by omega) (k := k) (te := te) (st := st) (dr := (numS T len 0 8 P5).2) (la := la) (ga := ga) (l := l) (g := g) z2.2.2.1 z2.2.2.2.1 z2.2.2.2.2.1 hnv.2; obtain ⟨w1, w2, _⟩ := z2; subst w1; subst w2; rw [show v187 = (numS T len 0 8 P5).2 from z3]; exact z4)
  have L179 : ∀ (H : HM) (P5 : PS) (k la ga l g te st t2 s2 : Int), FrD h H → DRR H D → TQ H T len P5 → fg1 T len P D = fg6 T len la ga te st P5 D → (P5.fnd = 0 → t2 = te ∧ s2 = st ∧ k = (if 0 < la then 1 else 0) + (if 0 < ga then 2 else 0) ∧ l = (if 0 < la then la else -4) ∧ g = (if 0 < ga then ga else -4) ∧ (0 ≤ la ∧ la ≤ 3) ∧ (0 ≤ ga ∧ ga ≤ 59)) → Go G mX9_readFigure (rmo (d + 3) 0 0) (ZM G y 0 0 (fun r h1 => r = none ∧ (fun h1 => ∃ (X : PS) (Y : Fg), FrD h h1 ∧ TQ h1 T len (advS T len X) ∧ fg1 T len P D = (endS T len X, cnd ((endS T len X).fnd = 0) (D.wF Y) D) ∧ (X.fnd = 0 → DRR h1 (D.wF Y))) h1)) y 179 [some (.ref 150), some (.int (iZ (1 + 6 * D.nf))), some (.int (iZ k)), some (.int (iZ l)), some (.int (iZ g)), some (.int (iZ t2)), some (.int (iZ s2)), none] [] H (0, 0) := by
    intro H P5 k la ga l g te st t2 s2 hfr hDH hSH heq hok
    refine g_aload_n dX9_readFigure_179 rfl rfl ?_
    refine cv_X9_121 (M := mX9_readFigure) rfl dX9_readFigure_180 (yo150 hY) (RO.same _ _ _) (Nat.le_of_ble_eq_true rfl) (e_X9_next1 hY hSH) (kQV fun h180 hq180 => ?_)
    exact L183 _ P5 k la ga l g te st t2 s2 (hfr.tr hq180.1.d) (hDH.fr hq180.1) hq180.2 heq (fun z => hok (advS_0 z))
  have L146 : ∀ (H : HM) (P4 : PS) (k la ga l g te t2 : Int), FrD h H → DRR H D → TQ H T len (advS T len P4) → fg1 T len P D = fg5 T len la ga te P4 D → (0 ≤ t2 ∧ t2 ≤ 999) → ((advS T len P4).fnd = 0 → t2 = te ∧ k = (if 0 < la then 1 else 0) + (if 0 < ga then 2 else 0) ∧ l = (if 0 < la then la else -4) ∧ g = (if 0 < ga then ga else -4) ∧ (0 ≤ la ∧ la ≤ 3) ∧ (0 ≤ ga ∧ ga ≤ 59)) → Go G mX9_readFigure (rmo (d + 3) 0 0) (ZM G y 0 0 (fun r h1 => r = none ∧ (fun h1 => ∃ (X : PS) (Y : Fg), FrD h h1 ∧ TQ h1 T len (advS T len X) ∧ fg1 T len P D = (endS T len X, cnd ((endS T len X).fnd = 0) (D.wF Y) D) ∧ (X.fnd = 0 → DRR h1 (D.wF Y))) h1)) y 146 [some (.ref 150), some (.int (iZ (1 + 6 * D.nf))), some (.int (iZ k)), some (.int (iZ l)), some (.int (iZ g)), some (.int (iZ t2)), none, none] [] H (0, 0) := by
    intro H P4 k la ga l g te t2 hfr hDH hSH heq ht2 hok
    refine g_aload_n dX9_readFigure_146 rfl rfl (g_iconst dX9_readFigure_147 (g_bipush dX9_readFigure_148 kb59 ?_))
    refine cv_X9_117 (M := mX9_readFigure) rfl dX9_readFigure_150 (yo150 hY) (RO.same _ _ _) (Nat.le_of_ble_eq_true rfl) (e_X9_looked hY hSH (by omega) (by omega)) (kQX fun v150 h150 hq150 => ?_)
    have hDa := hDH.fr hq150.1
    have f150 := hq150.2.1.f
    have b150 := hq150.2.1.b
    have vv : (numS T len 0 59 P4).1.fnd = 0 → v150 = (numS T len 0 59 P4).2 := hq150.2.2.1
    refine g_ist6 dX9_readFigure_153 (by decide) rfl (g_aload_n dX9_readFigure_155 rfl rfl (gf_X9_75 (M := mX9_readFigure) rfl dX9_readFigure_156 (yo150 hY) ?_))
    refine g_if_ne 179 dX9_readFigure_159 rfl (by omega) (fun c159 => ?_) (fun c159 => ?_)
    · skip
      first
      | exact L179 _ (demS ((numS T len 0 59 P4).2 < te) 4 (numS T len 0 59 P4).1) k la ga l g te (numS T len 0 59 P4).2 t2 v150 (hfr.tr (hq150.1.tr hq176.1).d) (hDa.fr hq176.1) t176 heq (fun z => ⟨hk1, vq, hk.2⟩)
      | (have z0 : (numS T len 0 59 P4).1.fnd ≠ 0 := (by show (ckS T 0 59 (advS T len P4)).1.fnd ≠ 0; omega); have hx := L179 _ (demS ((numS T len 0 59 P4).2 < te) 4 (numS T len 0 59 P4).1) k la ga l g te (numS T len 0 59 P4).2 t2 v150 (hfr.tr hq150.1.d) hDa (by rw [demS_n z0]; exact hq150.2.1) heq (fun z => by rw [demS_n z0] at z; exact absurd z z0); exact hx)
    · skip
      have z0 : (numS T len 0 59 P4).1.fnd = 0 := by (show (ckS T 0 59 (advS T len P4)).1.fnd = 0; omega)
      have vq := vv z0
      have hk := hok (ck_0 z0)
      have hk1 := hk.1
      refine g_aload_n dX9_readFigure_162 rfl rfl (g_iload dX9_readFigure_163 rfl (g_iload dX9_readFigure_165 rfl ?_))
      refine g_icmp_ge 174 dX9_readFigure_167 rfl (by omega) (by omega) (fun c167 => ?_) (fun c167 => ?_)
      · skip
        refine g_iconst dX9_readFigure_174 (g_iconst dX9_readFigure_175 ?_)
        refine cv_X9_113 (M := mX9_readFigure) rfl dX9_readFigure_176 (yo150 hY) (RO.same _ _ _) (Nat.le_of_ble_eq_true rfl) (e_X9_needs hY (by omega) (by omega) (by omega)) (kQV fun h176 hq176 => ?_)
        have t176 := hq150.2.1.dem hq176 (by omega) (B' := (numS T len 0 59 P4).2 < te) (by omega)
        first
        | exact L179 _ (demS ((numS T len 0 59 P4).2 < te) 4 (numS T len 0 59 P4).1) k la ga l g te (numS T len 0 59 P4).2 t2 v150 (hfr.tr (hq150.1.tr hq176.1).d) (hDa.fr hq176.1) t176 heq (fun z => ⟨hk1, vq, hk.2⟩)
        | (have z0 : (numS T len 0 59 P4).1.fnd ≠ 0 := (by show (ckS T 0 59 (advS T len P4)).1.fnd ≠ 0; omega); have hx := L179 _ (demS ((numS T len 0 59 P4).2 < te) 4 (numS T len 0 59 P4).1) k la ga l g te (numS T len 0 59 P4).2 t2 v150 (hfr.tr hq150.1.d) hDa (by rw [demS_n z0]; exact hq150.2.1) heq (fun z => by rw [demS_n z0] at z; exact absurd z z0); exact hx)
      · skip
        refine g_iconst dX9_readFigure_170 (g_goto 175 dX9_readFigure_171 rfl (g_iconst dX9_readFigure_175 ?_))
        refine cv_X9_113 (M := mX9_readFigure) rfl dX9_readFigure_176 (yo150 hY) (RO.same _ _ _) (Nat.le_of_ble_eq_true rfl) (e_X9_needs hY (by omega) (by omega) (by omega)) (kQV fun h176 hq176 => ?_)
        have t176 := hq150.2.1.dem hq176 (by omega) (B' := (numS T len 0 59 P4).2 < te) (by omega)
        first
        | exact L179 _ (demS ((numS T len 0 59 P4).2 < te) 4 (numS T len 0 59 P4).1) k la ga l g te (numS T len 0 59 P4).2 t2 v150 (hfr.tr (hq150.1.tr hq176.1).d) (hDa.fr hq176.1) t176 heq (fun z => ⟨hk1, vq, hk.2⟩)
        | (have z0 : (numS T len 0 59 P4).1.fnd ≠ 0 := (by show (ckS T 0 59 (advS T len P4)).1.fnd ≠ 0; omega); have hx := L179 _ (demS ((numS T len 0 59 P4).2 < te) 4 (numS T len 0 59 P4).1) k la ga l g te (numS T len 0 59 P4).2 t2 v150 (hfr.tr hq150.1.d) hDa (by rw [demS_n z0]; exact hq150.2.1) heq (fun z => by rw [demS_n z0] at z; exact absurd z z0); exact hx)
  have L142 : ∀ (H : HM) (P4 : PS) (k la ga l g te t2 : Int), FrD h H → DRR H D → TQ H T len P4 → fg1 T len P D = fg5 T len la ga te P4 D → (0 ≤ t2 ∧ t2 ≤ 999) → (P4.fnd = 0 → t2 = te ∧ k = (if 0 < la then 1 else 0) + (if 0 < ga then 2 else 0) ∧ l = (if 0 < la then la else -4) ∧ g = (if 0 < ga then ga else -4) ∧ (0 ≤ la ∧ la ≤ 3) ∧ (0 ≤ ga ∧ ga ≤ 59)) → Go G mX9_readFigure (rmo (d + 3) 0 0) (ZM G y 0 0 (fun r h1 => r = none ∧ (fun h1 => ∃ (X : PS) (Y : Fg), FrD h h1 ∧ TQ h1 T len (advS T len X) ∧ fg1 T len P D = (endS T len X, cnd ((endS T len X).fnd = 0) (D.wF Y) D) ∧ (X.fnd = 0 → DRR h1 (D.wF Y))) h1)) y 142 [some (.ref 150), some (.int (iZ (1 + 6 * D.nf))), some (.int (iZ k)), some (.int (iZ l)), some (.int (iZ g)), some (.int (iZ t2)), none, none] [] H (0, 0) := by
    intro H P4 k la ga l g te t2 hfr hDH hSH heq ht2 hok
    refine g_aload_n dX9_readFigure_142 rfl rfl ?_
    refine cv_X9_121 (M := mX9_readFigure) rfl dX9_readFigure_143 (yo150 hY) (RO.same _ _ _) (Nat.le_of_ble_eq_true rfl) (e_X9_next1 hY hSH) (kQV fun h143 hq143 => ?_)
    exact L146 _ P4 k la ga l g te t2 (hfr.tr hq143.1.d) (hDH.fr hq143.1) hq143.2 heq ht2 (fun z => hok (advS_0 z))
  have L109 : ∀ (H : HM) (P3 : PS) (k la ga l g : Int), FrD h H → DRR H D → TQ H T len (advS T len P3) → fg1 T len P D = fg4 T len la ga P3 D → (-4 ≤ g ∧ g ≤ 999) → ((advS T len P3).fnd = 0 → k = (if 0 < la then 1 else 0) + (if 0 < ga then 2 else 0) ∧ l = (if 0 < la then la else -4) ∧ g = (if 0 < ga then ga else -4) ∧ (0 ≤ la ∧ la ≤ 3) ∧ (0 ≤ ga ∧ ga ≤ 59)) → Go G mX9_readFigure (rmo (d + 3) 0 0) (ZM G y 0 0 (fun r h1 => r = none ∧ (fun h1 => ∃ (X : PS) (Y : Fg), FrD h h1 ∧ TQ h1 T len (advS T len X) ∧ fg1 T len P D = (endS T len X, cnd ((endS T len X).fnd = 0) (D.wF Y) D) ∧ (X.fnd = 0 → DRR h1 (D.wF Y))) h1)) y 109 [some (.ref 150), some (.int (iZ (1 + 6 * D.nf))), some (.int (iZ k)), some (.int (iZ l)), some (.int (iZ g)), none, none, none] [] H (0, 0) := by
    intro H P3 k la ga l g hfr hDH hSH heq hg hok
    refine g_aload_n dX9_readFigure_109 rfl rfl (g_iconst dX9_readFigure_110 (g_bipush dX9_readFigure_111 kb60 ?_))
    refine cv_X9_117 (M := mX9_readFigure) rfl dX9_readFigure_113 (yo150 hY) (RO.same _ _ _) (Nat.le_of_ble_eq_true rfl) (e_X9_looked hY hSH (by omega) (by omega)) (kQX fun v113 h113 hq113 => ?_)
    have hDa := hDH.fr hq113.1
    have f113 := hq113.2.1.f
    have b113 := hq113.2.1.b
    have vv : (numS T len 2 60 P3).1.fnd = 0 → v113 = (numS T len 2 60 P3).2 := hq113.2.2.1
    refine g_ist5 dX9_readFigure_116 (by decide) rfl (g_aload_n dX9_readFigure_118 rfl rfl (gf_X9_75 (M := mX9_readFigure) rfl dX9_readFigure_119 (yo150 hY) ?_))
    refine g_if_ne 142 dX9_readFigure_122 rfl (by omega) (fun c122 => ?_) (fun c122 => ?_)
    · skip
      first
      | exact L142 _ (demS (ga < (numS T len 2 60 P3).2) 4 (numS T len 2 60 P3).1) k la ga l g (numS T len 2 60 P3).2 v113 (hfr.tr (hq113.1.tr hq139.1).d) (hDa.fr hq139.1) t139 heq hq113.2.2.2 (fun z => ⟨vq, hk⟩)
      | (have z0 : (numS T len 2 60 P3).1.fnd ≠ 0 := (by show (ckS T 2 60 (advS T len P3)).1.fnd ≠ 0; omega); have hx := L142 _ (demS (ga < (numS T len 2 60 P3).2) 4 (numS T len 2 60 P3).1) k la ga l g (numS T len 2 60 P3).2 v113 (hfr.tr hq113.1.d) hDa (by rw [demS_n z0]; exact hq113.2.1) heq hq113.2.2.2 (fun z => by rw [demS_n z0] at z; exact absurd z z0); exact hx)
    · skip
      have z0 : (numS T len 2 60 P3).1.fnd = 0 := by (show (ckS T 2 60 (advS T len P3)).1.fnd = 0; omega)
      have vq := vv z0
      have hk := hok (ck_0 z0)
      have hk3 := hk.2.2
      have hk4 : (0 < ga ∧ g = ga) ∨ (ga = 0 ∧ g = -4) := (by (by_cases w : 0 < ga; (rw [if_pos w] at hk3; exact Or.inl ⟨w, hk3.1⟩); (rw [if_neg w] at hk3; exact Or.inr ⟨by omega, hk3.1⟩)))
      have hvl : 2 ≤ (numS T len 2 60 P3).2 := ((ckS_v (T := T) (lo := 2) (hi := 60) hSH.2.2.1).2.2 z0).2.2.1
      refine g_aload_n dX9_readFigure_125 rfl rfl (g_iload dX9_readFigure_126 rfl (g_iload dX9_readFigure_128 rfl ?_))
      refine g_icmp_le 137 dX9_readFigure_130 rfl (by omega) (by omega) (fun c130 => ?_) (fun c130 => ?_)
      · skip
        refine g_iconst dX9_readFigure_137 (g_iconst dX9_readFigure_138 ?_)
        refine cv_X9_113 (M := mX9_readFigure) rfl dX9_readFigure_139 (yo150 hY) (RO.same _ _ _) (Nat.le_of_ble_eq_true rfl) (e_X9_needs hY (by omega) (by omega) (by omega)) (kQV fun h139 hq139 => ?_)
        have t139 := hq113.2.1.dem hq139 (by omega) (B' := ga < (numS T len 2 60 P3).2) (by omega)
        first
        | exact L142 _ (demS (ga < (numS T len 2 60 P3).2) 4 (numS T len 2 60 P3).1) k la ga l g (numS T len 2 60 P3).2 v113 (hfr.tr (hq113.1.tr hq139.1).d) (hDa.fr hq139.1) t139 heq hq113.2.2.2 (fun z => ⟨vq, hk⟩)
        | (have z0 : (numS T len 2 60 P3).1.fnd ≠ 0 := (by show (ckS T 2 60 (advS T len P3)).1.fnd ≠ 0; omega); have hx := L142 _ (demS (ga < (numS T len 2 60 P3).2) 4 (numS T len 2 60 P3).1) k la ga l g (numS T len 2 60 P3).2 v113 (hfr.tr hq113.1.d) hDa (by rw [demS_n z0]; exact hq113.2.1) heq hq113.2.2.2 (fun z => by rw [demS_n z0] at z; exact absurd z z0); exact hx)
      · skip
        refine g_iconst dX9_readFigure_133 (g_goto 138 dX9_readFigure_134 rfl (g_iconst dX9_readFigure_138 ?_))
        refine cv_X9_113 (M := mX9_readFigure) rfl dX9_readFigure_139 (yo150 hY) (RO.same _ _ _) (Nat.le_of_ble_eq_true rfl) (e_X9_needs hY (by omega) (by omega) (by omega)) (kQV fun h139 hq139 => ?_)
        have t139 := hq113.2.1.dem hq139 (by omega) (B' := ga < (numS T len 2 60 P3).2) (by omega)
        first
        | exact L142 _ (demS (ga < (numS T len 2 60 P3).2) 4 (numS T len 2 60 P3).1) k la ga l g (numS T len 2 60 P3).2 v113 (hfr.tr (hq113.1.tr hq139.1).d) (hDa.fr hq139.1) t139 heq hq113.2.2.2 (fun z => ⟨vq, hk⟩)
        | (have z0 : (numS T len 2 60 P3).1.fnd ≠ 0 := (by show (ckS T 2 60 (advS T len P3)).1.fnd ≠ 0; omega); have hx := L142 _ (demS (ga < (numS T len 2 60 P3).2) 4 (numS T len 2 60 P3).1) k la ga l g (numS T len 2 60 P3).2 v113 (hfr.tr hq113.1.d) hDa (by rw [demS_n z0]; exact hq113.2.1) heq hq113.2.2.2 (fun z => by rw [demS_n z0] at z; exact absurd z z0); exact hx)
  have L83 : ∀ (H : HM) (P2 : PS) (tw : Prop) (k la l : Int), FrD h H → DRR H D → TQ H T len (advS T len P2) → fg1 T len P D = fg3 T len la tw P2 D → R32 k → ((advS T len P2).fnd = 0 → (0 ≤ k ∧ k ≤ 3) ∧ (1 < k ↔ tw) ∧ (k % 2 = 1 ↔ 0 < la) ∧ (0 ≤ la ∧ la ≤ 3) ∧ l = (if 0 < la then la else -4)) → Go G mX9_readFigure (rmo (d + 3) 0 0) (ZM G y 0 0 (fun r h1 => r = none ∧ (fun h1 => ∃ (X : PS) (Y : Fg), FrD h h1 ∧ TQ h1 T len (advS T len X) ∧ fg1 T len P D = (endS T len X, cnd ((endS T len X).fnd = 0) (D.wF Y) D) ∧ (X.fnd = 0 → DRR h1 (D.wF Y))) h1)) y 83 [some (.ref 150), some (.int (iZ (1 + 6 * D.nf))), some (.int (iZ k)), some (.int (iZ l)), none, none, none, none] [] H (0, 0) := by
    intro H P2 tw k la l hfr hDH hSH heq hkr hok
    have fH := hSH.f
    have bH := hSH.b
    refine g_aload_n dX9_readFigure_83 rfl rfl (gf_X9_75 (M := mX9_readFigure) rfl dX9_readFigure_84 (yo150 hY) ?_)
    refine g_if_ne 105 dX9_readFigure_87 rfl (by omega) (fun c87 => ?_) (fun c87 => ?_)
    · skip
      refine g_bipush dX9_readFigure_105 kbm4 (g_ist4 dX9_readFigure_107 (by decide) rfl ?_)
      first
      | (have z0 : (advS T len P2).fnd ≠ 0 := (by omega); have hx : ∃ ga P3, fg3 T len la tw P2 D = fg4 T len la ga P3 D ∧ advS T len P3 = advS T len P2 := (by by_cases w : tw; exact ⟨_, _, cnd_t w, by rw [num_adv z0]; exact advS_n z0⟩; exact ⟨_, _, cnd_f w, rfl⟩); obtain ⟨ga, P3, x1, x2⟩ := hx; exact L109 H P3 k la ga l (-4) hfr hDH (by rw [x2]; exact hSH) (heq.trans x1) (by omega) (fun z => by rw [x2] at z; exact absurd z z0))
      | (have z0 := hok (by omega); have w := z0.2.1.mp (by omega); have hla := z0.2.2.1; refine L109 _ (numS T len 1 59 P2).1 k la (numS T len 1 59 P2).2 l v99 (hfr.tr hq99.1.d) (hDH.fr hq99.1) hq99.2.1 (heq.trans (cnd_t w)) (by have := hq99.2.2.2; omega) (fun z => ?_); have z1 : (numS T len 1 59 P2).1.fnd = 0 := advS_0 z; have z2 := vv z1; have z3 := (ckS_v (T := T) (lo := 1) (hi := 59) hSH.2.2.1).2.2 z1; have z4 : 1 ≤ (numS T len 1 59 P2).2 := z3.2.2.1; have z5 : (numS T len 1 59 P2).2 ≤ 59 := z3.2.2.2.1; refine ⟨?_, z0.2.2.2.2, by rw [if_pos (by omega)]; exact z2, z0.2.2.2.1, by omega⟩; rw [if_pos (show 0 < (numS T len 1 59 P2).2 by omega)]; by_cases q : 0 < la; (rw [if_pos q]; omega); (rw [if_neg q]; omega))
      | (have z0 := hok (by omega); have w : ¬ tw := (fun q => by have := z0.2.1.mpr q; omega); have hla := z0.2.2.1; refine L109 H P2 k la 0 l (-4) hfr hDH hSH (heq.trans (cnd_f w)) (by omega) (fun z => ⟨?_, z0.2.2.2.2, rfl, z0.2.2.2.1, by omega⟩); rw [if_neg (show ¬ (0 : Int) < 0 by omega)]; by_cases q : 0 < la; (rw [if_pos q]; omega); (rw [if_neg q]; omega))
    · skip
      refine g_iload_n dX9_readFigure_90 rfl rfl (g_iconst dX9_readFigure_91 ?_)
      refine g_icmp_le 105 dX9_readFigure_92 rfl (by omega) (by omega) (fun c92 => ?_) (fun c92 => ?_)
      · skip
        refine g_bipush dX9_readFigure_105 kbm4 (g_ist4 dX9_readFigure_107 (by decide) rfl ?_)
        first
        | (have z0 : (advS T len P2).fnd ≠ 0 := (by omega); have hx : ∃ ga P3, fg3 T len la tw P2 D = fg4 T len la ga P3 D ∧ advS T len P3 = advS T len P2 := (by by_cases w : tw; exact ⟨_, _, cnd_t w, by rw [num_adv z0]; exact advS_n z0⟩; exact ⟨_, _, cnd_f w, rfl⟩); obtain ⟨ga, P3, x1, x2⟩ := hx; exact L109 H P3 k la ga l (-4) hfr hDH (by rw [x2]; exact hSH) (heq.trans x1) (by omega) (fun z => by rw [x2] at z; exact absurd z z0))
        | (have z0 := hok (by omega); have w := z0.2.1.mp (by omega); have hla := z0.2.2.1; refine L109 _ (numS T len 1 59 P2).1 k la (numS T len 1 59 P2).2 l v99 (hfr.tr hq99.1.d) (hDH.fr hq99.1) hq99.2.1 (heq.trans (cnd_t w)) (by have := hq99.2.2.2; omega) (fun z => ?_); have z1 : (numS T len 1 59 P2).1.fnd = 0 := advS_0 z; have z2 := vv z1; have z3 := (ckS_v (T := T) (lo := 1) (hi := 59) hSH.2.2.1).2.2 z1; have z4 : 1 ≤ (numS T len 1 59 P2).2 := z3.2.2.1; have z5 : (numS T len 1 59 P2).2 ≤ 59 := z3.2.2.2.1; refine ⟨?_, z0.2.2.2.2, by rw [if_pos (by omega)]; exact z2, z0.2.2.2.1, by omega⟩; rw [if_pos (show 0 < (numS T len 1 59 P2).2 by omega)]; by_cases q : 0 < la; (rw [if_pos q]; omega); (rw [if_neg q]; omega))
        | (have z0 := hok (by omega); have w : ¬ tw := (fun q => by have := z0.2.1.mpr q; omega); have hla := z0.2.2.1; refine L109 H P2 k la 0 l (-4) hfr hDH hSH (heq.trans (cnd_f w)) (by omega) (fun z => ⟨?_, z0.2.2.2.2, rfl, z0.2.2.2.1, by omega⟩); rw [if_neg (show ¬ (0 : Int) < 0 by omega)]; by_cases q : 0 < la; (rw [if_pos q]; omega); (rw [if_neg q]; omega))
      · skip
        refine g_aload_n dX9_readFigure_95 rfl rfl (g_iconst dX9_readFigure_96 (g_bipush dX9_readFigure_97 kb59 ?_))
        refine cv_X9_128 (M := mX9_readFigure) rfl dX9_readFigure_99 (yo150 hY) (RO.same _ _ _) (Nat.le_of_ble_eq_true rfl) (e_X9_readNumber hY hSH (by omega) (by omega)) (kQX fun v99 h99 hq99 => ?_)
        have vv : (numS T len 1 59 P2).1.fnd = 0 → v99 = (numS T len 1 59 P2).2 := hq99.2.2.1
        refine g_goto 107 dX9_readFigure_102 rfl (g_ist4 dX9_readFigure_107 (by decide) rfl ?_)
        first
        | (have z0 : (advS T len P2).fnd ≠ 0 := (by omega); have hx : ∃ ga P3, fg3 T len la tw P2 D = fg4 T len la ga P3 D ∧ advS T len P3 = advS T len P2 := (by by_cases w : tw; exact ⟨_, _, cnd_t w, by rw [num_adv z0]; exact advS_n z0⟩; exact ⟨_, _, cnd_f w, rfl⟩); obtain ⟨ga, P3, x1, x2⟩ := hx; exact L109 H P3 k la ga l (-4) hfr hDH (by rw [x2]; exact hSH) (heq.trans x1) (by omega) (fun z => by rw [x2] at z; exact absurd z z0))
        | (have z0 := hok (by omega); have w := z0.2.1.mp (by omega); have hla := z0.2.2.1; refine L109 _ (numS T len 1 59 P2).1 k la (numS T len 1 59 P2).2 l v99 (hfr.tr hq99.1.d) (hDH.fr hq99.1) hq99.2.1 (heq.trans (cnd_t w)) (by have := hq99.2.2.2; omega) (fun z => ?_); have z1 : (numS T len 1 59 P2).1.fnd = 0 := advS_0 z; have z2 := vv z1; have z3 := (ckS_v (T := T) (lo := 1) (hi := 59) hSH.2.2.1).2.2 z1; have z4 : 1 ≤ (numS T len 1 59 P2).2 := z3.2.2.1; have z5 : (numS T len 1 59 P2).2 ≤ 59 := z3.2.2.2.1; refine ⟨?_, z0.2.2.2.2, by rw [if_pos (by omega)]; exact z2, z0.2.2.2.1, by omega⟩; rw [if_pos (show 0 < (numS T len 1 59 P2).2 by omega)]; by_cases q : 0 < la; (rw [if_pos q]; omega); (rw [if_neg q]; omega))
        | (have z0 := hok (by omega); have w : ¬ tw := (fun q => by have := z0.2.1.mpr q; omega); have hla := z0.2.2.1; refine L109 H P2 k la 0 l (-4) hfr hDH hSH (heq.trans (cnd_f w)) (by omega) (fun z => ⟨?_, z0.2.2.2.2, rfl, z0.2.2.2.1, by omega⟩); rw [if_neg (show ¬ (0 : Int) < 0 by omega)]; by_cases q : 0 < la; (rw [if_pos q]; omega); (rw [if_neg q]; omega))
  have L57 : ∀ (H : HM) (P1 : PS) (wo tw : Prop) (k : Int), FrD h H → DRR H D → TQ H T len (advS T len P1) → fg1 T len P D = fg2 T len wo tw P1 D → R32 k → ((advS T len P1).fnd = 0 → (0 ≤ k ∧ k ≤ 3) ∧ (k % 2 = 1 ↔ wo) ∧ (1 < k ↔ tw)) → Go G mX9_readFigure (rmo (d + 3) 0 0) (ZM G y 0 0 (fun r h1 => r = none ∧ (fun h1 => ∃ (X : PS) (Y : Fg), FrD h h1 ∧ TQ h1 T len (advS T len X) ∧ fg1 T len P D = (endS T len X, cnd ((endS T len X).fnd = 0) (D.wF Y) D) ∧ (X.fnd = 0 → DRR h1 (D.wF Y))) h1)) y 57 [some (.ref 150), some (.int (iZ (1 + 6 * D.nf))), some (.int (iZ k)), none, none, none, none, none] [] H (0, 0) := by
    intro H P1 wo tw k hfr hDH hSH heq hkr hok
    have fH := hSH.f
    have bH := hSH.b
    refine g_aload_n dX9_readFigure_57 rfl rfl (gf_X9_75 (M := mX9_readFigure) rfl dX9_readFigure_58 (yo150 hY) ?_)
    refine g_if_ne 80 dX9_readFigure_61 rfl (by omega) (fun c61 => ?_) (fun c61 => ?_)
    · skip
      refine g_bipush dX9_readFigure_80 kbm4 (g_ist3 dX9_readFigure_82 (by decide) rfl ?_)
      first
      | (have z0 : (advS T len P1).fnd ≠ 0 := (by omega); have hx : ∃ la P2, fg2 T len wo tw P1 D = fg3 T len la tw P2 D ∧ advS T len P2 = advS T len P1 := (by by_cases w : wo; exact ⟨_, _, cnd_t w, by rw [num_adv z0]; exact advS_n z0⟩; exact ⟨_, _, cnd_f w, rfl⟩); obtain ⟨la, P2, x1, x2⟩ := hx; exact L83 H P2 tw k la (-4) hfr hDH (by rw [x2]; exact hSH) (heq.trans x1) hkr (fun z => by rw [x2] at z; exact absurd z z0))
      | (have z0 := hok (by omega); have w := z0.2.1.mp (by omega); refine L83 _ (numS T len 1 3 P1).1 tw k (numS T len 1 3 P1).2 v74 (hfr.tr hq74.1.d) (hDH.fr hq74.1) hq74.2.1 (heq.trans (cnd_t w)) hkr (fun z => ?_); have z1 : (numS T len 1 3 P1).1.fnd = 0 := advS_0 z; have z2 := vv z1; have z3 := (ckS_v (T := T) (lo := 1) (hi := 3) hSH.2.2.1).2.2 z1; have z4 : 1 ≤ (numS T len 1 3 P1).2 := z3.2.2.1; have z5 : (numS T len 1 3 P1).2 ≤ 3 := z3.2.2.2.1; exact ⟨hkk, z0.2.2, ⟨fun _ => by omega, fun _ => by omega⟩, by omega, by rw [if_pos (by omega)]; exact z2⟩)
      | (have z0 := hok (by omega); have w : ¬ wo := (fun q => by have := z0.2.1.mpr q; omega); exact L83 H P1 tw k 0 (-4) hfr hDH hSH (heq.trans (cnd_f w)) hkr (fun z => ⟨hkk, z0.2.2, ⟨fun q => by omega, fun q => by omega⟩, by omega, rfl⟩))
    · skip
      have hkk := (hok (by omega)).1
      refine g_iload_n dX9_readFigure_64 rfl rfl (g_iconst dX9_readFigure_65 (g_iremP dX9_readFigure_66 (by omega) (by omega) (g_iconst dX9_readFigure_67 ?_)))
      refine g_icmp_ne 80 dX9_readFigure_68 rfl (by omega) (by omega) (fun c68 => ?_) (fun c68 => ?_)
      · skip
        refine g_bipush dX9_readFigure_80 kbm4 (g_ist3 dX9_readFigure_82 (by decide) rfl ?_)
        first
        | (have z0 : (advS T len P1).fnd ≠ 0 := (by omega); have hx : ∃ la P2, fg2 T len wo tw P1 D = fg3 T len la tw P2 D ∧ advS T len P2 = advS T len P1 := (by by_cases w : wo; exact ⟨_, _, cnd_t w, by rw [num_adv z0]; exact advS_n z0⟩; exact ⟨_, _, cnd_f w, rfl⟩); obtain ⟨la, P2, x1, x2⟩ := hx; exact L83 H P2 tw k la (-4) hfr hDH (by rw [x2]; exact hSH) (heq.trans x1) hkr (fun z => by rw [x2] at z; exact absurd z z0))
        | (have z0 := hok (by omega); have w := z0.2.1.mp (by omega); refine L83 _ (numS T len 1 3 P1).1 tw k (numS T len 1 3 P1).2 v74 (hfr.tr hq74.1.d) (hDH.fr hq74.1) hq74.2.1 (heq.trans (cnd_t w)) hkr (fun z => ?_); have z1 : (numS T len 1 3 P1).1.fnd = 0 := advS_0 z; have z2 := vv z1; have z3 := (ckS_v (T := T) (lo := 1) (hi := 3) hSH.2.2.1).2.2 z1; have z4 : 1 ≤ (numS T len 1 3 P1).2 := z3.2.2.1; have z5 : (numS T len 1 3 P1).2 ≤ 3 := z3.2.2.2.1; exact ⟨hkk, z0.2.2, ⟨fun _ => by omega, fun _ => by omega⟩, by omega, by rw [if_pos (by omega)]; exact z2⟩)
        | (have z0 := hok (by omega); have w : ¬ wo := (fun q => by have := z0.2.1.mpr q; omega); exact L83 H P1 tw k 0 (-4) hfr hDH hSH (heq.trans (cnd_f w)) hkr (fun z => ⟨hkk, z0.2.2, ⟨fun q => by omega, fun q => by omega⟩, by omega, rfl⟩))
      · skip
        refine g_aload_n dX9_readFigure_71 rfl rfl (g_iconst dX9_readFigure_72 (g_iconst dX9_readFigure_73 ?_))
        refine cv_X9_128 (M := mX9_readFigure) rfl dX9_readFigure_74 (yo150 hY) (RO.same _ _ _) (Nat.le_of_ble_eq_true rfl) (e_X9_readNumber hY hSH (by omega) (by omega)) (kQX fun v74 h74 hq74 => ?_)
        have vv : (numS T len 1 3 P1).1.fnd = 0 → v74 = (numS T len 1 3 P1).2 := hq74.2.2.1
        refine g_goto 82 dX9_readFigure_77 rfl (g_ist3 dX9_readFigure_82 (by decide) rfl ?_)
        first
        | (have z0 : (advS T len P1).fnd ≠ 0 := (by omega); have hx : ∃ la P2, fg2 T len wo tw P1 D = fg3 T len la tw P2 D ∧ advS T len P2 = advS T len P1 := (by by_cases w : wo; exact ⟨_, _, cnd_t w, by rw [num_adv z0]; exact advS_n z0⟩; exact ⟨_, _, cnd_f w, rfl⟩); obtain ⟨la, P2, x1, x2⟩ := hx; exact L83 H P2 tw k la (-4) hfr hDH (by rw [x2]; exact hSH) (heq.trans x1) hkr (fun z => by rw [x2] at z; exact absurd z z0))
        | (have z0 := hok (by omega); have w := z0.2.1.mp (by omega); refine L83 _ (numS T len 1 3 P1).1 tw k (numS T len 1 3 P1).2 v74 (hfr.tr hq74.1.d) (hDH.fr hq74.1) hq74.2.1 (heq.trans (cnd_t w)) hkr (fun z => ?_); have z1 : (numS T len 1 3 P1).1.fnd = 0 := advS_0 z; have z2 := vv z1; have z3 := (ckS_v (T := T) (lo := 1) (hi := 3) hSH.2.2.1).2.2 z1; have z4 : 1 ≤ (numS T len 1 3 P1).2 := z3.2.2.1; have z5 : (numS T len 1 3 P1).2 ≤ 3 := z3.2.2.2.1; exact ⟨hkk, z0.2.2, ⟨fun _ => by omega, fun _ => by omega⟩, by omega, by rw [if_pos (by omega)]; exact z2⟩)
        | (have z0 := hok (by omega); have w : ¬ wo := (fun q => by have := z0.2.1.mpr q; omega); exact L83 H P1 tw k 0 (-4) hfr hDH hSH (heq.trans (cnd_f w)) hkr (fun z => ⟨hkk, z0.2.2, ⟨fun q => by omega, fun q => by omega⟩, by omega, rfl⟩))
  have L37 : ∀ (k : Int), KQ T P k → Go G mX9_readFigure (rmo (d + 3) 0 0) (ZM G y 0 0 (fun r h1 => r = none ∧ (fun h1 => ∃ (X : PS) (Y : Fg), FrD h h1 ∧ TQ h1 T len (advS T len X) ∧ fg1 T len P D = (endS T len X, cnd ((endS T len X).fnd = 0) (D.wF Y) D) ∧ (X.fnd = 0 → DRR h1 (D.wF Y))) h1)) y 37 [some (.ref 150), some (.int (iZ (1 + 6 * D.nf))), some (.int (iZ k)), none, none, none, none, none] [] h (0, 0) := by
    intro k hk
    obtain ⟨hk1, hk2, hk3⟩ := hk
    refine g_aload_n dX9_readFigure_37 rfl rfl (g_iload_n dX9_readFigure_38 rfl rfl (g_bipush dX9_readFigure_39 kbm4 ?_))
    refine g_icmp_eq 48 dX9_readFigure_41 rfl (by omega) (by omega) (fun c41 => ?_) (fun c41 => ?_)
    · skip
      refine g_iconst dX9_readFigure_48 (g_iconst dX9_readFigure_49 ?_)
      refine cv_X9_113 (M := mX9_readFigure) rfl dX9_readFigure_50 (yo150 hY) (RO.same _ _ _) (Nat.le_of_ble_eq_true rfl) (e_X9_needs hY (by omega) (by omega) (by omega)) (kQV fun h50 hq50 => ?_)
      have t50 := hS.dem hq50 (by omega) (iff_b hk2 (by omega))
      refine g_aload_n dX9_readFigure_53 rfl rfl ?_
      refine cv_X9_121 (M := mX9_readFigure) rfl dX9_readFigure_54 (yo150 hY) (RO.same _ _ _) (Nat.le_of_ble_eq_true rfl) (e_X9_next1 hY t50) (kQV fun h54 hq54 => ?_)
      exact L57 _ _ _ _ k (hq50.1.tr hq54.1).d ((hD.fr hq50.1).fr hq54.1) hq54.2 rfl (by omega) (fun z => hk3 (demS_0 (by omega) (advS_0 z)).2)
    · skip
      refine g_iconst dX9_readFigure_44 (g_goto 49 dX9_readFigure_45 rfl (g_iconst dX9_readFigure_49 ?_))
      refine cv_X9_113 (M := mX9_readFigure) rfl dX9_readFigure_50 (yo150 hY) (RO.same _ _ _) (Nat.le_of_ble_eq_true rfl) (e_X9_needs hY (by omega) (by omega) (by omega)) (kQV fun h50 hq50 => ?_)
      have t50 := hS.dem hq50 (by omega) (iff_b hk2 (by omega))
      refine g_aload_n dX9_readFigure_53 rfl rfl ?_
      refine cv_X9_121 (M := mX9_readFigure) rfl dX9_readFigure_54 (yo150 hY) (RO.same _ _ _) (Nat.le_of_ble_eq_true rfl) (e_X9_next1 hY t50) (kQV fun h54 hq54 => ?_)
      exact L57 _ _ _ _ k (hq50.1.tr hq54.1).d ((hD.fr hq50.1).fr hq54.1) hq54.2 rfl (by omega) (fun z => hk3 (demS_0 (by omega) (advS_0 z)).2)
  refine g_iconst dX9_readFigure_0 (g_bipush dX9_readFigure_1 kb6 (g_aload_n dX9_readFigure_3 rfl rfl (gf_X9_17 (M := mX9_readFigure) rfl dX9_readFigure_4 (yo150 hY) (yr150_3 hY) (g_iconst dX9_readFigure_7 (g_iaN 0 dX9_readFigure_8 (ya153 hY) ⟨by decide, by decide, by decide⟩ rfl ?_)))))
  rw [en0]
  refine g_imul dX9_readFigure_9 (g_iadd dX9_readFigure_10 (g_ist1 dX9_readFigure_11 (by decide) rfl (g_aload_n dX9_readFigure_12 rfl rfl (gf_X9_75 (M := mX9_readFigure) rfl dX9_readFigure_13 (yo150 hY) ?_))))
  refine g_if_ne 34 dX9_readFigure_16 rfl (by omega) (fun c16 => absurd c16 (by omega)) (fun c16 => ?_)
  refine g_aload_n dX9_readFigure_19 rfl rfl (gf_X9_99 (M := mX9_readFigure) rfl dX9_readFigure_20 (yo150 hY) (g_iconst dX9_readFigure_23 ?_))
  refine g_icmp_ne 34 dX9_readFigure_24 rfl (by omega) (by omega) (fun c24 => ?_) (fun c24 => ?_)
  · skip
    refine g_bipush dX9_readFigure_34 kbm4 (g_ist2 dX9_readFigure_36 (by decide) rfl ?_)
    first | exact L37 _ (kq_of hq28) | exact L37 _ (kq_no (by omega))
  · skip
    refine g_aload_n dX9_readFigure_27 rfl rfl ?_
    refine cv_X9_124 (M := mX9_readFigure) rfl dX9_readFigure_28 (yo150 hY) (RO.same _ _ _) (Nat.le_of_ble_eq_true rfl) (e_X9_kindNow hY hS (by omega)) (kQI fun v28 hq28 => ?_)
    refine g_goto 36 dX9_readFigure_31 rfl (g_ist2 dX9_readFigure_36 (by decide) rfl ?_)
    first | exact L37 _ (kq_of hq28) | exact L37 _ (kq_no (by omega))
