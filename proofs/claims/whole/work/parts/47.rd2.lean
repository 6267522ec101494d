/-! what a text tells: figures, votes, what sticks, the reach; whether these two have been told -/
abbrev DT : Type := Int × (Nat → Fg) × Int × (Nat → Fg) × (Int × Int × Int × Int) × Int × Int
def DT.nf (D : DT) : Int := D.1
def DT.F (D : DT) : Nat → Fg := D.2.1
def DT.nv (D : DT) : Int := D.2.2.1
def DT.V (D : DT) : Nat → Fg := D.2.2.2.1
def DT.sd (D : DT) : Int := D.2.2.2.2.1.1
def DT.sf (D : DT) : Int := D.2.2.2.2.1.2.1
def DT.s2 (D : DT) : Int := D.2.2.2.2.1.2.2.1
def DT.rc (D : DT) : Int := D.2.2.2.2.1.2.2.2
def DT.hs (D : DT) : Int := D.2.2.2.2.2.1
def DT.hr (D : DT) : Int := D.2.2.2.2.2.2
def DT.wS (D : DT) (a b c : Int) : DT := (D.nf, D.F, D.nv, D.V, (a, b, c, D.rc), 1, D.hr)
def DT.wR (D : DT) (a : Int) : DT := (D.nf, D.F, D.nv, D.V, (D.sd, D.sf, D.s2, a), D.hs, 1)
def DT.wV (D : DT) (X : Fg) : DT := (D.nf, D.F, D.nv + 1, upF D.V D.nv.toNat X, (D.sd, D.sf, D.s2, D.rc), D.hs, D.hr)
def DT.wF (D : DT) (X : Fg) : DT := (D.nf + 1, upF D.F D.nf.toNat X, D.nv, D.V, (D.sd, D.sf, D.s2, D.rc), D.hs, D.hr)
def DT.lv (D : DT) : Int := if 0 < D.nv then (D.V (D.nv - 1).toNat).1 else 0
abbrev VoB (V : Fg) : Prop := (0 ≤ V.1 ∧ V.1 ≤ 99) ∧ (0 ≤ V.2.1 ∧ V.2.1 < 6) ∧ (2 ≤ V.2.2.1 ∧ V.2.2.1 ≤ 60) ∧ (0 ≤ V.2.2.2.1 ∧ V.2.2.2.1 < V.2.2.1) ∧ (0 ≤ V.2.2.2.2 ∧ V.2.2.2.2 ≤ 8)
def DV (D : DT) : Prop := ((0 ≤ D.nf ∧ D.nf ≤ 6) ∧ ∀ i : Nat, (i : Int) < D.nf → FgB (D.F i)) ∧ ((0 ≤ D.nv ∧ D.nv ≤ 6) ∧ ∀ i : Nat, (i : Int) < D.nv → VoB (D.V i)) ∧ (D.hs = 0 ∨ D.hs = 1) ∧ (D.hr = 0 ∨ D.hr = 1)
/-- the lines -/
noncomputable def stA (T : Nat → Int) (len : Int) (P : PS) (D : DT) : PS × Int := numS T len 0 8 (demS (D.hs = 0) 4 P)
noncomputable def stB (T : Nat → Int) (len : Int) (P : PS) (D : DT) : PS × Int := numS T len 0 365 (stA T len P D).1
noncomputable def stC' (T : Nat → Int) (len : Int) (P : PS) (D : DT) : PS × Int := numS T len (stB T len P D).2 365 (stB T len P D).1
noncomputable def stS (T : Nat → Int) (len : Int) (P : PS) (D : DT) : PS × DT := (endS T len (stC' T len P D).1, D.wS (stA T len P D).2 (stB T len P D).2 (stC' T len P D).2)
noncomputable def reA (T : Nat → Int) (len : Int) (P : PS) (D : DT) : PS × Int := numS T len 0 3 (demS (D.hr = 0) 4 P)
noncomputable def reS (T : Nat → Int) (len : Int) (P : PS) (D : DT) : PS × DT := (endS T len (reA T len P D).1, D.wR (reA T len P D).2)
noncomputable def voA (T : Nat → Int) (len : Int) (P : PS) (D : DT) : PS × Int := numS T len D.lv 99 (demS (D.nv < 6) 5 P)
noncomputable def voB (T : Nat → Int) (len : Int) (P : PS) (D : DT) : PS × Int := numS T len 0 5 (voA T len P D).1
noncomputable def voC (T : Nat → Int) (len : Int) (P : PS) (D : DT) : PS × Int := numS T len 2 60 (voB T len P D).1
noncomputable def voD (T : Nat → Int) (len : Int) (P : PS) (D : DT) : PS × Int := numS T len 0 ((voC T len P D).2 - 1) (voC T len P D).1
noncomputable def voE (T : Nat → Int) (len : Int) (P : PS) (D : DT) : PS × Int := numS T len 0 8 (voD T len P D).1
noncomputable def voX (T : Nat → Int) (len : Int) (P : PS) (D : DT) : Fg := ((voA T len P D).2, (voB T len P D).2, (voC T len P D).2, (voD T len P D).2, (voE T len P D).2)
noncomputable def voS (T : Nat → Int) (len : Int) (P : PS) (D : DT) : PS × DT := (endS T len (voE T len P D).1, cnd ((endS T len (voE T len P D).1).fnd = 0) (D.wV (voX T len P D)) D)
noncomputable def fg6 (T : Nat → Int) (len la ga te st : Int) (P : PS) (D : DT) : PS × DT := (endS T len (numS T len 0 8 P).1, cnd ((endS T len (numS T len 0 8 P).1).fnd = 0) (D.wF (te, st, (numS T len 0 8 P).2, la, ga)) D)
noncomputable def fg5 (T : Nat → Int) (len la ga te : Int) (P : PS) (D : DT) : PS × DT := fg6 T len la ga te (numS T len 0 59 P).2 (demS ((numS T len 0 59 P).2 < te) 4 (numS T len 0 59 P).1) D
noncomputable def fg4 (T : Nat → Int) (len la ga : Int) (P : PS) (D : DT) : PS × DT := fg5 T len la ga (numS T len 2 60 P).2 (demS (ga < (numS T len 2 60 P).2) 4 (numS T len 2 60 P).1) D
noncomputable def fg3 (T : Nat → Int) (len la : Int) (tw : Prop) (P : PS) (D : DT) : PS × DT := cnd tw (fg4 T len la (numS T len 1 59 P).2 (numS T len 1 59 P).1 D) (fg4 T len la 0 P D)
noncomputable def fg2 (T : Nat → Int) (len : Int) (wo tw : Prop) (P : PS) (D : DT) : PS × DT := cnd wo (fg3 T len (numS T len 1 3 P).2 tw (numS T len 1 3 P).1 D) (fg3 T len 0 tw P D)
noncomputable def fg1 (T : Nat → Int) (len : Int) (P : PS) (D : DT) : PS × DT := fg2 T len (IsNm T P 4 ∨ IsNm T P 5) (IsNm T P 4 ∨ IsNm T P 6) (demS ((IsNm T P 4 ∨ IsNm T P 5) ∨ (IsNm T P 4 ∨ IsNm T P 6) ∨ IsNm T P 7) 2 P) D
noncomputable def fgS (T : Nat → Int) (len : Int) (P : PS) (D : DT) : PS × DT := fg1 T len (advS T len (demS (D.nf < 6) 5 P)) D
noncomputable def liS (T : Nat → Int) (len : Int) (P : PS) (D : DT) : PS × DT := cnd (IsNm T P 0) (fgS T len P D) (cnd (IsNm T P 1) (stS T len P D) (cnd (IsNm T P 2) (reS T len P D) (cnd (IsNm T P 3) (voS T len P D) (demS False 2 P, D))))
/-- no fault now: none before -/
theorem demS_0 {B : Prop} {c : Int} {P : PS} (hc : c ≠ 0) (h : (demS B c P).fnd = 0) : P.fnd = 0 ∧ B := by
  by_cases z : P.fnd = 0
  · refine ⟨z, Classical.byContradiction fun w => ?_⟩
    rw [demS_f w z] at h
    exact hc h
  · rw [demS_n z] at h; exact absurd h z
theorem advS_0 {T : Nat → Int} {len : Int} {P : PS} (h : (advS T len P).fnd = 0) : P.fnd = 0 := Decidable.byContradiction fun z => by rw [advS_n z] at h; exact z h
theorem numS_0 {T : Nat → Int} {len lo hi : Int} {P : PS} (hB : PB T len P) (h : (numS T len lo hi P).1.fnd = 0) : P.fnd = 0 ∧ lo ≤ (numS T len lo hi P).2 ∧ (numS T len lo hi P).2 ≤ hi := by
  have q := (ckS_v (lo := lo) (hi := hi) hB.adv).2.2 h
  exact ⟨advS_0 q.1, q.2.2.1, q.2.2.2.1⟩
theorem endS_0 {T : Nat → Int} {len : Int} {P : PS} (h : (endS T len P).fnd = 0) : P.fnd = 0 := advS_0 (demS_0 (by decide) h).1
theorem PB.num {T : Nat → Int} {len lo hi : Int} {P : PS} (h : PB T len P) : PB T len (numS T len lo hi P).1 := (ckS_v h.adv).1
theorem PB.en {T : Nat → Int} {len : Int} {P : PS} (h : PB T len P) : PB T len (endS T len P) := h.adv.dem _ (by decide)
/-- the class's draft -/
def DrC (h : HM) (u : Nat) (D : DT) : Prop := (h.I 40 3 = D.nf ∧ ∀ i : Nat, (i : Int) < D.nf → c5 h (40 + 4 + i) = D.F i) ∧ (h.I 40 4 = D.nv ∧ ∀ i : Nat, (i : Int) < D.nv → c5 h (40 + 10 + i) = D.V i) ∧ (h.I 40 6 = D.sd ∧ h.I 40 7 = D.sf ∧ h.I 40 8 = D.s2 ∧ h.I 40 9 = D.rc ∧ h.I 40 5 = 0) ∧ h.I u 5 = D.hs ∧ h.I u 6 = D.hr
def FrL (u : Nat) (h h1 : HM) : Prop := h1.L = h.L ∧ ∀ a j : Nat, a ≠ u → (a < 40 ∨ 68 ≤ a) → h1.I a j = h.I a j
theorem FrP.l {u : Nat} {h h1 : HM} (f : FrP u h h1) : FrL u h h1 := ⟨f.1, fun a j q _ => f.2 a j (Or.inl q)⟩
theorem FrL.tr {u : Nat} {h h1 h2 : HM} (a : FrL u h h1) (b : FrL u h1 h2) : FrL u h h2 := ⟨b.1.trans a.1, fun x j q z => (b.2 x j q z).trans (a.2 x j q z)⟩
theorem FrL.rf (u : Nat) (h : HM) : FrL u h h := ⟨rfl, fun _ _ _ _ => rfl⟩
theorem FrL.s {u : Nat} {h h1 : HM} (f : FrL u h h1) {a : Nat} (ha : a = u ∨ (40 ≤ a ∧ a < 68)) (j : Nat) (v : Int) : FrL u h (h1.sI a j v) := ⟨f.1, fun x k q z => by rw [sI_I, if_neg (by omega)]; exact f.2 x k q z⟩
theorem c5_eq {h h1 : HM} {a : Nat} (e : ∀ j, h1.I a j = h.I a j) : c5 h1 a = c5 h a := by unfold c5; rw [e, e, e, e, e]
theorem DrC.fr {u : Nat} {h h1 : HM} {D : DT} (hD : DrC h u D) (hV : DV D) (hr : 161 ≤ u) (f : FrP u h h1) : DrC h1 u D := by
  have e : ∀ a j, a < 161 → h1.I a j = h.I a j := fun a j q => f.2 a j (by omega)
  have hn := hV.1.1; have hm := hV.2.1.1
  refine ⟨⟨(e _ _ (by decide)).trans hD.1.1, fun i hi => (c5_eq fun j => e _ j (by omega)).trans (hD.1.2 i hi)⟩, ⟨(e _ _ (by decide)).trans hD.2.1.1, fun i hi => (c5_eq fun j => e _ j (by omega)).trans (hD.2.1.2 i hi)⟩, ⟨(e _ _ (by decide)).trans hD.2.2.1.1, (e _ _ (by decide)).trans hD.2.2.1.2.1, (e _ _ (by decide)).trans hD.2.2.1.2.2.1, (e _ _ (by decide)).trans hD.2.2.1.2.2.2.1, (e _ _ (by decide)).trans hD.2.2.1.2.2.2.2⟩, (f.2 u 5 (by omega)).trans hD.2.2.2.1, (f.2 u 6 (by omega)).trans hD.2.2.2.2⟩
/-- a step that leaves the reader's own numbers and the tape -/
theorem TS.by {h h1 : HM} {u : Nat} {T : Nat → Int} {len : Int} {P : PS} (hS : TS h u T len P) (hu : ∀ j, j = 2 ∨ j = 3 ∨ j = 4 ∨ j = 7 ∨ j = 8 → h1.I u j = h.I u j) (h1' : ∀ j, h1.I 11 j = h.I 11 j) (h2 : h1.I 10 1 = h.I 10 1) : TS h1 u T len P := by
  refine ⟨⟨?_, h2.trans hS.1.2.1, hS.1.2.2⟩, ?_, hS.2.2⟩
  · funext j; rw [h1', hS.1.1]
  · rw [← hS.2.1]; unfold rdP; rw [hu 2 (by omega), hu 3 (by omega), hu 4 (by omega), hu 7 (by omega), hu 8 (by omega)]
theorem TS.s {h : HM} {u : Nat} {T : Nat → Int} {len : Int} {P : PS} (hS : TS h u T len P) (hr : 161 ≤ u) {a j : Nat} (ha : (a = u ∧ (j = 5 ∨ j = 6)) ∨ (40 ≤ a ∧ a < 68)) (v : Int) : TS (h.sI a j v) u T len P :=
  hS.by (fun k hk => by rw [sI_I, if_neg (by omega)]) (fun k => by rw [sI_I, if_neg (by omega)]) (by rw [sI_I, if_neg (by omega)])
theorem DrC.s5 {u : Nat} {h : HM} {D : DT} (hD : DrC h u D) (hV : DV D) (hr : 161 ≤ u) : DrC (h.sI u 5 1) u (D.nf, D.F, D.nv, D.V, (D.sd, D.sf, D.s2, D.rc), 1, D.hr) := by
  have e : ∀ a j, a < 161 → (h.sI u 5 1).I a j = h.I a j := fun a j q => by rw [sI_I, if_neg (by omega)]
  have hn := hV.1.1; have hm := hV.2.1.1
  refine ⟨⟨(e _ _ (by decide)).trans hD.1.1, fun i hi => (c5_eq fun j => e _ j (by have hi : (i : Int) < D.nf := hi; omega)).trans (hD.1.2 i hi)⟩, ⟨(e _ _ (by decide)).trans hD.2.1.1, fun i hi => (c5_eq fun j => e _ j (by have hi : (i : Int) < D.nv := hi; omega)).trans (hD.2.1.2 i hi)⟩, ⟨(e _ _ (by decide)).trans hD.2.2.1.1, (e _ _ (by decide)).trans hD.2.2.1.2.1, (e _ _ (by decide)).trans hD.2.2.1.2.2.1, (e _ _ (by decide)).trans hD.2.2.1.2.2.2.1, (e _ _ (by decide)).trans hD.2.2.1.2.2.2.2⟩, by rw [sI_I, if_pos ⟨rfl, rfl⟩]; rfl, by rw [sI_I, if_neg (by omega)]; exact hD.2.2.2.2⟩
theorem DrC.s6 {u : Nat} {h : HM} {D : DT} (hD : DrC h u D) (hV : DV D) (hr : 161 ≤ u) : DrC (h.sI u 6 1) u (D.nf, D.F, D.nv, D.V, (D.sd, D.sf, D.s2, D.rc), D.hs, 1) := by
  have e : ∀ a j, a < 161 → (h.sI u 6 1).I a j = h.I a j := fun a j q => by rw [sI_I, if_neg (by omega)]
  have hn := hV.1.1; have hm := hV.2.1.1
  refine ⟨⟨(e _ _ (by decide)).trans hD.1.1, fun i hi => (c5_eq fun j => e _ j (by have hi : (i : Int) < D.nf := hi; omega)).trans (hD.1.2 i hi)⟩, ⟨(e _ _ (by decide)).trans hD.2.1.1, fun i hi => (c5_eq fun j => e _ j (by have hi : (i : Int) < D.nv := hi; omega)).trans (hD.2.1.2 i hi)⟩, ⟨(e _ _ (by decide)).trans hD.2.2.1.1, (e _ _ (by decide)).trans hD.2.2.1.2.1, (e _ _ (by decide)).trans hD.2.2.1.2.2.1, (e _ _ (by decide)).trans hD.2.2.1.2.2.2.1, (e _ _ (by decide)).trans hD.2.2.1.2.2.2.2⟩, by rw [sI_I, if_neg (by omega)]; exact hD.2.2.2.1, by rw [sI_I, if_pos ⟨rfl, rfl⟩]; rfl⟩
theorem DrC.wJe {u : Nat} {h : HM} {D : DT} (hD : DrC h u D) (hV : DV D) (hr : 161 ≤ u) (hh : D.hs = 1) (a b c : Int) : DrC (wJ h 40 a b c) u (D.wS a b c) := by
  have e : ∀ x j, x ≠ 40 ∨ (j < 6 ∨ 8 < j) → (wJ h 40 a b c).I x j = h.I x j := fun x j q => by unfold wJ; rw [sI_I, if_neg (by omega), sI_I, if_neg (by omega), sI_I, if_neg (by omega)]
  have hn := hV.1.1; have hm := hV.2.1.1
  refine ⟨⟨(e _ _ (by omega)).trans hD.1.1, fun i hi => (c5_eq fun j => e _ j (by omega)).trans (hD.1.2 i hi)⟩, ⟨(e _ _ (by omega)).trans hD.2.1.1, fun i hi => (c5_eq fun j => e _ j (by omega)).trans (hD.2.1.2 i hi)⟩, ⟨?_, ?_, ?_, (e _ _ (by omega)).trans hD.2.2.1.2.2.2.1, (e _ _ (by omega)).trans hD.2.2.1.2.2.2.2⟩, (e _ _ (by omega)).trans (hD.2.2.2.1.trans hh), (e _ _ (by omega)).trans hD.2.2.2.2⟩ <;> simp [wJ, HM.sI, HM.I, up2, DT.wS, DT.sd, DT.sf, DT.s2]
theorem DrC.s9 {u : Nat} {h : HM} {D : DT} (hD : DrC h u D) (hV : DV D) (hr : 161 ≤ u) (hh : D.hr = 1) (a : Int) : DrC (h.sI 40 9 a) u (D.wR a) := by
  have e : ∀ x j, x ≠ 40 ∨ j ≠ 9 → (h.sI 40 9 a).I x j = h.I x j := fun x j q => by rw [sI_I, if_neg (by omega)]
  have hn := hV.1.1; have hm := hV.2.1.1
  refine ⟨⟨(e _ _ (by omega)).trans hD.1.1, fun i hi => (c5_eq fun j => e _ j (by omega)).trans (hD.1.2 i hi)⟩, ⟨(e _ _ (by omega)).trans hD.2.1.1, fun i hi => (c5_eq fun j => e _ j (by omega)).trans (hD.2.1.2 i hi)⟩, ⟨(e _ _ (by omega)).trans hD.2.2.1.1, (e _ _ (by omega)).trans hD.2.2.1.2.1, (e _ _ (by omega)).trans hD.2.2.1.2.2.1, by rw [sI_I, if_pos ⟨rfl, rfl⟩]; rfl, (e _ _ (by omega)).trans hD.2.2.1.2.2.2.2⟩, (e _ _ (by omega)).trans hD.2.2.2.1, (e _ _ (by omega)).trans (hD.2.2.2.2.trans hh)⟩
theorem wr5_e {h : HM} {a : Nat} {X : Fg} {x j : Nat} (q : x ≠ a) : (wr5 h a X).I x j = h.I x j := wr5_I _ _ _ _ _ (Or.inl q)
theorem DrC.wV {u : Nat} {h : HM} {D : DT} (hD : DrC h u D) (hV : DV D) (hr : 161 ≤ u) (h5 : D.nv ≤ 5) (X : Fg) : DrC ((wr5 h (40 + 10 + (h.I 40 4).toNat) X).sI 40 4 (h.I 40 4 + 1)) u (D.wV X) := by
  have hn := hV.1.1; have hm := hV.2.1.1
  have e4 := hD.2.1.1
  rw [e4]
  have e : ∀ x j, (x ≠ 40 ∨ j ≠ 4) → x ≠ 40 + 10 + D.nv.toNat → ((wr5 h (40 + 10 + D.nv.toNat) X).sI 40 4 (D.nv + 1)).I x j = h.I x j := fun x j q q2 => by rw [sI_I, if_neg (by omega), wr5_e q2]
  refine ⟨⟨(e _ _ (by omega) (by omega)).trans hD.1.1, fun i hi => (c5_eq fun j => e _ j (by omega) (by have hi : (i : Int) < D.nf := hi; omega)).trans (hD.1.2 i hi)⟩, ⟨by rw [sI_I, if_pos ⟨rfl, rfl⟩]; rfl, fun i hi => ?_⟩, ⟨(e _ _ (by omega) (by omega)).trans hD.2.2.1.1, (e _ _ (by omega) (by omega)).trans hD.2.2.1.2.1, (e _ _ (by omega) (by omega)).trans hD.2.2.1.2.2.1, (e _ _ (by omega) (by omega)).trans hD.2.2.1.2.2.2.1, (e _ _ (by omega) (by omega)).trans hD.2.2.1.2.2.2.2⟩, (e _ _ (by omega) (by omega)).trans hD.2.2.2.1, (e _ _ (by omega) (by omega)).trans hD.2.2.2.2⟩
  have hi : (i : Int) < D.nv + 1 := hi
  show _ = upF D.V D.nv.toNat X i
  unfold upF
  by_cases q : i = D.nv.toNat
  · rw [if_pos q, q]
    rw [c5_eq (h := wr5 h (40 + 10 + D.nv.toNat) X) (fun j => by rw [sI_I, if_neg (by omega)]), c5_wr5]
  · rw [if_neg q]
    exact (c5_eq fun j => e _ j (by omega) (by omega)).trans (hD.2.1.2 i (by omega))
theorem DrC.wF {u : Nat} {h : HM} {D : DT} (hD : DrC h u D) (hV : DV D) (hr : 161 ≤ u) (h5 : D.nf ≤ 5) (X : Fg) : DrC ((wr5 h (40 + 4 + D.nf.toNat) X).sI 40 3 (D.nf + 1)) u (D.wF X) := by
  have hn := hV.1.1; have hm := hV.2.1.1
  have e : ∀ x j, (x ≠ 40 ∨ j ≠ 3) → x ≠ 40 + 4 + D.nf.toNat → ((wr5 h (40 + 4 + D.nf.toNat) X).sI 40 3 (D.nf + 1)).I x j = h.I x j := fun x j q q2 => by rw [sI_I, if_neg (by omega), wr5_e q2]
  refine ⟨⟨by rw [sI_I, if_pos ⟨rfl, rfl⟩]; rfl, fun i hi => ?_⟩, ⟨(e _ _ (by omega) (by omega)).trans hD.2.1.1, fun i hi => (c5_eq fun j => e _ j (by omega) (by omega)).trans (hD.2.1.2 i hi)⟩, ⟨(e _ _ (by omega) (by omega)).trans hD.2.2.1.1, (e _ _ (by omega) (by omega)).trans hD.2.2.1.2.1, (e _ _ (by omega) (by omega)).trans hD.2.2.1.2.2.1, (e _ _ (by omega) (by omega)).trans hD.2.2.1.2.2.2.1, (e _ _ (by omega) (by omega)).trans hD.2.2.1.2.2.2.2⟩, (e _ _ (by omega) (by omega)).trans hD.2.2.2.1, (e _ _ (by omega) (by omega)).trans hD.2.2.2.2⟩
  have hi : (i : Int) < D.nf + 1 := hi
  show _ = upF D.F D.nf.toNat X i
  unfold upF
  by_cases q : i = D.nf.toNat
  · rw [if_pos q, q]
    rw [c5_eq (h := wr5 h (40 + 4 + D.nf.toNat) X) (fun j => by rw [sI_I, if_neg (by omega)]), c5_wr5]
  · rw [if_neg q]
    exact (c5_eq fun j => e _ j (by omega) (by omega)).trans (hD.1.2 i (by omega))
theorem FrL.wJe {u : Nat} {h h1 : HM} (f : FrL u h h1) (a b c : Int) : FrL u h (wJ h1 40 a b c) := ((f.s (a := 40) (by omega) 6 a).s (a := 40) (by omega) 7 b).s (a := 40) (by omega) 8 c
theorem TS.wJe {h : HM} {u : Nat} {T : Nat → Int} {len : Int} {P : PS} (hS : TS h u T len P) (hr : 161 ≤ u) (a b c : Int) : TS (wJ h 40 a b c) u T len P := ((hS.s hr (a := 40) (j := 6) (by omega) a).s hr (a := 40) (j := 7) (by omega) b).s hr (a := 40) (j := 8) (by omega) c
theorem FrL.w5 {u : Nat} {h h1 : HM} (f : FrL u h h1) {a : Nat} (ha : 40 ≤ a ∧ a < 68) (X : Fg) : FrL u h (wr5 h1 a X) := ⟨by rw [wr5_L]; exact f.1, fun x k q z => by rw [wr5_e (by omega)]; exact f.2 x k q z⟩
theorem TS.w5 {h : HM} {u : Nat} {T : Nat → Int} {len : Int} {P : PS} (hS : TS h u T len P) (hr : 161 ≤ u) {a : Nat} (ha : 40 ≤ a ∧ a < 68) (X : Fg) : TS (wr5 h a X) u T len P :=
  hS.by (fun k hk => wr5_e (by omega)) (fun k => wr5_e (by omega)) (wr5_e (by omega))
theorem DV_s5 {D : DT} (hV : DV D) : DV (D.nf, D.F, D.nv, D.V, (D.sd, D.sf, D.s2, D.rc), 1, D.hr) := ⟨hV.1, hV.2.1, Or.inr rfl, hV.2.2.2⟩
theorem DV_s6 {D : DT} (hV : DV D) : DV (D.nf, D.F, D.nv, D.V, (D.sd, D.sf, D.s2, D.rc), D.hs, 1) := ⟨hV.1, hV.2.1, hV.2.2.1, Or.inr rfl⟩
theorem DrC.b {u : Nat} {h : HM} {D : DT} (hD : DrC h u D) (hV : DV D) : (0 ≤ h.I 40 3 ∧ h.I 40 3 ≤ 6) ∧ (0 ≤ h.I 40 4 ∧ h.I 40 4 ≤ 6) ∧ (h.I u 5 = 0 ∨ h.I u 5 = 1) ∧ (h.I u 6 = 0 ∨ h.I u 6 = 1) ∧ lvy h 40 = D.lv ∧ (0 ≤ D.lv ∧ D.lv ≤ 99) := by
  refine ⟨by rw [hD.1.1]; exact hV.1.1, by rw [hD.2.1.1]; exact hV.2.1.1, by rw [hD.2.2.2.1]; exact hV.2.2.1, by rw [hD.2.2.2.2]; exact hV.2.2.2, ?_, ?_⟩
  · unfold lvy DT.lv
    rw [hD.2.1.1]
    by_cases q : 0 < D.nv
    · rw [if_pos q, if_pos q]
      exact congrArg (fun F : Fg => F.1) (hD.2.1.2 (D.nv - 1).toNat (by omega))
    · rw [if_neg q, if_neg q]
  · unfold DT.lv
    by_cases q : 0 < D.nv
    · rw [if_pos q]; exact (hV.2.1.2 (D.nv - 1).toNat (by omega)).1
    · rw [if_neg q]; omega
theorem vo_5 {T : Nat → Int} {len : Int} {P : PS} {D : DT} (hV : DV D) (hP : PB T len P) (h : (endS T len (voE T len P D).1).fnd = 0) : D.nv ≤ 5 ∧ VoB (voX T len P D) := by
  have p0 : PB T len (demS (D.nv < 6) 5 P) := hP.dem _ (by decide)
  have p1 : PB T len (voA T len P D).1 := p0.num
  have p2 : PB T len (voB T len P D).1 := p1.num
  have p3 : PB T len (voC T len P D).1 := p2.num
  have p4 : PB T len (voD T len P D).1 := p3.num
  have h5 := numS_0 p4 (endS_0 h)
  have h4 := numS_0 p3 h5.1
  have h3 := numS_0 p2 h4.1
  have h2 := numS_0 p1 h3.1
  have h1 := numS_0 p0 h2.1
  have h0 := demS_0 (by decide) h1.1
  have hl : 0 ≤ D.lv := by
    unfold DT.lv
    by_cases q : 0 < D.nv
    · rw [if_pos q]; exact (hV.2.1.2 (D.nv - 1).toNat (by have := hV.2.1.1; omega)).1.1
    · rw [if_neg q]; omega
  have e1 : (voX T len P D).1 = (voA T len P D).2 := rfl
  refine ⟨by omega, ⟨Int.le_trans hl h1.2.1, h1.2.2⟩, ⟨h2.2.1, ?_⟩, ⟨h3.2.1, h3.2.2⟩, ⟨h4.2.1, ?_⟩, h5.2.1, h5.2.2⟩
  · show (voB T len P D).2 < 6
    have : (voB T len P D).2 ≤ 5 := h2.2.2
    omega
  · show (voD T len P D).2 < (voC T len P D).2
    have : (voD T len P D).2 ≤ (voC T len P D).2 - 1 := h4.2.2
    omega
set_option maxRecDepth 100000 in
set_option maxHeartbeats 1000000 in
theorem e_X3_readStick {G : GX} {y : LY} {h : HM} {d : Nat} (hY : Lay y) {u : Nat} (ho : IsO y u 3) (hRt : y.R u 0 = some 10) (hRd : y.R u 1 = some 40) (hr : 161 ≤ u) {T : Nat → Int} {len : Int} {P : PS} (hS : TS h u T len P) {D : DT} (hD : DrC h u D) (hV : DV D) : EvQV G mX3_readStick (d + 4) [.ref u] y h (fun h1 => FrL u h h1 ∧ TS h1 u T len (stS T len P D).1 ∧ DrC h1 u (stS T len P D).2) := by
  have hf := hS.f
  have hTP := hS.1
  have hPB := hS.2.2
  have hln := hTP.2.2.1
  have hl10 := hTP.2.1
  obtain ⟨pb1, pb2, pb3, pb4, pb5, pb6⟩ := id hPB
  have hDb := hD.b hV
  have hDf := hD
  refine Ev.of rfl [some (.ref u), none, none, none] rfl (Nat.le_of_ble_eq_true rfl) ?_
  refine g_aload_n dX3_readStick_0 rfl rfl (g_aload_n dX3_readStick_1 rfl rfl (gf_X3_21 (M := mX3_readStick) rfl dX3_readStick_2 ho ?_))
  refine g_if_ne 12 dX3_readStick_5 rfl (by omega) (fun c5 => ?_) (fun c5 => ?_)
  · skip
    refine g_iconst dX3_readStick_12 (g_iconst dX3_readStick_13 ?_)
    refine cv_X3_101 (M := mX3_readStick) rfl dX3_readStick_14 ho (RO.same _ _ _) (Nat.le_of_ble_eq_true rfl) (e_X3_demand hY ho hRt hRd hr (by omega) (by omega) (by omega)) (kQV fun h14 hq14 => ?_)
    have t14 : TS h14 u T len (demS (D.hs = 0) 4 P) := hS.dem hr hq14 (by omega) (by have := hD.2.2.2.1; omega)
    refine g_aload_n dX3_readStick_17 rfl rfl (g_iconst dX3_readStick_18 (pf_X3_21 (M := mX3_readStick) rfl dX3_readStick_19 (by omega) ho ?_))
    have t19 := t14.s hr (a := u) (j := 5) (by omega) 1
    refine g_aload_n dX3_readStick_22 rfl rfl (g_iconst dX3_readStick_23 (g_bipush dX3_readStick_24 kb8 ?_))
    refine cv_X3_113 (M := mX3_readStick) rfl dX3_readStick_26 ho (RO.same _ _ _) (Nat.le_of_ble_eq_true rfl) (e_X3_number hY ho hRt hRd hr t19 (by omega) (by omega)) (kQX fun v26 h26 hq26 => ?_)
    obtain ⟨f26, t26, e26, b26⟩ := hq26
    replace e26 : v26 = (stA T len P D).2 := e26
    replace t26 : TS h26 u T len (stA T len P D).1 := t26
    subst e26
    refine g_ist1 dX3_readStick_29 (by decide) rfl (g_aload_n dX3_readStick_30 rfl rfl (g_iconst dX3_readStick_31 (g_sipush dX3_readStick_32 ks365 ?_)))
    refine cv_X3_113 (M := mX3_readStick) rfl dX3_readStick_35 ho (RO.same _ _ _) (Nat.le_of_ble_eq_true rfl) (e_X3_number hY ho hRt hRd hr t26 (by omega) (by omega)) (kQX fun v35 h35 hq35 => ?_)
    obtain ⟨f35, t35, e35, b35⟩ := hq35
    replace e35 : v35 = (stB T len P D).2 := e35
    replace t35 : TS h35 u T len (stB T len P D).1 := t35
    subst e35
    refine g_ist2 dX3_readStick_38 (by decide) rfl (g_aload_n dX3_readStick_39 rfl rfl (g_iload_n dX3_readStick_40 rfl rfl (g_sipush dX3_readStick_41 ks365 ?_)))
    refine cv_X3_113 (M := mX3_readStick) rfl dX3_readStick_44 ho (RO.same _ _ _) (Nat.le_of_ble_eq_true rfl) (e_X3_number hY ho hRt hRd hr t35 (by omega) (by omega)) (kQX fun v44 h44 hq44 => ?_)
    obtain ⟨f44, t44, e44, b44⟩ := hq44
    replace e44 : v44 = (stC' T len P D).2 := e44
    replace t44 : TS h44 u T len (stC' T len P D).1 := t44
    subst e44
    refine g_ist3 dX3_readStick_47 (by decide) rfl (g_aload_n dX3_readStick_48 rfl rfl ?_)
    refine cv_X3_117 (M := mX3_readStick) rfl dX3_readStick_49 ho (RO.same _ _ _) (Nat.le_of_ble_eq_true rfl) (e_X3_endLine hY ho hRt hRd hr t44) (kQV fun h49 hq49 => ?_)
    obtain ⟨f49, t49⟩ := hq49
    refine g_aload_n dX3_readStick_52 rfl rfl (gf_X3_38 (M := mX3_readStick) rfl dX3_readStick_53 ho hRd (g_iload_n dX3_readStick_56 rfl rfl (g_iload_n dX3_readStick_57 rfl rfl (g_iload_n dX3_readStick_58 rfl rfl (cv_X3_141 (M := mX3_readStick) rfl dX3_readStick_59 (ck_o hY clk40) (RO.same _ _ _) (Nat.le_of_ble_eq_true rfl) (e_X0_jam hY clk40) <| kV ?_)))))
    exact g_vret dX3_readStick_62 rfl rfl ⟨Nat.le_refl _, Nat.le_refl _⟩ (by refine ⟨rfl, FrL.wJe ((((((hq14.1.l).s (Or.inl rfl) 5 1).tr f26.l).tr f35.l).tr f44.l).tr f49.l) _ _ _, t49.wJe hr _ _ _, ?_⟩; exact (((((((hD.fr hV hr hq14.1).s5 hV hr).fr (DV_s5 hV) hr f26).fr (DV_s5 hV) hr f35).fr (DV_s5 hV) hr f44).fr (DV_s5 hV) hr f49).wJe (DV_s5 hV) hr rfl _ _ _))
  · skip
    refine g_iconst dX3_readStick_8 (g_goto 13 dX3_readStick_9 rfl (g_iconst dX3_readStick_13 ?_))
    refine cv_X3_101 (M := mX3_readStick) rfl dX3_readStick_14 ho (RO.same _ _ _) (Nat.le_of_ble_eq_true rfl) (e_X3_demand hY ho hRt hRd hr (by omega) (by omega) (by omega)) (kQV fun h14 hq14 => ?_)
    have t14 : TS h14 u T len (demS (D.hs = 0) 4 P) := hS.dem hr hq14 (by omega) (by have := hD.2.2.2.1; omega)
    refine g_aload_n dX3_readStick_17 rfl rfl (g_iconst dX3_readStick_18 (pf_X3_21 (M := mX3_readStick) rfl dX3_readStick_19 (by omega) ho ?_))
    have t19 := t14.s hr (a := u) (j := 5) (by omega) 1
    refine g_aload_n dX3_readStick_22 rfl rfl (g_iconst dX3_readStick_23 (g_bipush dX3_readStick_24 kb8 ?_))
    refine cv_X3_113 (M := mX3_readStick) rfl dX3_readStick_26 ho (RO.same _ _ _) (Nat.le_of_ble_eq_true rfl) (e_X3_number hY ho hRt hRd hr t19 (by omega) (by omega)) (kQX fun v26 h26 hq26 => ?_)
    obtain ⟨f26, t26, e26, b26⟩ := hq26
    replace e26 : v26 = (stA T len P D).2 := e26
    replace t26 : TS h26 u T len (stA T len P D).1 := t26
    subst e26
    refine g_ist1 dX3_readStick_29 (by decide) rfl (g_aload_n dX3_readStick_30 rfl rfl (g_iconst dX3_readStick_31 (g_sipush dX3_readStick_32 ks365 ?_)))
    refine cv_X3_113 (M := mX3_readStick) rfl dX3_readStick_35 ho (RO.same _ _ _) (Nat.le_of_ble_eq_true rfl) (e_X3_number hY ho hRt hRd hr t26 (by omega) (by omega)) (kQX fun v35 h35 hq35 => ?_)
    obtain ⟨f35, t35, e35, b35⟩ := hq35
    replace e35 : v35 = (stB T len P D).2 := e35
    replace t35 : TS h35 u T len (stB T len P D).1 := t35
    subst e35
    refine g_ist2 dX3_readStick_38 (by decide) rfl (g_aload_n dX3_readStick_39 rfl rfl (g_iload_n dX3_readStick_40 rfl rfl (g_sipush dX3_readStick_41 ks365 ?_)))
    refine cv_X3_113 (M := mX3_readStick) rfl dX3_readStick_44 ho (RO.same _ _ _) (Nat.le_of_ble_eq_true rfl) (e_X3_number hY ho hRt hRd hr t35 (by omega) (by omega)) (kQX fun v44 h44 hq44 => ?_)
    obtain ⟨f44, t44, e44, b44⟩ := hq44
    replace e44 : v44 = (stC' T len P D).2 := e44
    replace t44 : TS h44 u T len (stC' T len P D).1 := t44
    subst e44
    refine g_ist3 dX3_readStick_47 (by decide) rfl (g_aload_n dX3_readStick_48 rfl rfl ?_)
    refine cv_X3_117 (M := mX3_readStick) rfl dX3_readStick_49 ho (RO.same _ _ _) (Nat.le_of_ble_eq_true rfl) (e_X3_endLine hY ho hRt hRd hr t44) (kQV fun h49 hq49 => ?_)
    obtain ⟨f49, t49⟩ := hq49
    refine g_aload_n dX3_readStick_52 rfl rfl (gf_X3_38 (M := mX3_readStick) rfl dX3_readStick_53 ho hRd (g_iload_n dX3_readStick_56 rfl rfl (g_iload_n dX3_readStick_57 rfl rfl (g_iload_n dX3_readStick_58 rfl rfl (cv_X3_141 (M := mX3_readStick) rfl dX3_readStick_59 (ck_o hY clk40) (RO.same _ _ _) (Nat.le_of_ble_eq_true rfl) (e_X0_jam hY clk40) <| kV ?_)))))
    exact g_vret dX3_readStick_62 rfl rfl ⟨Nat.le_refl _, Nat.le_refl _⟩ (by refine ⟨rfl, FrL.wJe ((((((hq14.1.l).s (Or.inl rfl) 5 1).tr f26.l).tr f35.l).tr f44.l).tr f49.l) _ _ _, t49.wJe hr _ _ _, ?_⟩; exact (((((((hD.fr hV hr hq14.1).s5 hV hr).fr (DV_s5 hV) hr f26).fr (DV_s5 hV) hr f35).fr (DV_s5 hV) hr f44).fr (DV_s5 hV) hr f49).wJe (DV_s5 hV) hr rfl _ _ _))
set_option maxRecDepth 100000 in
set_option maxHeartbeats 1000000 in
theorem e_X3_readReach {G : GX} {y : LY} {h : HM} {d : Nat} (hY : Lay y) {u : Nat} (ho : IsO y u 3) (hRt : y.R u 0 = some 10) (hRd : y.R u 1 = some 40) (hr : 161 ≤ u) {T : Nat → Int} {len : Int} {P : PS} (hS : TS h u T len P) {D : DT} (hD : DrC h u D) (hV : DV D) : EvQV G mX3_readReach (d + 4) [.ref u] y h (fun h1 => FrL u h h1 ∧ TS h1 u T len (reS T len P D).1 ∧ DrC h1 u (reS T len P D).2) := by
  have hf := hS.f
  have hTP := hS.1
  have hPB := hS.2.2
  have hln := hTP.2.2.1
  have hl10 := hTP.2.1
  obtain ⟨pb1, pb2, pb3, pb4, pb5, pb6⟩ := id hPB
  have hDb := hD.b hV
  have hDf := hD
  refine Ev.of rfl [some (.ref u)] rfl (Nat.le_of_ble_eq_true rfl) ?_
  refine g_aload_n dX3_readReach_0 rfl rfl (g_aload_n dX3_readReach_1 rfl rfl (gf_X3_25 (M := mX3_readReach) rfl dX3_readReach_2 ho ?_))
  refine g_if_ne 12 dX3_readReach_5 rfl (by omega) (fun c5 => ?_) (fun c5 => ?_)
  · skip
    refine g_iconst dX3_readReach_12 (g_iconst dX3_readReach_13 ?_)
    refine cv_X3_101 (M := mX3_readReach) rfl dX3_readReach_14 ho (RO.same _ _ _) (Nat.le_of_ble_eq_true rfl) (e_X3_demand hY ho hRt hRd hr (by omega) (by omega) (by omega)) (kQV fun h14 hq14 => ?_)
    have t14 : TS h14 u T len (demS (D.hr = 0) 4 P) := hS.dem hr hq14 (by omega) (by have := hD.2.2.2.2; omega)
    refine g_aload_n dX3_readReach_17 rfl rfl (g_iconst dX3_readReach_18 (pf_X3_25 (M := mX3_readReach) rfl dX3_readReach_19 (by omega) ho ?_))
    have t19 := t14.s hr (a := u) (j := 6) (by omega) 1
    refine g_aload_n dX3_readReach_22 rfl rfl (gf_X3_38 (M := mX3_readReach) rfl dX3_readReach_23 ho hRd (g_aload_n dX3_readReach_26 rfl rfl (g_iconst dX3_readReach_27 (g_iconst dX3_readReach_28 ?_))))
    refine cv_X3_113 (M := mX3_readReach) rfl dX3_readReach_29 ho (RO.same _ _ _) (Nat.le_of_ble_eq_true rfl) (e_X3_number hY ho hRt hRd hr t19 (by omega) (by omega)) (kQX fun v29 h29 hq29 => ?_)
    obtain ⟨f29, t29, e29, b29⟩ := hq29
    replace e29 : v29 = (reA T len P D).2 := e29
    replace t29 : TS h29 u T len (reA T len P D).1 := t29
    subst e29
    refine pf_X3_145 (M := mX3_readReach) rfl dX3_readReach_32 (ck_o hY clk40) ?_
    have t32 := t29.s hr (a := 40) (j := 9) (by omega) (reA T len P D).2
    refine g_aload_n dX3_readReach_35 rfl rfl ?_
    refine cv_X3_117 (M := mX3_readReach) rfl dX3_readReach_36 ho (RO.same _ _ _) (Nat.le_of_ble_eq_true rfl) (e_X3_endLine hY ho hRt hRd hr t32) (kQV fun h36 hq36 => ?_)
    obtain ⟨f36, t36⟩ := hq36
    exact g_vret dX3_readReach_39 rfl rfl ⟨Nat.le_refl _, Nat.le_refl _⟩ (by refine ⟨rfl, (((((hq14.1.l).s (Or.inl rfl) 6 1).tr f29.l).s (a := 40) (by omega) 9 _).tr f36.l), t36, ?_⟩; exact (((((hD.fr hV hr hq14.1).s6 hV hr).fr (DV_s6 hV) hr f29).s9 (DV_s6 hV) hr rfl _).fr (show DV (D.wR _) from DV_s6 hV) hr f36))
  · skip
    refine g_iconst dX3_readReach_8 (g_goto 13 dX3_readReach_9 rfl (g_iconst dX3_readReach_13 ?_))
    refine cv_X3_101 (M := mX3_readReach) rfl dX3_readReach_14 ho (RO.same _ _ _) (Nat.le_of_ble_eq_true rfl) (e_X3_demand hY ho hRt hRd hr (by omega) (by omega) (by omega)) (kQV fun h14 hq14 => ?_)
    have t14 : TS h14 u T len (demS (D.hr = 0) 4 P) := hS.dem hr hq14 (by omega) (by have := hD.2.2.2.2; omega)
    refine g_aload_n dX3_readReach_17 rfl rfl (g_iconst dX3_readReach_18 (pf_X3_25 (M := mX3_readReach) rfl dX3_readReach_19 (by omega) ho ?_))
    have t19 := t14.s hr (a := u) (j := 6) (by omega) 1
    refine g_aload_n dX3_readReach_22 rfl rfl (gf_X3_38 (M := mX3_readReach) rfl dX3_readReach_23 ho hRd (g_aload_n dX3_readReach_26 rfl rfl (g_iconst dX3_readReach_27 (g_iconst dX3_readReach_28 ?_))))
    refine cv_X3_113 (M := mX3_readReach) rfl dX3_readReach_29 ho (RO.same _ _ _) (Nat.le_of_ble_eq_true rfl) (e_X3_number hY ho hRt hRd hr t19 (by omega) (by omega)) (kQX fun v29 h29 hq29 => ?_)
    obtain ⟨f29, t29, e29, b29⟩ := hq29
    replace e29 : v29 = (reA T len P D).2 := e29
    replace t29 : TS h29 u T len (reA T len P D).1 := t29
    subst e29
    refine pf_X3_145 (M := mX3_readReach) rfl dX3_readReach_32 (ck_o hY clk40) ?_
    have t32 := t29.s hr (a := 40) (j := 9) (by omega) (reA T len P D).2
    refine g_aload_n dX3_readReach_35 rfl rfl ?_
    refine cv_X3_117 (M := mX3_readReach) rfl dX3_readReach_36 ho (RO.same _ _ _) (Nat.le_of_ble_eq_true rfl) (e_X3_endLine hY ho hRt hRd hr t32) (kQV fun h36 hq36 => ?_)
    obtain ⟨f36, t36⟩ := hq36
    exact g_vret dX3_readReach_39 rfl rfl ⟨Nat.le_refl _, Nat.le_refl _⟩ (by refine ⟨rfl, (((((hq14.1.l).s (Or.inl rfl) 6 1).tr f29.l).s (a := 40) (by omega) 9 _).tr f36.l), t36, ?_⟩; exact (((((hD.fr hV hr hq14.1).s6 hV hr).fr (DV_s6 hV) hr f29).s9 (DV_s6 hV) hr rfl _).fr (show DV (D.wR _) from DV_s6 hV) hr f36))
set_option maxRecDepth 100000 in
set_option maxHeartbeats 1000000 in
theorem e_X3_readVote {G : GX} {y : LY} {h : HM} {d : Nat} (hY : Lay y) {u : Nat} (ho : IsO y u 3) (hRt : y.R u 0 = some 10) (hRd : y.R u 1 = some 40) (hr : 161 ≤ u) {T : Nat → Int} {len : Int} {P : PS} (hS : TS h u T len P) {D : DT} (hD : DrC h u D) (hV : DV D) : EvQV G mX3_readVote (d + 4) [.ref u] y h (fun h1 => FrL u h h1 ∧ TS h1 u T len (voS T len P D).1 ∧ DrC h1 u (voS T len P D).2) := by
  have hf := hS.f
  have hTP := hS.1
  have hPB := hS.2.2
  have hln := hTP.2.2.1
  have hl10 := hTP.2.1
  obtain ⟨pb1, pb2, pb3, pb4, pb5, pb6⟩ := id hPB
  have hDb := hD.b hV
  have hDf := hD
  refine Ev.of rfl [some (.ref u), none, none, none, none, none] rfl (Nat.le_of_ble_eq_true rfl) ?_
  refine g_aload_n dX3_readVote_0 rfl rfl (g_aload_n dX3_readVote_1 rfl rfl (gf_X3_38 (M := mX3_readVote) rfl dX3_readVote_2 ho hRd (gf_X3_53 (M := mX3_readVote) rfl dX3_readVote_5 (ck_o hY clk40) (g_bipush dX3_readVote_8 kb6 ?_))))
  refine g_icmp_ge 17 dX3_readVote_10 rfl (by omega) (by omega) (fun c10 => ?_) (fun c10 => ?_)
  · skip
    refine g_iconst dX3_readVote_17 (g_iconst dX3_readVote_18 ?_)
    refine cv_X3_101 (M := mX3_readVote) rfl dX3_readVote_19 ho (RO.same _ _ _) (Nat.le_of_ble_eq_true rfl) (e_X3_demand hY ho hRt hRd hr (by omega) (by omega) (by omega)) (kQV fun h19 hq19 => ?_)
    have t19 : TS h19 u T len (demS (D.nv < 6) 5 P) := hS.dem hr hq19 (by omega) (by have := hD.2.1.1; omega)
    have d19 := hD.fr hV hr hq19.1
    have db19 := d19.b hV
    refine g_aload_n dX3_readVote_22 rfl rfl (g_aload_n dX3_readVote_23 rfl rfl (gf_X3_38 (M := mX3_readVote) rfl dX3_readVote_24 ho hRd (cv_X3_147 (M := mX3_readVote) rfl dX3_readVote_27 (ck_o hY clk40) (RO.same _ _ _) (Nat.le_of_ble_eq_true rfl) (e_X0_leastVoteYear hY clk40 (by omega)) <| kI ?_)))
    rw [db19.2.2.2.2.1]
    refine g_bipush dX3_readVote_30 kb99 ?_
    refine cv_X3_113 (M := mX3_readVote) rfl dX3_readVote_32 ho (RO.same _ _ _) (Nat.le_of_ble_eq_true rfl) (e_X3_number hY ho hRt hRd hr t19 (by omega) (by omega)) (kQX fun v32 h32 hq32 => ?_)
    obtain ⟨f32, t32, e32, b32⟩ := hq32
    replace e32 : v32 = (voA T len P D).2 := e32
    replace t32 : TS h32 u T len (voA T len P D).1 := t32
    subst e32
    refine g_ist1 dX3_readVote_35 (by decide) rfl (g_aload_n dX3_readVote_36 rfl rfl (g_iconst dX3_readVote_37 (g_iconst dX3_readVote_38 ?_)))
    refine cv_X3_113 (M := mX3_readVote) rfl dX3_readVote_39 ho (RO.same _ _ _) (Nat.le_of_ble_eq_true rfl) (e_X3_number hY ho hRt hRd hr t32 (by omega) (by omega)) (kQX fun v39 h39 hq39 => ?_)
    obtain ⟨f39, t39, e39, b39⟩ := hq39
    replace e39 : v39 = (voB T len P D).2 := e39
    replace t39 : TS h39 u T len (voB T len P D).1 := t39
    subst e39
    refine g_ist2 dX3_readVote_42 (by decide) rfl (g_aload_n dX3_readVote_43 rfl rfl (g_iconst dX3_readVote_44 (g_bipush dX3_readVote_45 kb60 ?_)))
    refine cv_X3_113 (M := mX3_readVote) rfl dX3_readVote_47 ho (RO.same _ _ _) (Nat.le_of_ble_eq_true rfl) (e_X3_number hY ho hRt hRd hr t39 (by omega) (by omega)) (kQX fun v47 h47 hq47 => ?_)
    obtain ⟨f47, t47, e47, b47⟩ := hq47
    replace e47 : v47 = (voC T len P D).2 := e47
    replace t47 : TS h47 u T len (voC T len P D).1 := t47
    subst e47
    refine g_ist3 dX3_readVote_50 (by decide) rfl (g_aload_n dX3_readVote_51 rfl rfl (g_iconst dX3_readVote_52 (g_iload_n dX3_readVote_53 rfl rfl (g_iconst dX3_readVote_54 (g_isub dX3_readVote_55 ?_)))))
    refine cv_X3_113 (M := mX3_readVote) rfl dX3_readVote_56 ho (RO.same _ _ _) (Nat.le_of_ble_eq_true rfl) (e_X3_number hY ho hRt hRd hr t47 (by omega) (by omega)) (kQX fun v56 h56 hq56 => ?_)
    obtain ⟨f56, t56, e56, b56⟩ := hq56
    replace e56 : v56 = (voD T len P D).2 := e56
    replace t56 : TS h56 u T len (voD T len P D).1 := t56
    subst e56
    refine g_ist4 dX3_readVote_59 (by decide) rfl (g_aload_n dX3_readVote_61 rfl rfl (g_iconst dX3_readVote_62 (g_bipush dX3_readVote_63 kb8 ?_)))
    refine cv_X3_113 (M := mX3_readVote) rfl dX3_readVote_65 ho (RO.same _ _ _) (Nat.le_of_ble_eq_true rfl) (e_X3_number hY ho hRt hRd hr t56 (by omega) (by omega)) (kQX fun v65 h65 hq65 => ?_)
    obtain ⟨f65, t65, e65, b65⟩ := hq65
    replace e65 : v65 = (voE T len P D).2 := e65
    replace t65 : TS h65 u T len (voE T len P D).1 := t65
    subst e65
    refine g_ist5 dX3_readVote_68 (by decide) rfl (g_aload_n dX3_readVote_70 rfl rfl ?_)
    refine cv_X3_117 (M := mX3_readVote) rfl dX3_readVote_71 ho (RO.same _ _ _) (Nat.le_of_ble_eq_true rfl) (e_X3_endLine hY ho hRt hRd hr t65) (kQV fun h71 hq71 => ?_)
    obtain ⟨f71, t71⟩ := hq71
    have d71 := (((((d19.fr hV hr f32).fr hV hr f39).fr hV hr f47).fr hV hr f56).fr hV hr f65).fr hV hr f71
    have db71 := d71.b hV
    have ff71 := t71.f
    have fr71 := (((((hq19.1.l.tr f32.l).tr f39.l).tr f47.l).tr f56.l).tr f65.l).tr f71.l
    obtain ⟨xb1, xb2, xb3, xb4, xb5, xb6⟩ := id t71.2.2
    refine g_aload_n dX3_readVote_74 rfl rfl (gf_X3_28 (M := mX3_readVote) rfl dX3_readVote_75 ho ?_)
    refine g_if_ne 95 dX3_readVote_78 rfl (by omega) (fun c78 => ?_) (fun c78 => ?_)
    · skip
      exact g_vret dX3_readVote_95 rfl rfl ⟨Nat.le_refl _, Nat.le_refl _⟩ (by first | (refine ⟨rfl, fr71, t71, ?_⟩; rw [show (voS T len P D).2 = D from cnd_f (fun z => by have : (endS T len (voE T len P D).1).fnd = 0 := z; omega)]; exact d71) | (refine ⟨rfl, (fr71.w5 (by omega) _).s (by omega) _ _, (t71.w5 hr (by omega) _).s hr (by omega) _, ?_⟩; rw [show (voS T len P D).2 = D.wV (voX T len P D) from cnd_t (show (endS T len (voE T len P D).1).fnd = 0 by omega)]; exact d71.wV hV hr (by omega) (voX T len P D)))
    · skip
      have hv5 := vo_5 hV hS.2.2 (show (endS T len (voE T len P D).1).fnd = 0 by omega)
      refine g_aload_n dX3_readVote_81 rfl rfl (gf_X3_38 (M := mX3_readVote) rfl dX3_readVote_82 ho hRd (g_iload_n dX3_readVote_85 rfl rfl (g_iload_n dX3_readVote_86 rfl rfl (g_iload_n dX3_readVote_87 rfl rfl (g_iload dX3_readVote_88 rfl (g_iload dX3_readVote_90 rfl (cv_X3_151 (M := mX3_readVote) rfl dX3_readVote_92 (ck_o hY clk40) (RO.same _ _ _) (Nat.le_of_ble_eq_true rfl) (e_X0_addVote hY clk40 (by have := vo_5 hV hS.2.2 (show (endS T len (voE T len P D).1).fnd = 0 by omega); have := d71.2.1.1; omega)) <| kV ?_)))))))
      exact g_vret dX3_readVote_95 rfl rfl ⟨Nat.le_refl _, Nat.le_refl _⟩ (by first | (refine ⟨rfl, fr71, t71, ?_⟩; rw [show (voS T len P D).2 = D from cnd_f (fun z => by have : (endS T len (voE T len P D).1).fnd = 0 := z; omega)]; exact d71) | (refine ⟨rfl, (fr71.w5 (by omega) _).s (by omega) _ _, (t71.w5 hr (by omega) _).s hr (by omega) _, ?_⟩; rw [show (voS T len P D).2 = D.wV (voX T len P D) from cnd_t (show (endS T len (voE T len P D).1).fnd = 0 by omega)]; exact d71.wV hV hr (by omega) (voX T len P D)))
  · skip
    refine g_iconst dX3_readVote_13 (g_goto 18 dX3_readVote_14 rfl (g_iconst dX3_readVote_18 ?_))
    refine cv_X3_101 (M := mX3_readVote) rfl dX3_readVote_19 ho (RO.same _ _ _) (Nat.le_of_ble_eq_true rfl) (e_X3_demand hY ho hRt hRd hr (by omega) (by omega) (by omega)) (kQV fun h19 hq19 => ?_)
    have t19 : TS h19 u T len (demS (D.nv < 6) 5 P) := hS.dem hr hq19 (by omega) (by have := hD.2.1.1; omega)
    have d19 := hD.fr hV hr hq19.1
    have db19 := d19.b hV
    refine g_aload_n dX3_readVote_22 rfl rfl (g_aload_n dX3_readVote_23 rfl rfl (gf_X3_38 (M := mX3_readVote) rfl dX3_readVote_24 ho hRd (cv_X3_147 (M := mX3_readVote) rfl dX3_readVote_27 (ck_o hY clk40) (RO.same _ _ _) (Nat.le_of_ble_eq_true rfl) (e_X0_leastVoteYear hY clk40 (by omega)) <| kI ?_)))
    rw [db19.2.2.2.2.1]
    refine g_bipush dX3_readVote_30 kb99 ?_
    refine cv_X3_113 (M := mX3_readVote) rfl dX3_readVote_32 ho (RO.same _ _ _) (Nat.le_of_ble_eq_true rfl) (e_X3_number hY ho hRt hRd hr t19 (by omega) (by omega)) (kQX fun v32 h32 hq32 => ?_)
    obtain ⟨f32, t32, e32, b32⟩ := hq32
    replace e32 : v32 = (voA T len P D).2 := e32
    replace t32 : TS h32 u T len (voA T len P D).1 := t32
    subst e32
    refine g_ist1 dX3_readVote_35 (by decide) rfl (g_aload_n dX3_readVote_36 rfl rfl (g_iconst dX3_readVote_37 (g_iconst dX3_readVote_38 ?_)))
    refine cv_X3_113 (M := mX3_readVote) rfl dX3_readVote_39 ho (RO.same _ _ _) (Nat.le_of_ble_eq_true rfl) (e_X3_number hY ho hRt hRd hr t32 (by omega) (by omega)) (kQX fun v39 h39 hq39 => ?_)
    obtain ⟨f39, t39, e39, b39⟩ := hq39
    replace e39 : v39 = (voB T len P D).2 := e39
    replace t39 : TS h39 u T len (voB T len P D).1 := t39
    subst e39
    refine g_ist2 dX3_readVote_42 (by decide) rfl (g_aload_n dX3_readVote_43 rfl rfl (g_iconst dX3_readVote_44 (g_bipush dX3_readVote_45 kb60 ?_)))
    refine cv_X3_113 (M := mX3_readVote) rfl dX3_readVote_47 ho (RO.same _ _ _) (Nat.le_of_ble_eq_true rfl) (e_X3_number hY ho hRt hRd hr t39 (by omega) (by omega)) (kQX fun v47 h47 hq47 => ?_)
    obtain ⟨f47, t47, e47, b47⟩ := hq47
    replace e47 : v47 = (voC T len P D).2 := e47
    replace t47 : TS h47 u T len (voC T len P D).1 := t47
    subst e47
    refine g_ist3 dX3_readVote_50 (by decide) rfl (g_aload_n dX3_readVote_51 rfl rfl (g_iconst dX3_readVote_52 (g_iload_n dX3_readVote_53 rfl rfl (g_iconst dX3_readVote_54 (g_isub dX3_readVote_55 ?_)))))
    refine cv_X3_113 (M := mX3_readVote) rfl dX3_readVote_56 ho (RO.same _ _ _) (Nat.le_of_ble_eq_true rfl) (e_X3_number hY ho hRt hRd hr t47 (by omega) (by omega)) (kQX fun v56 h56 hq56 => ?_)
    obtain ⟨f56, t56, e56, b56⟩ := hq56
    replace e56 : v56 = (voD T len P D).2 := e56
    replace t56 : TS h56 u T len (voD T len P D).1 := t56
    subst e56
    refine g_ist4 dX3_readVote_59 (by decide) rfl (g_aload_n dX3_readVote_61 rfl rfl (g_iconst dX3_readVote_62 (g_bipush dX3_readVote_63 kb8 ?_)))
    refine cv_X3_113 (M := mX3_readVote) rfl dX3_readVote_65 ho (RO.same _ _ _) (Nat.le_of_ble_eq_true rfl) (e_X3_number hY ho hRt hRd hr t56 (by omega) (by omega)) (kQX fun v65 h65 hq65 => ?_)
    obtain ⟨f65, t65, e65, b65⟩ := hq65
    replace e65 : v65 = (voE T len P D).2 := e65
    replace t65 : TS h65 u T len (voE T len P D).1 := t65
    subst e65
    refine g_ist5 dX3_readVote_68 (by decide) rfl (g_aload_n dX3_readVote_70 rfl rfl ?_)
    refine cv_X3_117 (M := mX3_readVote) rfl dX3_readVote_71 ho (RO.same _ _ _) (Nat.le_of_ble_eq_true rfl) (e_X3_endLine hY ho hRt hRd hr t65) (kQV fun h71 hq71 => ?_)
    obtain ⟨f71, t71⟩ := hq71
    have d71 := (((((d19.fr hV hr f32).fr hV hr f39).fr hV hr f47).fr hV hr f56).fr hV hr f65).fr hV hr f71
    have db71 := d71.b hV
    have ff71 := t71.f
    have fr71 := (((((hq19.1.l.tr f32.l).tr f39.l).tr f47.l).tr f56.l).tr f65.l).tr f71.l
    obtain ⟨xb1, xb2, xb3, xb4, xb5, xb6⟩ := id t71.2.2
    refine g_aload_n dX3_readVote_74 rfl rfl (gf_X3_28 (M := mX3_readVote) rfl dX3_readVote_75 ho ?_)
    refine g_if_ne 95 dX3_readVote_78 rfl (by omega) (fun c78 => ?_) (fun c78 => ?_)
    · skip
      exact g_vret dX3_readVote_95 rfl rfl ⟨Nat.le_refl _, Nat.le_refl _⟩ (by first | (refine ⟨rfl, fr71, t71, ?_⟩; rw [show (voS T len P D).2 = D from cnd_f (fun z => by have : (endS T len (voE T len P D).1).fnd = 0 := z; omega)]; exact d71) | (refine ⟨rfl, (fr71.w5 (by omega) _).s (by omega) _ _, (t71.w5 hr (by omega) _).s hr (by omega) _, ?_⟩; rw [show (voS T len P D).2 = D.wV (voX T len P D) from cnd_t (show (endS T len (voE T len P D).1).fnd = 0 by omega)]; exact d71.wV hV hr (by omega) (voX T len P D)))
    · skip
      have hv5 := vo_5 hV hS.2.2 (show (endS T len (voE T len P D).1).fnd = 0 by omega)
      refine g_aload_n dX3_readVote_81 rfl rfl (gf_X3_38 (M := mX3_readVote) rfl dX3_readVote_82 ho hRd (g_iload_n dX3_readVote_85 rfl rfl (g_iload_n dX3_readVote_86 rfl rfl (g_iload_n dX3_readVote_87 rfl rfl (g_iload dX3_readVote_88 rfl (g_iload dX3_readVote_90 rfl (cv_X3_151 (M := mX3_readVote) rfl dX3_readVote_92 (ck_o hY clk40) (RO.same _ _ _) (Nat.le_of_ble_eq_true rfl) (e_X0_addVote hY clk40 (by have := vo_5 hV hS.2.2 (show (endS T len (voE T len P D).1).fnd = 0 by omega); have := d71.2.1.1; omega)) <| kV ?_)))))))
      exact g_vret dX3_readVote_95 rfl rfl ⟨Nat.le_refl _, Nat.le_refl _⟩ (by first | (refine ⟨rfl, fr71, t71, ?_⟩; rw [show (voS T len P D).2 = D from cnd_f (fun z => by have : (endS T len (voE T len P D).1).fnd = 0 := z; omega)]; exact d71) | (refine ⟨rfl, (fr71.w5 (by omega) _).s (by omega) _ _, (t71.w5 hr (by omega) _).s hr (by omega) _, ?_⟩; rw [show (voS T len P D).2 = D.wV (voX T len P D) from cnd_t (show (endS T len (voE T len P D).1).fnd = 0 by omega)]; exact d71.wV hV hr (by omega) (voX T len P D)))
