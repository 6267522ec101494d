/-! a reading goes on: bounds, its end grows, no fault now means none before -/
def Mo (T : Nat → Int) (len : Int) (P X : PS) : Prop := PB T len X ∧ P.ten ≤ X.ten ∧ (X.fnd = 0 → P.fnd = 0)
theorem Mo.rf {T : Nat → Int} {len : Int} {P : PS} (h : PB T len P) : Mo T len P P := ⟨h, Int.le_refl _, id⟩
theorem demS_ten {B : Prop} {c : Int} {P : PS} : (demS B c P).ten = P.ten := by
  by_cases h : B ∨ P.fnd ≠ 0
  · rw [show demS B c P = P from cnd_t h]
  · rw [show demS B c P = (P.tok, P.tat, P.ten, c, P.tat) from cnd_f h]; rfl
theorem Mo.dem {T : Nat → Int} {len : Int} {P X : PS} (h : Mo T len P X) (B : Prop) {c : Int} (hc : 0 < c ∧ c ≤ 6) : Mo T len P (demS B c X) := ⟨h.1.dem B hc, by rw [demS_ten]; exact h.2.1, fun z => h.2.2 (demS_0 (by omega) z).1⟩
theorem advA_tat {T : Nat → Int} {len a : Int} : (advA T len a).tat = a := by
  unfold advA
  by_cases c1 : ¬ a < len
  · rw [cnd_t c1]; rfl
  · rw [cnd_f c1]
    by_cases c2 : LtC T len a
    · rw [cnd_t c2]; rfl
    · rw [cnd_f c2]
      by_cases c3 : DgC T len a
      · rw [cnd_t c3]
        by_cases c4 : sk (DgC T len) len a - a ≤ 3
        · rw [demS_t c4]; rfl
        · rw [demS_f c4 rfl]; rfl
      · rw [cnd_f c3]
        by_cases c4 : T a.toNat = 59
        · rw [demS_t c4]; rfl
        · rw [demS_f c4 rfl]; rfl
theorem adv_go {T : Nat → Int} {len : Int} {P : PS} (h : PB T len P) (h0 : P.fnd = 0) : P.ten ≤ (advS T len P).tat ∧ (advS T len P).tat ≤ (advS T len P).ten ∧ ((advS T len P).tok ≠ 0 → P.ten < (advS T len P).ten) ∧ ((advS T len P).tok = 0 → (advS T len P).tat = len ∧ (advS T len P).fnd = 0) := by
  have q := adv_bl h
  have h1 := h.2.1
  have h2 := h.2.2.1
  have r := advA_PB (T := T) (len := len) (a := sk (BlC T len) len P.ten) (by omega) (by omega)
  rw [adv_e h0]
  have t := advA_tat (T := T) (len := len) (a := sk (BlC T len) len P.ten)
  have r1 := r.1.2.2.1
  refine ⟨by omega, r1, fun z => ?_, r.2.1⟩
  have := r.2.2 z
  omega
theorem Mo.adv {T : Nat → Int} {len : Int} {P X : PS} (h : Mo T len P X) : Mo T len P (advS T len X) := by
  refine ⟨h.1.adv, ?_, fun z => h.2.2 (advS_0 z)⟩
  by_cases z : X.fnd = 0
  · have := adv_go h.1 z
    have := h.2.1
    omega
  · rw [advS_n z]; exact h.2.1
theorem Mo.num {T : Nat → Int} {len : Int} {P X : PS} (h : Mo T len P X) {lo hi : Int} : Mo T len P (numS T len lo hi X).1 := by
  refine ⟨h.1.num, ?_, fun z => h.2.2 (numS_0 h.1 z).1⟩
  have q := h.adv.2.1
  unfold numS ckS
  by_cases z : (demS ((advS T len X).tok = 2) 2 (advS T len X)).fnd ≠ 0
  · rw [cnd_t z]; show P.ten ≤ (demS _ _ _).ten; rw [demS_ten]; exact q
  · rw [cnd_f z]; show P.ten ≤ (demS _ _ _).ten; rw [demS_ten, demS_ten]; exact q
theorem Mo.en {T : Nat → Int} {len : Int} {P X : PS} (h : Mo T len P X) : Mo T len P (endS T len X) := h.adv.dem _ (by decide)
theorem fg4_M {T : Nat → Int} {len : Int} {P X : PS} {D : DT} (h : Mo T len P X) (la ga : Int) : Mo T len P (fg4 T len la ga X D).1 := ((((h.num.dem _ (by decide)).num).dem _ (by decide)).num).en
theorem fg3_M {T : Nat → Int} {len : Int} {P X : PS} {D : DT} (h : Mo T len P X) (la : Int) (tw : Prop) : Mo T len P (fg3 T len la tw X D).1 := by
  unfold fg3
  by_cases z : tw
  · rw [cnd_t z]; exact fg4_M h.num la _
  · rw [cnd_f z]; exact fg4_M h la 0
theorem fg2_M {T : Nat → Int} {len : Int} {P X : PS} {D : DT} (h : Mo T len P X) (wo tw : Prop) : Mo T len P (fg2 T len wo tw X D).1 := by
  unfold fg2
  by_cases z : wo
  · rw [cnd_t z]; exact fg3_M h.num _ tw
  · rw [cnd_f z]; exact fg3_M h 0 tw
theorem fgS_M {T : Nat → Int} {len : Int} {P : PS} {D : DT} (h : PB T len P) : Mo T len P (fgS T len P D).1 := fg2_M ((((Mo.rf h).dem _ (by decide)).adv).dem _ (by decide)) _ _
theorem liS_M {T : Nat → Int} {len : Int} {P : PS} {D : DT} (h : PB T len P) : Mo T len P (liS T len P D).1 := by
  unfold liS
  by_cases z0 : IsNm T P 0
  · rw [cnd_t z0]; exact fgS_M h
  · rw [cnd_f z0]
    by_cases z1 : IsNm T P 1
    · rw [cnd_t z1]; exact ((((Mo.rf h).dem _ (by decide)).num.num.num).en)
    · rw [cnd_f z1]
      by_cases z2 : IsNm T P 2
      · rw [cnd_t z2]; exact ((Mo.rf h).dem _ (by decide)).num.en
      · rw [cnd_f z2]
        by_cases z3 : IsNm T P 3
        · rw [cnd_t z3]; exact ((Mo.rf h).dem _ (by decide)).num.num.num.num.num.en
        · rw [cnd_f z3]; exact (Mo.rf h).dem _ (by decide)
/-! what is told is within bounds -/
theorem DV_wF {D : DT} {X : Fg} (hV : DV D) (h5 : D.nf ≤ 5) (hX : FgB X) : DV (D.wF X) := by
  refine ⟨⟨⟨by show 0 ≤ D.nf + 1; have := hV.1.1; omega, by show D.nf + 1 ≤ 6; omega⟩, fun i hi => ?_⟩, hV.2.1, hV.2.2⟩
  have hi : (i : Int) < D.nf + 1 := hi
  show FgB (upF D.F D.nf.toNat X i)
  unfold upF
  by_cases q : i = D.nf.toNat
  · rw [if_pos q]; exact hX
  · rw [if_neg q]; exact hV.1.2 i (by have := hV.1.1; omega)
theorem DV_wV {D : DT} {X : Fg} (hV : DV D) (h5 : D.nv ≤ 5) (hX : VoB X) : DV (D.wV X) := by
  refine ⟨hV.1, ⟨⟨by show 0 ≤ D.nv + 1; have := hV.2.1.1; omega, by show D.nv + 1 ≤ 6; omega⟩, fun i hi => ?_⟩, hV.2.2⟩
  have hi : (i : Int) < D.nv + 1 := hi
  show VoB (upF D.V D.nv.toNat X i)
  unfold upF
  by_cases q : i = D.nv.toNat
  · rw [if_pos q]; exact hX
  · rw [if_neg q]; exact hV.2.1.2 i (by have := hV.2.1.1; omega)
theorem fg6_V {T : Nat → Int} {len la ga te st : Int} {P : PS} {D : DT} (hP : PB T len P) (hV : DV D) (h : P.fnd = 0 → D.nf < 6 ∧ (0 ≤ la ∧ la ≤ 3) ∧ (0 ≤ ga ∧ ga < te) ∧ (2 ≤ te ∧ te ≤ 60) ∧ (0 ≤ st ∧ st < te)) : DV (fg6 T len la ga te st P D).2 := by
  by_cases z : (fg6 T len la ga te st P D).1.fnd = 0
  · have q := fg6_0 hP z
    have r := h q.1
    rw [q.2.2]
    refine DV_wF hV (by omega) ⟨⟨?_, ?_, ?_, ?_, ?_, ?_⟩, ?_, ?_, ?_, ?_⟩
    · exact r.2.2.2.1.1
    · exact r.2.2.2.1.2
    · exact r.2.1.1
    · exact r.2.1.2
    · exact r.2.2.1.1
    · exact r.2.2.1.2
    · exact r.2.2.2.2.1
    · exact r.2.2.2.2.2
    · exact q.2.1.1
    · exact q.2.1.2
  · rw [fg6_n z]; exact hV
theorem fg5_V {T : Nat → Int} {len la ga te : Int} {P : PS} {D : DT} (hP : PB T len P) (hV : DV D) (h : P.fnd = 0 → D.nf < 6 ∧ (0 ≤ la ∧ la ≤ 3) ∧ (0 ≤ ga ∧ ga < te) ∧ (2 ≤ te ∧ te ≤ 60)) : DV (fg5 T len la ga te P D).2 := by
  refine fg6_V (hP.num.dem _ (by decide)) hV (fun z => ?_)
  have q := demS_0 (by decide) z
  have r := numS_0 hP q.1
  have s := h r.1
  exact ⟨s.1, s.2.1, s.2.2.1, s.2.2.2, r.2.1, q.2⟩
theorem fg4_V {T : Nat → Int} {len la ga : Int} {P : PS} {D : DT} (hP : PB T len P) (hV : DV D) (h : P.fnd = 0 → D.nf < 6 ∧ (0 ≤ la ∧ la ≤ 3) ∧ 0 ≤ ga) : DV (fg4 T len la ga P D).2 := by
  refine fg5_V (hP.num.dem _ (by decide)) hV (fun z => ?_)
  have q := demS_0 (by decide) z
  have r := numS_0 hP q.1
  have s := h r.1
  exact ⟨s.1, s.2.1, ⟨s.2.2, q.2⟩, r.2.1, r.2.2⟩
theorem fg3_V {T : Nat → Int} {len la : Int} {tw : Prop} {P : PS} {D : DT} (hP : PB T len P) (hV : DV D) (h : P.fnd = 0 → D.nf < 6 ∧ (0 ≤ la ∧ la ≤ 3)) : DV (fg3 T len la tw P D).2 := by
  unfold fg3
  by_cases w : tw
  · rw [cnd_t w]
    refine fg4_V hP.num hV (fun z => ?_)
    have r := numS_0 hP z
    have s := h r.1
    exact ⟨s.1, s.2, by omega⟩
  · rw [cnd_f w]
    exact fg4_V hP hV (fun z => ⟨(h z).1, (h z).2, Int.le_refl _⟩)
theorem fg2_V {T : Nat → Int} {len : Int} {wo tw : Prop} {P : PS} {D : DT} (hP : PB T len P) (hV : DV D) (h : P.fnd = 0 → D.nf < 6) : DV (fg2 T len wo tw P D).2 := by
  unfold fg2
  by_cases w : wo
  · rw [cnd_t w]
    refine fg3_V hP.num hV (fun z => ?_)
    have r := numS_0 hP z
    exact ⟨h r.1, by omega, r.2.2⟩
  · rw [cnd_f w]
    exact fg3_V hP hV (fun z => ⟨h z, by decide, by decide⟩)
theorem fgS_V {T : Nat → Int} {len : Int} {P : PS} {D : DT} (hP : PB T len P) (hV : DV D) : DV (fgS T len P D).2 :=
  fg2_V (((hP.dem _ (by decide)).adv).dem _ (by decide)) hV (fun z => (demS_0 (by decide) (advS_0 (demS_0 (by decide) z).1)).2)
theorem liS_V {T : Nat → Int} {len : Int} {P : PS} {D : DT} (hP : PB T len P) (hV : DV D) : DV (liS T len P D).2 := by
  unfold liS
  by_cases z0 : IsNm T P 0
  · rw [cnd_t z0]; exact fgS_V hP hV
  · rw [cnd_f z0]
    by_cases z1 : IsNm T P 1
    · rw [cnd_t z1]; exact ⟨hV.1, hV.2.1, Or.inr rfl, hV.2.2.2⟩
    · rw [cnd_f z1]
      by_cases z2 : IsNm T P 2
      · rw [cnd_t z2]; exact ⟨hV.1, hV.2.1, hV.2.2.1, Or.inr rfl⟩
      · rw [cnd_f z2]
        by_cases z3 : IsNm T P 3
        · rw [cnd_t z3]
          show DV (cnd _ _ _)
          by_cases z : (endS T len (voE T len P D).1).fnd = 0
          · rw [cnd_t z]
            have := vo_5 hV hP z
            exact DV_wV hV this.1 this.2
          · rw [cnd_f z]; exact hV
        · rw [cnd_f z3]; exact hV
/-- the rest: what sticks, the reach -/
def DK (D D2 : DT) : Prop := D2.sd = D.sd ∧ D2.sf = D.sf ∧ D2.s2 = D.s2 ∧ D2.rc = D.rc
def DW (D : DT) : Prop := (0 ≤ D.rc ∧ D.rc ≤ 3) ∧ (-4 ≤ D.sd ∧ D.sd ≤ 8) ∧ (-4 ≤ D.sf ∧ D.sf ≤ 365) ∧ (-4 ≤ D.s2 ∧ D.s2 ≤ 365)
theorem DW.k {D D2 : DT} (h : DW D) (k : DK D D2) : DW D2 := by
  unfold DW
  rw [k.1, k.2.1, k.2.2.1, k.2.2.2]; exact h
theorem cnd_P {α : Type} {Q : α → Prop} {p : Prop} {a b : α} (ha : Q a) (hb : Q b) : Q (cnd p a b) := by
  by_cases z : p
  · rw [cnd_t z]; exact ha
  · rw [cnd_f z]; exact hb
theorem fg4_K {T : Nat → Int} {len la ga : Int} {P : PS} {D : DT} : DK D (fg4 T len la ga P D).2 := cnd_P (Q := DK D) ⟨rfl, rfl, rfl, rfl⟩ ⟨rfl, rfl, rfl, rfl⟩
theorem fg3_K {T : Nat → Int} {len la : Int} {tw : Prop} {P : PS} {D : DT} : DK D (fg3 T len la tw P D).2 := cnd_P (Q := fun X : PS × DT => DK D X.2) fg4_K fg4_K
theorem fgS_K {T : Nat → Int} {len : Int} {P : PS} {D : DT} : DK D (fgS T len P D).2 := cnd_P (Q := fun X : PS × DT => DK D X.2) fg3_K fg3_K
theorem liS_W {T : Nat → Int} {len : Int} {P : PS} {D : DT} (hP : PB T len P) (h0 : (liS T len P D).1.fnd = 0) (hW : DW D) : DW (liS T len P D).2 := by
  unfold liS at h0 ⊢
  by_cases z0 : IsNm T P 0
  · rw [cnd_t z0]; exact hW.k fgS_K
  · rw [cnd_f z0] at h0 ⊢
    by_cases z1 : IsNm T P 1
    · rw [cnd_t z1] at h0 ⊢
      have p0 : PB T len (demS (D.hs = 0) 4 P) := hP.dem _ (by decide)
      have p1 : PB T len (stA T len P D).1 := p0.num
      have p2 : PB T len (stB T len P D).1 := p1.num
      have h3 := numS_0 p2 (endS_0 h0)
      have h2 := numS_0 p1 h3.1
      have h1 := numS_0 p0 h2.1
      have e1 : (stA T len P D).2 = (numS T len 0 8 (demS (D.hs = 0) 4 P)).2 := rfl
      have e2 : (stB T len P D).2 = (numS T len 0 365 (stA T len P D).1).2 := rfl
      have e3 : (stC' T len P D).2 = (numS T len (stB T len P D).2 365 (stB T len P D).1).2 := rfl
      rw [← e1] at h1; rw [← e2] at h2; rw [← e3] at h3
      refine ⟨hW.1, ⟨?_, ?_⟩, ⟨?_, ?_⟩, ⟨?_, ?_⟩⟩
      · show -4 ≤ (stA T len P D).2; omega
      · show (stA T len P D).2 ≤ 8; omega
      · show -4 ≤ (stB T len P D).2; omega
      · show (stB T len P D).2 ≤ 365; omega
      · show -4 ≤ (stC' T len P D).2; omega
      · show (stC' T len P D).2 ≤ 365; omega
    · rw [cnd_f z1] at h0 ⊢
      by_cases z2 : IsNm T P 2
      · rw [cnd_t z2] at h0 ⊢
        have p0 : PB T len (demS (D.hr = 0) 4 P) := hP.dem _ (by decide)
        have h1 := numS_0 p0 (endS_0 h0)
        exact ⟨h1.2, hW.2⟩
      · rw [cnd_f z2] at h0 ⊢
        by_cases z3 : IsNm T P 3
        · rw [cnd_t z3] at h0 ⊢
          rw [show (voS T len P D).2 = D.wV (voX T len P D) from cnd_t h0]
          exact hW
        · rw [cnd_f z3]; exact hW
/-! all lines -/
noncomputable def runS (T : Nat → Int) (len : Int) : Nat → PS → DT → (PS × DT) × Nat
  | 0, P, D => ((P, D), 0)
  | n + 1, P, D => cnd (P.fnd = 0 ∧ P.tok ≠ 0) ((runS T len n (advS T len (liS T len P D).1) (liS T len P D).2).1, (runS T len n (advS T len (liS T len P D).1) (liS T len P D).2).2 + 1) ((P, D), 0)
theorem run_n {T : Nat → Int} {len : Int} {P : PS} {D : DT} (h : ¬ (P.fnd = 0 ∧ P.tok ≠ 0)) (n : Nat) : runS T len n P D = ((P, D), 0) := by
  cases n with
  | zero => rfl
  | succ n => exact cnd_f h
theorem run_s {T : Nat → Int} {len : Int} {P : PS} {D : DT} (h : P.fnd = 0 ∧ P.tok ≠ 0) (n : Nat) : runS T len (n + 1) P D = ((runS T len n (advS T len (liS T len P D).1) (liS T len P D).2).1, (runS T len n (advS T len (liS T len P D).1) (liS T len P D).2).2 + 1) := cnd_t h
def D0 : DT := (0, fun _ => (0, 0, 0, 0, 0), 0, fun _ => (0, 0, 0, 0, 0), (-4, -4, -4, 1), 0, 0)
def P0 : PS := (0, 0, 0, 0, 0)
theorem P0_B {T : Nat → Int} {len : Int} (h : 0 ≤ len) : PB T len P0 := ⟨⟨Int.le_refl _, by show (0 : Int) ≤ 3; decide⟩, Int.le_refl _, Int.le_refl _, h, ⟨Int.le_refl _, by show (0 : Int) ≤ 6; decide⟩, fun z => absurd z (by show ¬ (0 : Int) = 2; decide)⟩
theorem D0_V : DV D0 := ⟨⟨⟨Int.le_refl _, by show (0 : Int) ≤ 6; decide⟩, fun i hi => by have hi : (i : Int) < 0 := hi; omega⟩, ⟨⟨Int.le_refl _, by show (0 : Int) ≤ 6; decide⟩, fun i hi => by have hi : (i : Int) < 0 := hi; omega⟩, Or.inl rfl, Or.inl rfl⟩
theorem D0_W : DW D0 := by unfold DW D0 DT.rc DT.sd DT.sf DT.s2; decide
/-- behind all: a figure that there is not -/
noncomputable def fiS (len : Int) (i : Nat) (P : PS) (D : DT) : PS := cnd (P.fnd = 0 ∧ ∃ v : Nat, v < i ∧ D.nf ≤ (D.V v).2.1) (P.tok, P.tat, P.ten, 6, len) P
noncomputable def pa0 (T : Nat → Int) (len : Int) : (PS × DT) × Nat := runS T len 401 (advS T len P0) D0
noncomputable def paP (T : Nat → Int) (len : Int) : PS := fiS len (pa0 T len).1.2.nv.toNat (pa0 T len).1.1 (pa0 T len).1.2
theorem fiS_B {T : Nat → Int} {len : Int} {i : Nat} {P : PS} {D : DT} (h : PB T len P) : PB T len (fiS len i P D) := by
  unfold fiS
  by_cases z : P.fnd = 0 ∧ ∃ v : Nat, v < i ∧ D.nf ≤ (D.V v).2.1
  · rw [cnd_t z]; exact ⟨h.1, h.2.1, h.2.2.1, h.2.2.2.1, ⟨by show (0 : Int) ≤ 6; decide, by show (6 : Int) ≤ 6; decide⟩, fun _ w => absurd w (by show ¬ (6 : Int) = 0; decide)⟩
  · rw [cnd_f z]; exact h
theorem fiS_n {len : Int} {i : Nat} {P : PS} {D : DT} (h : ¬ D.nf ≤ (D.V i).2.1) : fiS len (i + 1) P D = fiS len i P D := cnd_congr ⟨fun ⟨z, v, z1, z2⟩ => ⟨z, v, by rcases (by omega : v < i ∨ v = i) with q | rfl; exact q; exact absurd z2 h, z2⟩, fun ⟨z, v, z1, z2⟩ => ⟨z, v, by omega, z2⟩⟩
theorem fiS_y {len : Int} {i : Nat} {P : PS} {D : DT} (h : D.nf ≤ (D.V i).2.1) : fiS len (i + 1) P D = refS 6 len (fiS len i P D) := by
  by_cases z : P.fnd = 0
  · rw [show fiS len (i + 1) P D = _ from cnd_t ⟨z, i, by omega, h⟩]
    by_cases w : P.fnd = 0 ∧ ∃ v : Nat, v < i ∧ D.nf ≤ (D.V v).2.1
    · rw [show fiS len i P D = (P.tok, P.tat, P.ten, 6, len) from cnd_t w]
      exact (cnd_t (by show (6 : Int) ≠ 0; decide)).symm
    · rw [show fiS len i P D = P from cnd_f w]
      exact (cnd_f (fun q => q z)).symm
  · rw [show fiS len (i + 1) P D = P from cnd_f (fun q => z q.1), show fiS len i P D = P from cnd_f (fun q => z q.1)]
    exact (cnd_t z).symm
theorem fiS_BB {T : Nat → Int} {len : Int} {i : Nat} {P : PS} {D : DT} (h : PB T len (fiS len i P D)) : PB T len (fiS len (i + 1) P D) := by
  by_cases q : D.nf ≤ (D.V i).2.1
  · rw [fiS_y q]
    unfold refS
    by_cases z : (fiS len i P D).fnd ≠ 0
    · rw [cnd_t z]; exact h
    · rw [cnd_f z]; exact ⟨h.1, h.2.1, h.2.2.1, h.2.2.2.1, ⟨by show (0 : Int) ≤ 6; decide, by show (6 : Int) ≤ 6; decide⟩, fun _ w => absurd w (by show ¬ (6 : Int) = 0; decide)⟩
  · rw [fiS_n q]; exact h
theorem rl_D0 {h : HM} {u : Nat} (hr : 161 ≤ u) (h5 : h.I u 5 = 0) (h6 : h.I u 6 = 0) : DrC (wJ ((((h.sI 40 3 0).sI 40 4 0).sI 40 5 0).sI 40 9 1) 40 (-4) (-4) (-4)) u D0 := by
  have hu : ¬ u = 40 := by omega
  refine ⟨⟨?_, fun i hi => by have hi : (i : Int) < 0 := hi; omega⟩, ⟨?_, fun i hi => by have hi : (i : Int) < 0 := hi; omega⟩, ⟨?_, ?_, ?_, ?_, ?_⟩, ?_, ?_⟩
  all_goals first | (unfold wJ; simp only [sI_I, hu, false_and, if_false]; first | exact h5 | exact h6) | (unfold wJ; simp [D0, HM.sI, HM.I, up2, DT.nf, DT.nv, DT.sd, DT.sf, DT.s2, DT.rc])
set_option maxRecDepth 100000 in
set_option maxHeartbeats 1000000 in
theorem e_X3_readLines {G : GX} {y : LY} {h : HM} {d : Nat} (hY : Lay y) {u : Nat} (ho : IsO y u 3) (hRt : y.R u 0 = some 10) (hRd : y.R u 1 = some 40) (hr : 161 ≤ u) {T : Nat → Int} {len : Int} (hS : TS h u T len P0) (h5 : h.I u 5 = 0) (h6 : h.I u 6 = 0) : EvQX G mX3_readLines (d + 7) [.ref u] y h (fun (v : Int) h1 => v = ((pa0 T len).2 : Int) ∧ FrL u h h1 ∧ TS h1 u T len (paP T len) ∧ DrC h1 u (pa0 T len).1.2 ∧ DV (pa0 T len).1.2 ∧ ((pa0 T len).1.1.fnd = 0 → DW (pa0 T len).1.2)) := by
  have hTP := hS.1
  have hln := hTP.2.2.1
  refine Ev.of rfl [some (.ref u), none, none] rfl (Nat.le_of_ble_eq_true rfl) ?_
  have L50 : ∀ (m : Nat) (h1 : HM) (P1 : PS) (D1 : DT) (n i : Nat), (m : Int) = D1.nv - i → (i : Int) ≤ D1.nv → n ≤ 400 → TS h1 u T len (fiS len i P1 D1) → FrL u h h1 → DrC h1 u D1 → DV D1 → pa0 T len = ((P1, D1), n) → (P1.fnd = 0 → DW D1) → Go G mX3_readLines (rmo (d + 7) 0 0) (ZM G y 0 0 (fun r h1 => ∃ v_ : Int, r = some (.int (iZ v_)) ∧ (fun (v : Int) h1 => v = ((pa0 T len).2 : Int) ∧ FrL u h h1 ∧ TS h1 u T len (paP T len) ∧ DrC h1 u (pa0 T len).1.2 ∧ DV (pa0 T len).1.2 ∧ ((pa0 T len).1.1.fnd = 0 → DW (pa0 T len).1.2)) v_ h1)) y 50 [some (.ref u), some (.int (iZ n)), some (.int (iZ i))] [] h1 (0, 0) := by
    intro m
    induction m using Nat.strongRecOn with | _ m ih =>
    intro h1 P1 D1 n i hm hi hn hS1 hF1 hD1 hV1 heq hW1
    have hb := hD1.b hV1
    have hx3 := hD1.1.1
    have hx4 := hD1.2.1.1
    have hf1 := hS1.f
    have hl10 := hS1.1.2.1
    obtain ⟨qb1, qb2, qb3, qb4, qb5, qb6⟩ := id hS1.2.2
    have hvi : (i : Int) < D1.nv → h1.I (40 + 10 + (i : Int).toNat) 1 = (D1.V i).2.1 ∧ 0 ≤ (D1.V i).2.1 ∧ (D1.V i).2.1 < 6 := fun z => ⟨by rw [Int.toNat_natCast]; exact congrArg (fun F : Fg => F.2.1) (hD1.2.1.2 i z), (hV1.2.1.2 i z).2.1⟩
    refine g_iload_n dX3_readLines_50 rfl rfl (g_aload_n dX3_readLines_51 rfl rfl (gf_X3_38 (M := mX3_readLines) rfl dX3_readLines_52 ho hRd (gf_X3_53 (M := mX3_readLines) rfl dX3_readLines_55 (ck_o hY clk40) ?_)))
    refine g_icmp_ge 102 dX3_readLines_58 rfl (by omega) (by omega) (fun c58 => ?_) (fun c58 => ?_)
    · skip
      refine g_iload_n dX3_readLines_102 rfl rfl ?_
      exact g_iret dX3_readLines_103 rfl rfl ⟨Nat.le_refl _, Nat.le_refl _⟩ (by refine ⟨_, rfl, by rw [heq], hF1, ?_, by rw [heq]; exact hD1, by rw [heq]; exact hV1, by rw [heq]; exact hW1⟩; unfold paP; rw [heq]; show TS h1 u T len (fiS len D1.nv.toNat P1 D1); rw [show D1.nv.toNat = i by omega]; exact hS1)
    · skip
      have hvj := hvi (by omega)
      refine g_aload_n dX3_readLines_61 rfl rfl (gf_X3_38 (M := mX3_readLines) rfl dX3_readLines_62 ho hRd (gf_X3_56 (M := mX3_readLines) rfl dX3_readLines_65 (ck_o hY clk40) (ck_r1 hY clk40) (g_iload_n dX3_readLines_68 rfl rfl (g_aald dX3_readLines_69 (ck_a1 hY clk40) (by decide) (D0 := "ClockTeeth$Vote") rfl ⟨by omega, by omega, by omega⟩ (ck_vr hY clk40 (by omega)) (gf_X3_60 (M := mX3_readLines) rfl dX3_readLines_70 (ck_vo hY clk40 (by omega)) (g_aload_n dX3_readLines_73 rfl rfl (gf_X3_38 (M := mX3_readLines) rfl dX3_readLines_74 ho hRd (gf_X3_65 (M := mX3_readLines) rfl dX3_readLines_77 (ck_o hY clk40) ?_))))))))
      refine g_icmp_lt 96 dX3_readLines_80 rfl (by omega) (by omega) (fun c80 => ?_) (fun c80 => ?_)
      · skip
        refine g_inc2 dX3_readLines_96 (by decide) rfl (g_goto 50 dX3_readLines_99 rfl ?_)
        first
        | exact ih (m - 1) (by omega) h1 P1 D1 n (i + 1) (by omega) (by omega) hn (by rw [fiS_n (by omega)]; exact hS1) hF1 hD1 hV1 heq hW1
        | exact ih (m - 1) (by omega) h93 P1 D1 n (i + 1) (by omega) (by omega) hn (hS1.fr hr hq93.1 (by rw [hq93.2, hS1.2.1, fiS_y (by omega), hl10]) (by rw [fiS_y (by omega), ← fiS_y (by omega)]; exact fiS_BB hS1.2.2)) (hF1.tr hq93.1.l) (hD1.fr hV1 hr hq93.1) hV1 heq hW1
      · skip
        refine g_aload_n dX3_readLines_83 rfl rfl (g_bipush dX3_readLines_84 kb6 (g_aload_n dX3_readLines_86 rfl rfl (gf_X3_34 (M := mX3_readLines) rfl dX3_readLines_87 ho hRt (gf_X3_68 (M := mX3_readLines) rfl dX3_readLines_90 (yo10 hY) ?_))))
        refine cv_X3_73 (M := mX3_readLines) rfl dX3_readLines_93 ho (RO.same _ _ _) (Nat.le_of_ble_eq_true rfl) (e_X3_refuse hY ho hRt hRd hr (by omega) (by omega)) (kQV fun h93 hq93 => ?_)
        refine g_inc2 dX3_readLines_96 (by decide) rfl (g_goto 50 dX3_readLines_99 rfl ?_)
        first
        | exact ih (m - 1) (by omega) h1 P1 D1 n (i + 1) (by omega) (by omega) hn (by rw [fiS_n (by omega)]; exact hS1) hF1 hD1 hV1 heq hW1
        | exact ih (m - 1) (by omega) h93 P1 D1 n (i + 1) (by omega) (by omega) hn (hS1.fr hr hq93.1 (by rw [hq93.2, hS1.2.1, fiS_y (by omega), hl10]) (by rw [fiS_y (by omega), ← fiS_y (by omega)]; exact fiS_BB hS1.2.2)) (hF1.tr hq93.1.l) (hD1.fr hV1 hr hq93.1) hV1 heq hW1
  have L13 : ∀ (m : Nat) (h1 : HM) (P1 : PS) (D1 : DT) (n : Nat), m = 401 - n → n ≤ 400 → TS h1 u T len P1 → FrL u h h1 → DrC h1 u D1 → DV D1 → (P1.fnd = 0 → P1.tok ≠ 0 → (n : Int) + 1 ≤ P1.ten) → pa0 T len = ((runS T len (401 - n) P1 D1).1, n + (runS T len (401 - n) P1 D1).2) → (P1.fnd = 0 → DW D1) → Go G mX3_readLines (rmo (d + 7) 0 0) (ZM G y 0 0 (fun r h1 => ∃ v_ : Int, r = some (.int (iZ v_)) ∧ (fun (v : Int) h1 => v = ((pa0 T len).2 : Int) ∧ FrL u h h1 ∧ TS h1 u T len (paP T len) ∧ DrC h1 u (pa0 T len).1.2 ∧ DV (pa0 T len).1.2 ∧ ((pa0 T len).1.1.fnd = 0 → DW (pa0 T len).1.2)) v_ h1)) y 13 [some (.ref u), some (.int (iZ n)), none] [] h1 (0, 0) := by
    intro m
    induction m using Nat.strongRecOn with | _ m ih =>
    intro h1 P1 D1 n hm hn hS1 hF1 hD1 hV1 hpr heq hW1
    have hb := hD1.b hV1
    have hf1 := hS1.f
    obtain ⟨qb1, qb2, qb3, qb4, qb5, qb6⟩ := id hS1.2.2
    have hten := hpr
    refine g_aload_n dX3_readLines_13 rfl rfl (gf_X3_28 (M := mX3_readLines) rfl dX3_readLines_14 ho ?_)
    refine g_if_ne 48 dX3_readLines_17 rfl (by omega) (fun c17 => ?_) (fun c17 => ?_)
    · skip
      refine g_iconst dX3_readLines_48 (g_ist2 dX3_readLines_49 (by decide) rfl ?_)
      have hnot : ¬ (P1.fnd = 0 ∧ P1.tok ≠ 0) := fun z => by have := hpr z.1 z.2; omega
      rw [run_n hnot] at heq
      refine L50 D1.nv.toNat h1 P1 D1 n 0 (by have := hV1.2.1.1; omega) (by have := hV1.2.1.1; omega) hn ?_ hF1 hD1 hV1 heq hW1
      rw [show fiS len 0 P1 D1 = P1 from cnd_f (fun z => by obtain ⟨_, v, z1, _⟩ := z; omega)]
      exact hS1
    · skip
      refine g_aload_n dX3_readLines_20 rfl rfl (gf_X3_11 (M := mX3_readLines) rfl dX3_readLines_21 ho ?_)
      refine g_if_eq 48 dX3_readLines_24 rfl (by omega) (fun c24 => ?_) (fun c24 => ?_)
      · skip
        refine g_iconst dX3_readLines_48 (g_ist2 dX3_readLines_49 (by decide) rfl ?_)
        have hnot : ¬ (P1.fnd = 0 ∧ P1.tok ≠ 0) := fun z => by have := hpr z.1 z.2; omega
        rw [run_n hnot] at heq
        refine L50 D1.nv.toNat h1 P1 D1 n 0 (by have := hV1.2.1.1; omega) (by have := hV1.2.1.1; omega) hn ?_ hF1 hD1 hV1 heq hW1
        rw [show fiS len 0 P1 D1 = P1 from cnd_f (fun z => by obtain ⟨_, v, z1, _⟩ := z; omega)]
        exact hS1
      · skip
        refine g_iload_n dX3_readLines_27 rfl rfl (g_sipush dX3_readLines_28 ks400 ?_)
        refine g_icmp_ge 48 dX3_readLines_31 rfl (by omega) (by omega) (fun c31 => ?_) (fun c31 => ?_)
        · skip
          refine g_iconst dX3_readLines_48 (g_ist2 dX3_readLines_49 (by decide) rfl ?_)
          have hnot : ¬ (P1.fnd = 0 ∧ P1.tok ≠ 0) := fun z => by have := hpr z.1 z.2; omega
          rw [run_n hnot] at heq
          refine L50 D1.nv.toNat h1 P1 D1 n 0 (by have := hV1.2.1.1; omega) (by have := hV1.2.1.1; omega) hn ?_ hF1 hD1 hV1 heq hW1
          rw [show fiS len 0 P1 D1 = P1 from cnd_f (fun z => by obtain ⟨_, v, z1, _⟩ := z; omega)]
          exact hS1
        · skip
          have hnn := hpr (by omega) (by omega)
          have hmo := liS_M (D := D1) hS1.2.2
          refine g_aload_n dX3_readLines_34 rfl rfl ?_
          refine cv_X3_50 (M := mX3_readLines) rfl dX3_readLines_35 ho (RO.same _ _ _) (Nat.le_of_ble_eq_true rfl) (e_X3_readLine hY ho hRt hRd hr hS1 hD1 hV1) (kQV fun h35 hq35 => ?_)
          refine g_aload_n dX3_readLines_38 rfl rfl ?_
          refine cv_X3_47 (M := mX3_readLines) rfl dX3_readLines_39 ho (RO.same _ _ _) (Nat.le_of_ble_eq_true rfl) (e_X3_advance hY ho hRt hRd hr hq35.2.1) (kQV fun h39 hq39 => ?_)
          refine g_inc1 dX3_readLines_42 (by decide) rfl (g_goto 13 dX3_readLines_45 rfl ?_)
          have hv2 := liS_V hS1.2.2 hV1
          have hx := ih (m - 1) (by omega) h39 _ (liS T len P1 D1).2 (n + 1) (by omega) (by omega) hq39.2 ((hF1.tr hq35.1).tr hq39.1.l) (hq35.2.2.fr hv2 hr hq39.1) hv2 (fun z1 z2 => by have w := adv_go hmo.1 (advS_0 z1); have := w.2.2.1 z2; have := hmo.2.1; push_cast; omega) (by rw [heq, show 401 - n = (401 - (n + 1)) + 1 by omega, run_s ⟨by omega, by omega⟩]; congr 1; omega) (fun z => liS_W hS1.2.2 (advS_0 z) (hW1 (by omega)))
          exact hx
  refine g_aload_n dX3_readLines_0 rfl rfl (gf_X3_38 (M := mX3_readLines) rfl dX3_readLines_1 ho hRd (cv_X3_42 (M := mX3_readLines) rfl dX3_readLines_4 (ck_o hY clk40) (RO.same _ _ _) (Nat.le_of_ble_eq_true rfl) (e_X0_empty hY clk40) <| kV (g_iconst dX3_readLines_7 (g_ist1 dX3_readLines_8 (by decide) rfl (g_aload_n dX3_readLines_9 rfl rfl ?_)))))
  refine cv_X3_47 (M := mX3_readLines) rfl dX3_readLines_10 ho (RO.same _ _ _) (Nat.le_of_ble_eq_true rfl) (e_X3_advance hY ho hRt hRd hr (TS.wJe ((((hS.s hr (a := 40) (j := 3) (by omega) 0).s hr (a := 40) (j := 4) (by omega) 0).s hr (a := 40) (j := 5) (by omega) 0).s hr (a := 40) (j := 9) (by omega) 1) hr (-4) (-4) (-4))) (kQV fun h10 hq10 => ?_)
  have hd0 := rl_D0 hr h5 h6
  have w := adv_go (P0_B (T := T) hln.1) rfl
  refine L13 401 h10 _ D0 0 (by omega) (by omega) hq10.2 (((((((FrL.rf u h).s (a := 40) (by omega) 3 0).s (a := 40) (by omega) 4 0).s (a := 40) (by omega) 5 0).s (a := 40) (by omega) 9 1).wJe (-4) (-4) (-4)).tr hq10.1.l) (hd0.fr D0_V hr hq10.1) D0_V (fun z1 z2 => by have := w.2.2.1 z2; have e : P0.ten = 0 := rfl; omega) (by unfold pa0; simp) (fun _ => D0_W)
