/-! the reading of a text, as functions of the tape -/
noncomputable def cnd {α : Type} (p : Prop) (a b : α) : α := @ite α p (Classical.propDecidable p) a b
theorem cnd_t {α : Type} {p : Prop} {a b : α} (h : p) : cnd p a b = a := if_pos h
theorem cnd_f {α : Type} {p : Prop} {a b : α} (h : ¬ p) : cnd p a b = b := if_neg h
theorem cnd_congr {α : Type} {p q : Prop} {a b : α} (h : p ↔ q) : cnd p a b = cnd q a b := by
  by_cases z : p
  · rw [cnd_t z, cnd_t (h.mp z)]
  · rw [cnd_f z, cnd_f (fun w => z (h.mpr w))]
/-- what stands now: sort, place, end; the fault and its place (0 while there is none) -/
abbrev PS : Type := Int × Int × Int × Int × Int
def PS.tok (P : PS) : Int := P.1
def PS.tat (P : PS) : Int := P.2.1
def PS.ten (P : PS) : Int := P.2.2.1
def PS.fnd (P : PS) : Int := P.2.2.2.1
def PS.fat (P : PS) : Int := P.2.2.2.2
noncomputable def skI (C : Int → Prop) : Nat → Int → Int
  | 0, p => p
  | n + 1, p => cnd (C p) (skI C n (p + 1)) p
noncomputable def sk (C : Int → Prop) (len p : Int) : Int := skI C (len - p).toNat p
theorem sk_t {C : Int → Prop} {len p : Int} (h : C p) (hp : p < len) : sk C len p = sk C len (p + 1) := by
  unfold sk
  rw [show (len - p).toNat = (len - (p + 1)).toNat + 1 by omega, skI, cnd_t h]
theorem sk_f {C : Int → Prop} {len p : Int} (h : ¬ C p) : sk C len p = p := by
  unfold sk
  cases (len - p).toNat with
  | zero => rfl
  | succ n => rw [skI, cnd_f h]
theorem skI_bd {C : Int → Prop} {len : Int} (hC : ∀ p, C p → p < len) : ∀ (n : Nat) (p : Int), p ≤ skI C n p ∧ (p ≤ len → skI C n p ≤ len) ∧ (∀ i : Int, p ≤ i → i < skI C n p → C i)
  | 0, p => ⟨Int.le_refl _, fun h => h, fun i h1 h2 => absurd h2 (by unfold skI; omega)⟩
  | n + 1, p => by
    by_cases h : C p
    · rw [skI, cnd_t h]
      have q := skI_bd hC n (p + 1)
      have q1 := hC p h
      refine ⟨by omega, fun _ => q.2.1 (by omega), fun i h1 h2 => ?_⟩
      by_cases e : i = p
      · rw [e]; exact h
      · exact q.2.2 i (by omega) h2
    · rw [skI, cnd_f h]
      exact ⟨Int.le_refl _, fun h => h, fun i h1 h2 => absurd h2 (by omega)⟩
def BlC (T : Nat → Int) (len p : Int) : Prop := p < len ∧ T p.toNat = 32
def LtC (T : Nat → Int) (len p : Int) : Prop := p < len ∧ 97 ≤ T p.toNat ∧ T p.toNat ≤ 122
def DgC (T : Nat → Int) (len p : Int) : Prop := p < len ∧ 48 ≤ T p.toNat ∧ T p.toNat ≤ 57
/-- it must be so: else a fault, at the place of what stands now -/
noncomputable def demS (B : Prop) (code : Int) (P : PS) : PS := cnd (B ∨ P.fnd ≠ 0) P (P.tok, P.tat, P.ten, code, P.tat)
theorem demS_t {B : Prop} {c : Int} {P : PS} (h : B) : demS B c P = P := cnd_t (Or.inl h)
theorem demS_n {B : Prop} {c : Int} {P : PS} (h : P.fnd ≠ 0) : demS B c P = P := cnd_t (Or.inr h)
theorem demS_f {B : Prop} {c : Int} {P : PS} (h : ¬ B) (h2 : P.fnd = 0) : demS B c P = (P.tok, P.tat, P.ten, c, P.tat) := cnd_f (fun z => z.elim h (fun w => w h2))
theorem demS_cg {B B' : Prop} {c : Int} {P : PS} (h : B ↔ B') : demS B c P = demS B' c P := cnd_congr ⟨fun z => z.imp h.mp id, fun z => z.imp h.mpr id⟩
noncomputable def advA (T : Nat → Int) (len a : Int) : PS :=
  cnd (¬ a < len) (0, a, a, 0, 0) (cnd (LtC T len a) (1, a, sk (LtC T len) len a, 0, 0) (cnd (DgC T len a) (demS (sk (DgC T len) len a - a ≤ 3) 1 (2, a, sk (DgC T len) len a, 0, 0)) (demS (T a.toNat = 59) 1 (3, a, a + 1, 0, 0))))
/-- the next token -/
noncomputable def advS (T : Nat → Int) (len : Int) (P : PS) : PS := cnd (P.fnd ≠ 0) P (advA T len (sk (BlC T len) len P.ten))
theorem advS_n {T : Nat → Int} {len : Int} {P : PS} (h : P.fnd ≠ 0) : advS T len P = P := cnd_t h
/-- the number of n figures from p on -/
def nuV (T : Nat → Int) : Nat → Int → Int
  | 0, _ => 0
  | n + 1, p => 10 * nuV T n p + T (p + n).toNat - 48
def PB (T : Nat → Int) (len : Int) (P : PS) : Prop := (0 ≤ P.tok ∧ P.tok ≤ 3) ∧ 0 ≤ P.tat ∧ P.tat ≤ P.ten ∧ P.ten ≤ len ∧ (0 ≤ P.fnd ∧ P.fnd ≤ 6) ∧ (P.tok = 2 → P.fnd = 0 → P.ten - P.tat ≤ 3 ∧ ∀ i : Int, P.tat ≤ i → i < P.ten → 48 ≤ T i.toNat ∧ T i.toNat ≤ 57)
theorem PB.dem {T : Nat → Int} {len : Int} {P : PS} (h : PB T len P) (B : Prop) {c : Int} (hc : 0 < c ∧ c ≤ 6) : PB T len (demS B c P) := by
  by_cases h1 : B ∨ P.fnd ≠ 0
  · rw [show demS B c P = P from cnd_t h1]; exact h
  · rw [show demS B c P = (P.tok, P.tat, P.ten, c, P.tat) from cnd_f h1]
    refine ⟨h.1, h.2.1, h.2.2.1, h.2.2.2.1, ⟨by show 0 ≤ c; omega, by show c ≤ 6; omega⟩, fun _ z => ?_⟩
    have z : c = 0 := z
    omega
theorem nuV_bd {T : Nat → Int} : ∀ (n : Nat) (p : Int), n ≤ 3 → (∀ i : Int, p ≤ i → i < p + n → 48 ≤ T i.toNat ∧ T i.toNat ≤ 57) → 0 ≤ nuV T n p ∧ nuV T n p < 10 ^ n
  | 0, p, _, _ => ⟨Int.le_refl _, by show (0 : Int) < 10 ^ 0; decide⟩
  | n + 1, p, hn, h => by
    have h1 := nuV_bd n p (by omega) (fun i a b => h i a (by push_cast; omega))
    have h2 := h (p + n) (by omega) (by push_cast; omega)
    rw [nuV, Int.pow_succ]
    omega
theorem sk_bd {C : Int → Prop} {len p : Int} (hC : ∀ p, C p → p < len) (hp : p ≤ len) : p ≤ sk C len p ∧ sk C len p ≤ len ∧ (∀ i : Int, p ≤ i → i < sk C len p → C i) := by
  have := skI_bd hC (len - p).toNat p
  exact ⟨this.1, this.2.1 hp, this.2.2⟩
theorem advA_PB {T : Nat → Int} {len a : Int} (h0 : 0 ≤ a) (h1 : a ≤ len) : PB T len (advA T len a) ∧ ((advA T len a).tok = 0 → (advA T len a).tat = len ∧ (advA T len a).fnd = 0) ∧ ((advA T len a).tok ≠ 0 → a < (advA T len a).ten) := by
  unfold advA
  by_cases c1 : ¬ a < len
  · rw [cnd_t c1]
    exact ⟨⟨⟨Int.le_refl _, by show (0 : Int) ≤ 3; decide⟩, h0, Int.le_refl _, h1, ⟨Int.le_refl _, by show (0 : Int) ≤ 6; decide⟩, fun z => absurd z (by show ¬ (0 : Int) = 2; decide)⟩, fun _ => ⟨by show a = len; omega, rfl⟩, fun z => absurd rfl z⟩
  · rw [cnd_f c1]
    by_cases c2 : LtC T len a
    · rw [cnd_t c2]
      have q := sk_bd (C := LtC T len) (fun p z => z.1) h1
      rw [sk_t c2 (by omega)] at q ⊢
      have q2 := sk_bd (C := LtC T len) (p := a + 1) (fun p z => z.1) (by omega)
      exact ⟨⟨⟨by show (0 : Int) ≤ 1; decide, by show (1 : Int) ≤ 3; decide⟩, h0, q.1, q.2.1, ⟨Int.le_refl _, by show (0 : Int) ≤ 6; decide⟩, fun z => absurd z (by show ¬ (1 : Int) = 2; decide)⟩, fun z => absurd z (by show ¬ (1 : Int) = 0; decide), fun _ => by show a < sk _ len (a + 1); omega⟩
    · rw [cnd_f c2]
      by_cases c3 : DgC T len a
      · rw [cnd_t c3]
        have q := sk_bd (C := DgC T len) (fun p z => z.1) h1
        have q2 := sk_bd (C := DgC T len) (p := a + 1) (fun p z => z.1) (by omega)
        have q3 := sk_t (len := len) c3 (by omega)
        generalize sk (DgC T len) len a = e at q q3 ⊢
        by_cases c4 : e - a ≤ 3
        · rw [demS_t c4]
          exact ⟨⟨⟨by show (0 : Int) ≤ 2; decide, by show (2 : Int) ≤ 3; decide⟩, h0, q.1, q.2.1, ⟨Int.le_refl _, by show (0 : Int) ≤ 6; decide⟩, fun _ _ => ⟨c4, fun i i0 i1 => (q.2.2 i i0 i1).2⟩⟩, fun z => absurd z (by show ¬ (2 : Int) = 0; decide), fun _ => by show a < e; omega⟩
        · rw [demS_f c4 rfl]
          exact ⟨⟨⟨by show (0 : Int) ≤ 2; decide, by show (2 : Int) ≤ 3; decide⟩, h0, q.1, q.2.1, ⟨by show (0 : Int) ≤ 1; decide, by show (1 : Int) ≤ 6; decide⟩, fun _ z => absurd z (by show ¬ (1 : Int) = 0; decide)⟩, fun z => absurd z (by show ¬ (2 : Int) = 0; decide), fun _ => by show a < e; omega⟩
      · rw [cnd_f c3]
        by_cases c4 : T a.toNat = 59
        · rw [demS_t c4]
          exact ⟨⟨⟨by show (0 : Int) ≤ 3; decide, Int.le_refl _⟩, h0, by show a ≤ a + 1; omega, by show a + 1 ≤ len; omega, ⟨Int.le_refl _, by show (0 : Int) ≤ 6; decide⟩, fun z => absurd z (by show ¬ (3 : Int) = 2; decide)⟩, fun z => absurd z (by show ¬ (3 : Int) = 0; decide), fun _ => by show a < a + 1; omega⟩
        · rw [demS_f c4 rfl]
          exact ⟨⟨⟨by show (0 : Int) ≤ 3; decide, Int.le_refl _⟩, h0, by show a ≤ a + 1; omega, by show a + 1 ≤ len; omega, ⟨by show (0 : Int) ≤ 1; decide, by show (1 : Int) ≤ 6; decide⟩, fun z => absurd z (by show ¬ (3 : Int) = 2; decide)⟩, fun z => absurd z (by show ¬ (3 : Int) = 0; decide), fun _ => by show a < a + 1; omega⟩
theorem adv_bl {T : Nat → Int} {len : Int} {P : PS} (h : PB T len P) : P.ten ≤ sk (BlC T len) len P.ten ∧ sk (BlC T len) len P.ten ≤ len := by
  have := sk_bd (C := BlC T len) (fun p z => z.1) h.2.2.2.1
  exact ⟨this.1, this.2.1⟩
theorem PB.adv {T : Nat → Int} {len : Int} {P : PS} (h : PB T len P) : PB T len (advS T len P) := by
  by_cases c : P.fnd ≠ 0
  · rw [advS_n c]; exact h
  · rw [show advS T len P = _ from cnd_f c]
    have q := adv_bl h
    have := h.2.1; have := h.2.2.1
    exact (advA_PB (by omega) (by omega)).1
/-- a number within bounds must stand there -/
noncomputable def ckS (T : Nat → Int) (lo hi : Int) (P : PS) : PS × Int :=
  cnd ((demS (P.tok = 2) 2 P).fnd ≠ 0) (demS (P.tok = 2) 2 P, 0) (demS (lo ≤ nuV T (P.ten - P.tat).toNat P.tat ∧ nuV T (P.ten - P.tat).toNat P.tat ≤ hi) 3 (demS (P.tok = 2) 2 P), nuV T (P.ten - P.tat).toNat P.tat)
noncomputable def numS (T : Nat → Int) (len lo hi : Int) (P : PS) : PS × Int := ckS T lo hi (advS T len P)
noncomputable def endS (T : Nat → Int) (len : Int) (P : PS) : PS := demS ((advS T len P).tok = 3) 2 (advS T len P)
def IsNm (T : Nat → Int) (P : PS) (k : Nat) : Prop := P.tok = 1 ∧ P.ten - P.tat = lnI k ∧ ∀ i : Nat, (i : Int) < lnI k → T (P.tat + i).toNat = chI k i
theorem ckS_n {T : Nat → Int} {lo hi : Int} {P : PS} (h : P.fnd ≠ 0) : ckS T lo hi P = (P, 0) := by
  unfold ckS
  rw [demS_n h, cnd_t h]
theorem ckS_v {T : Nat → Int} {len lo hi : Int} {P : PS} (hB : PB T len P) : PB T len (ckS T lo hi P).1 ∧ (0 ≤ (ckS T lo hi P).2 ∧ (ckS T lo hi P).2 ≤ 999) ∧ ((ckS T lo hi P).1.fnd = 0 → P.fnd = 0 ∧ P.tok = 2 ∧ lo ≤ (ckS T lo hi P).2 ∧ (ckS T lo hi P).2 ≤ hi ∧ (ckS T lo hi P).2 = nuV T (P.ten - P.tat).toNat P.tat) := by
  by_cases c : (demS (P.tok = 2) 2 P).fnd ≠ 0
  · unfold ckS
    rw [cnd_t c]
    exact ⟨hB.dem _ (by decide), ⟨Int.le_refl _, by show (0 : Int) ≤ 999; decide⟩, fun z => absurd z c⟩
  · have c0 : P.fnd = 0 := Decidable.byContradiction fun z => c (by rw [demS_n z]; exact z)
    have c1 : P.tok = 2 := Decidable.byContradiction fun z => c (by rw [demS_f z c0]; show (2 : Int) ≠ 0; decide)
    have hb := hB.2.2.2.2.2 c1 c0
    have hn := nuV_bd (T := T) (P.ten - P.tat).toNat P.tat (by omega) (fun i i0 i1 => hb.2 i i0 (by have := hB.2.2.1; omega))
    have hp : (10 : Int) ^ (P.ten - P.tat).toNat ≤ 1000 := by
      rcases (by omega : (P.ten - P.tat).toNat = 0 ∨ (P.ten - P.tat).toNat = 1 ∨ (P.ten - P.tat).toNat = 2 ∨ (P.ten - P.tat).toNat = 3) with e | e | e | e <;> rw [e] <;> decide
    unfold ckS
    rw [cnd_f c, demS_t c1]
    refine ⟨hB.dem _ (by decide), ⟨hn.1, by show nuV T _ _ ≤ 999; omega⟩, fun z => ⟨c0, c1, ?_⟩⟩
    have hin : lo ≤ nuV T (P.ten - P.tat).toNat P.tat ∧ nuV T (P.ten - P.tat).toNat P.tat ≤ hi := Decidable.byContradiction fun w => by
      rw [demS_f w c0] at z
      exact absurd z (by show ¬ (3 : Int) = 0; decide)
    exact ⟨hin.1, hin.2, rfl⟩
/-! the heap of a reader at r -/
def rdP (h : HM) (r : Nat) : PS := (h.I r 2, h.I r 3, h.I r 4, h.I r 7, if h.I r 7 = 0 then 0 else h.I r 8)
def FrP (r : Nat) (h h1 : HM) : Prop := h1.L = h.L ∧ ∀ a j : Nat, (a ≠ r ∨ j < 2 ∨ j = 5 ∨ j = 6 ∨ 9 ≤ j) → h1.I a j = h.I a j
theorem FrP.rf (r : Nat) (h : HM) : FrP r h h := ⟨rfl, fun _ _ _ => rfl⟩
theorem FrP.tr {r : Nat} {h h1 h2 : HM} (a : FrP r h h1) (b : FrP r h1 h2) : FrP r h h2 := ⟨b.1.trans a.1, fun x j q => (b.2 x j q).trans (a.2 x j q)⟩
theorem FrP.s {r : Nat} {h h1 : HM} (a : FrP r h h1) {j : Nat} (hj : j = 2 ∨ j = 3 ∨ j = 4 ∨ j = 7 ∨ j = 8) (v : Int) : FrP r h (h1.sI r j v) := ⟨a.1, fun x k q => by rw [sI_I, if_neg (by omega)]; exact a.2 x k q⟩
/-- the tape -/
def TP (h : HM) (T : Nat → Int) (len : Int) : Prop := h.I 11 = T ∧ h.I 10 1 = len ∧ (0 ≤ len ∧ len ≤ 400) ∧ ∀ j : Nat, (j : Int) < len → 0 ≤ T j ∧ T j ≤ 255
theorem TP.s {h : HM} {T : Nat → Int} {len : Int} (hT : TP h T len) {r : Nat} (hr : 161 ≤ r) (j : Nat) (v : Int) : TP (h.sI r j v) T len := by
  refine ⟨?_, ?_, hT.2.2⟩
  · funext k; rw [sI_I, if_neg (by omega), hT.1]
  · rw [sI_I, if_neg (by omega), hT.2.1]
theorem TP.fr {h h1 : HM} {T : Nat → Int} {len : Int} (hT : TP h T len) {r : Nat} (hr : 161 ≤ r) (hf : FrP r h h1) : TP h1 T len := by
  refine ⟨?_, ?_, hT.2.2⟩
  · funext k; rw [hf.2 11 k (by omega), hT.1]
  · rw [hf.2 10 1 (by omega), hT.2.1]
def TS (h : HM) (r : Nat) (T : Nat → Int) (len : Int) (P : PS) : Prop := TP h T len ∧ rdP h r = P ∧ PB T len P
theorem TS.f {h : HM} {r : Nat} {T : Nat → Int} {len : Int} {P : PS} (hS : TS h r T len P) : h.I r 2 = P.tok ∧ h.I r 3 = P.tat ∧ h.I r 4 = P.ten ∧ h.I r 7 = P.fnd ∧ (P.fnd ≠ 0 → h.I r 8 = P.fat) := by
  obtain ⟨_, rfl, _⟩ := hS
  exact ⟨rfl, rfl, rfl, rfl, fun z => by show _ = (if h.I r 7 = 0 then 0 else h.I r 8); rw [if_neg (show ¬ h.I r 7 = 0 from z)]⟩
theorem TS.fr {h h1 : HM} {r : Nat} {T : Nat → Int} {len : Int} {P P1 : PS} (hS : TS h r T len P) (hr : 161 ≤ r) (hf : FrP r h h1) (he : rdP h1 r = P1) (hb : PB T len P1) : TS h1 r T len P1 := ⟨hS.1.fr hr hf, he, hb⟩
noncomputable def refS (c t : Int) (P : PS) : PS := cnd (P.fnd ≠ 0) P (P.tok, P.tat, P.ten, c, t)
theorem ref_ok {h : HM} {r : Nat} {c t : Int} (h0 : h.I r 7 = 0) (hc : c ≠ 0) : rdP ((h.sI r 7 c).sI r 8 t) r = refS c t (rdP h r) := by
  unfold refS
  rw [cnd_f (fun z => z h0)]
  simp [rdP, HM.sI, HM.I, up2, PS.tok, PS.tat, PS.ten, hc]
theorem TS.dem {h h1 : HM} {r : Nat} {T : Nat → Int} {len : Int} {P : PS} {B B' : Prop} {c : Int} (hS : TS h r T len P) (hr : 161 ≤ r) (hq : FrP r h h1 ∧ rdP h1 r = demS B c (rdP h r)) (hc : 0 < c ∧ c ≤ 6) (hB : B ↔ B') : TS h1 r T len (demS B' c P) := by
  refine hS.fr hr hq.1 ?_ (hS.2.2.dem _ hc)
  rw [hq.2, hS.2.1, demS_cg hB]
