/-! figures that are alike below n: what is said of them is alike -/
def EqF (n : Int) (F F2 : Nat → Fg) : Prop := ∀ i : Nat, (i : Int) < n → F i = F2 i
theorem EqF.rfl' {n : Int} (F : Nat → Fg) : EqF n F F := fun _ _ => rfl
theorem EqF.sy {n : Int} {F F2 : Nat → Fg} (h : EqF n F F2) : EqF n F2 F := fun i hi => (h i hi).symm
theorem EqF.tr {n : Int} {F F2 F3 : Nat → Fg} (h : EqF n F F2) (h2 : EqF n F2 F3) : EqF n F F3 := fun i hi => (h i hi).trans (h2 i hi)
theorem EqF.cr {n : Int} {F F2 : Nat → Fg} (h : EqF n F F2) {f g : Nat} (hf : (f : Int) < n) (hg : (g : Int) < n) : CrP F f g ↔ CrP F2 f g := by
  unfold CrP; rw [h f hf, h g hg]
theorem EqF.crSe {n : Int} {F F2 : Nat → Fg} (h : EqF n F F2) {f : Nat} (hf : (f : Int) < n) : ∀ m : Nat, (m : Int) ≤ n → crS F f m = crS F2 f m
  | 0, _ => rfl
  | m + 1, hm => by
    push_cast at hm
    rw [crS, crS, EqF.crSe h hf m (by omega), pI_congr (h.cr hf (by omega))]
theorem EqF.hmSe {n : Int} {F F2 : Nat → Fg} (h : EqF n F F2) {k : Nat} (hk : (k : Int) ≤ n) : ∀ m : Nat, (m : Int) ≤ n → hmS F k m = hmS F2 k m
  | 0, _ => rfl
  | m + 1, hm => by
    push_cast at hm
    rw [hmS, hmS, EqF.hmSe h hk m (by omega), EqF.crSe h (by omega) k hk]
theorem EqF.FrAe {n : Int} {F F2 : Nat → Fg} (h : EqF n F F2) {f : Int} {T : Fg} {s : Int} : FrA F n f T s ↔ FrA F2 n f T s := by
  constructor
  · intro q g g0 g1 g2 g3
    rw [← h g.toNat (by omega)] at g3 ⊢
    exact q g g0 g1 g2 g3
  · intro q g g0 g1 g2 g3
    rw [h g.toNat (by omega)] at g3 ⊢
    exact q g g0 g1 g2 g3
theorem EqF.NoFre {n : Int} {F F2 : Nat → Fg} (h : EqF n F F2) {f : Int} {T : Fg} (q : NoFr F n f T) : NoFr F2 n f T := fun s s0 s1 z => q s s0 s1 (h.FrAe.mpr z)
theorem EqF.Least {n : Int} {F F2 : Nat → Fg} (h : EqF n F F2) {f : Int} {T : Fg} {s : Int} (q : LeastFr F n f T s) : LeastFr F2 n f T s := ⟨q.1, q.2.1, h.FrAe.mp q.2.2.1, fun s2 s0 s1 z => q.2.2.2 s2 s0 s1 (h.FrAe.mpr z)⟩
theorem EqF.NoCute {n : Int} {F F2 : Nat → Fg} (h : EqF n F F2) {f : Int} (hf : 0 ≤ f ∧ f < n) {k : Nat} (q : NoCut F n f k) : NoCut F2 n f k := by
  intro j hj ht
  rw [← h f.toNat (by omega)] at ht ⊢
  exact h.NoFre (q j hj ht)
theorem EqF.CutAte {n : Int} {F F2 : Nat → Fg} (h : EqF n F F2) {f : Int} (hf : 0 ≤ f ∧ f < n) {k : Nat} {s : Int} (q : CutAt F n f k s) : CutAt F2 n f k s := by
  refine ⟨h.NoCute hf q.1, ?_, ?_⟩
  · rw [← h f.toNat (by omega)]; exact q.2.1
  · rw [← h f.toNat (by omega)]; exact h.Least q.2.2
theorem Cut_no {F : Nat → Fg} {n f : Int} {k k2 : Nat} {s : Int} (hk : k < k2) (h1 : CutAt F n f k s) (h2 : NoCut F n f k2) : False := h2 k hk h1.2.1 s h1.2.2.1 h1.2.2.2.1 (by
  have q := h1.2.2.2.2.1
  intro g g0 g1 g2 g3
  exact q g g0 g1 g2 g3)
theorem CutAt.uniq {F : Nat → Fg} {n f : Int} {k k2 : Nat} {s s2 : Int} (h1 : CutAt F n f k s) (h2 : CutAt F n f k2 s2) : k = k2 ∧ s = s2 := by
  have e : k = k2 := by
    rcases Nat.lt_trichotomy k k2 with q | q | q
    · exact (Cut_no q h1 h2.1).elim
    · exact q
    · exact (Cut_no q h2 h1.1).elim
  subst e
  refine ⟨rfl, ?_⟩
  have a := h1.2.2
  have b := h2.2.2
  rcases Int.lt_trichotomy s s2 with q | q | q
  · exact absurd a.2.2.1 (b.2.2.2 s a.1 q)
  · exact q
  · exact absurd b.2.2.1 (a.2.2.2 s2 b.1 q)
theorem CutP.uniq {F : Nat → Fg} {nf f w v v2 : Int} (h1 : CutP F nf f w v) (h2 : CutP F nf f w v2) : v = v2 := by
  rcases h1 with ⟨a, b⟩ | ⟨k, s, a, b, c⟩ <;> rcases h2 with ⟨d, e⟩ | ⟨k2, s2, d, e, g⟩
  · omega
  · exact (Cut_no d e b).elim
  · exact (Cut_no a b e).elim
  · obtain ⟨rfl, rfl⟩ := b.uniq e
    rw [c, g]
def upF (F : Nat → Fg) (f : Nat) (X : Fg) : Nat → Fg := fun i => if i = f then X else F i
/-- the first f have been mended: figures then, how many could be -/
def MdR (F : Nat → Fg) (nf : Int) : Nat → (Nat → Fg) → Int → Prop
  | 0, F2, c => EqF nf F2 F ∧ c = 0
  | f + 1, F2, c => ∃ (F1 : Nat → Fg) (c1 : Int), MdR F nf f F1 c1 ∧ ((¬ (crS F1 f nf.toNat ≠ 0 ∧ ∃ (n : Nat) (s : Int), n < 118 ∧ CutAt F1 nf f n s) ∧ EqF nf F2 F1 ∧ c = c1) ∨ (crS F1 f nf.toNat ≠ 0 ∧ ∃ (n : Nat) (s : Int), n < 118 ∧ CutAt F1 nf f n s ∧ EqF nf F2 (upF F1 f (cutF (F1 f) (teAt (F1 f).te n) s)) ∧ c = c1 + 1))
theorem MdR.uniq {F F' : Nat → Fg} {nf : Int} (hF : EqF nf F F') : ∀ (f : Nat) (F2 F2' : Nat → Fg) (c c' : Int), (f : Int) ≤ nf → MdR F nf f F2 c → MdR F' nf f F2' c' → EqF nf F2 F2' ∧ c = c'
  | 0, F2, F2', c, c', _, h1, h2 => ⟨(h1.1.tr hF).tr h2.1.sy, by rw [h1.2, h2.2]⟩
  | f + 1, F2, F2', c, c', hf, h1, h2 => by
    push_cast at hf
    obtain ⟨A, a, h1, r1⟩ := h1
    obtain ⟨B, b, h2, r2⟩ := h2
    obtain ⟨e, rfl⟩ := MdR.uniq hF f A B a b (by omega) h1 h2
    have ec := e.crSe (f := f) (by omega) nf.toNat (by omega)
    have hfi : 0 ≤ (f : Int) ∧ (f : Int) < nf := by omega
    have ef := e f (by omega)
    rcases r1 with ⟨a1, a2, a3⟩ | ⟨a0, n, s, a1, a2, a3, a4⟩ <;> rcases r2 with ⟨b1, b2, b3⟩ | ⟨b0, n2, s2, b1, b2, b3, b4⟩
    · exact ⟨(a2.tr e).tr b2.sy, by omega⟩
    · exact (a1 ⟨by rw [ec]; exact b0, n2, s2, b1, e.sy.CutAte hfi b2⟩).elim
    · exact (b1 ⟨by rw [← ec]; exact a0, n, s, a1, e.CutAte hfi a2⟩).elim
    · obtain ⟨rfl, rfl⟩ := (e.CutAte hfi a2).uniq b2
      refine ⟨fun i hi => ?_, by omega⟩
      rw [a3 i hi, b3 i hi]
      unfold upF
      rw [ef]
      split
      · rfl
      · exact e i hi
/-! mend: what it keeps -/
def FrM (h h1 : HM) (nf : Int) : Prop := h1.L = h.L ∧ ∀ a j : Nat, a ≠ 82 → a ≠ 83 → a ≠ 84 → ¬ (16 ≤ a ∧ (a : Int) < 16 + nf ∧ j < 2) → h1.I a j = h.I a j
def SvM (h h1 : HM) (n : Int) : Prop := ∀ i : Nat, (i : Int) < n → h1.I 83 i = h.I (16 + i) 0 ∧ h1.I 84 i = h.I (16 + i) 1
def MdI (h : HM) (nf : Int) (f : Nat) (c : Int) (h1 : HM) : Prop := FrM h h1 nf ∧ SvM h h1 nf ∧ CF h1 12 ∧ MdR (cFs h 12) nf f (cFs h1 12) c ∧ 0 ≤ c ∧ c ≤ f
theorem md_no {h h1 : HM} {nf : Int} {f : Nat} {c : Int} (hI : MdI h nf f c h1) (h0 : crS (cFs h1 12) f nf.toNat = 0) : MdI h nf (f + 1) c h1 :=
  ⟨hI.1, hI.2.1, hI.2.2.1, ⟨_, c, hI.2.2.2.1, Or.inl ⟨fun z => z.1 h0, EqF.rfl' _, rfl⟩⟩, hI.2.2.2.2.1, by have := hI.2.2.2.2.2; push_cast; omega⟩
theorem md_tr {h h1 : HM} {nf : Int} (T : Fg) (h2 : FrM h h1 nf) (h3 : SvM h h1 nf) (h4 : CF h1 12) (hn : nf ≤ 6) : FrM h (wr5 h1 82 T) nf ∧ SvM h (wr5 h1 82 T) nf ∧ CF (wr5 h1 82 T) 12 ∧ EqF nf (cFs (wr5 h1 82 T) 12) (cFs h1 12) := by
  refine ⟨⟨by rw [wr5_L]; exact h2.1, fun a j a1 a2 a3 a4 => ?_⟩, fun i hi => ?_, CF_tr T h4, fun i hi => ?_⟩
  · rw [wr5_I _ _ _ _ _ (Or.inl a1)]; exact h2.2 a j a1 a2 a3 a4
  · rw [wr5_I _ _ _ _ _ (Or.inl (by decide)), wr5_I _ _ _ _ _ (Or.inl (by decide))]; exact h3 i hi
  · have := cFs_tr h1 T (i := (i : Int)) (by omega)
    exact this
theorem md_nc {h h1 : HM} {nf : Int} {f : Nat} {c : Int} (T : Fg) (hn : nf ≤ 6) (hI : MdI h nf f c h1) (h0 : NoCut (cFs h1 12) nf f 118) : MdI h nf (f + 1) c (wr5 h1 82 T) := by
  obtain ⟨h2, h3, h4, h5, h6, h7⟩ := hI
  obtain ⟨q1, q2, q3, q4⟩ := md_tr T h2 h3 h4 hn
  refine ⟨q1, q2, q3, ⟨_, c, h5, Or.inl ⟨?_, q4, rfl⟩⟩, h6, by push_cast; omega⟩
  rintro ⟨_, n, s, z1, z2⟩
  exact Cut_no z1 z2 h0
theorem md_yes {h h1 : HM} {nf : Int} {f n : Nat} {c s : Int} (hn : nf ≤ 6) (hf : (f : Int) < nf) (e3 : h1.I 12 3 = nf) (hI : MdI h nf f c h1) (hc : ¬ crS (cFs h1 12) f nf.toNat = 0) (h8 : n < 118) (h0 : CutAt (cFs h1 12) nf f n s) :
    MdI h nf (f + 1) (c + 1) (wr5 (wr5 h1 82 (cutF (c5 h1 (12 + 4 + f)) (teAt (h1.I (12 + 4 + f) 0) n) s)) (12 + 4 + f) (c5 (wr5 h1 82 (cutF (c5 h1 (12 + 4 + f)) (teAt (h1.I (12 + 4 + f) 0) n) s)) 82)) := by
  obtain ⟨h2, h3, h4, h5, h6, h7⟩ := hI
  generalize hT : cutF (c5 h1 (12 + 4 + f)) (teAt (h1.I (12 + 4 + f) 0) n) s = T
  obtain ⟨q1, q2, q3, q4⟩ := md_tr T h2 h3 h4 hn
  rw [c5_wr5]
  have hTF : T = cutF (cFs h1 12 f) (teAt (cFs h1 12 f).te n) s := hT.symm
  have hFf := h4.2 f (by omega) (by omega)
  simp only [Int.toNat_natCast] at hFf
  have hq : EqF nf (cFs (wr5 (wr5 h1 82 T) (12 + 4 + f) T) 12) (upF (cFs h1 12) f T) := by
    intro i hi
    unfold upF
    show c5 _ (12 + 4 + i) = _
    by_cases e : i = f
    · subst e; rw [if_pos rfl, c5_wr5]
    · rw [if_neg e, c5_wr5n _ _ (by omega)]; exact q4 i hi
  have e0 : ∀ a j, a ≠ 12 + 4 + f → (wr5 (wr5 h1 82 T) (12 + 4 + f) T).I a j = (wr5 h1 82 T).I a j := fun a j ha => wr5_I _ _ _ _ _ (Or.inl ha)
  have eT : T.dr = h1.I (12 + 4 + f) 2 ∧ T.la = h1.I (12 + 4 + f) 3 ∧ T.ga = h1.I (12 + 4 + f) 4 := by rw [← hT]; exact ⟨rfl, rfl, rfl⟩
  have hf2 : ∀ j, (wr5 (wr5 h1 82 T) (12 + 4 + f) T).I (12 + 4 + f) j = if j = 0 then T.te else if j = 1 then T.st else h1.I (12 + 4 + f) j := by
    intro j
    have e5 := c5_wr5 (wr5 h1 82 T) (12 + 4 + f) T
    rcases (by omega : j = 0 ∨ j = 1 ∨ j = 2 ∨ j = 3 ∨ j = 4 ∨ 5 ≤ j) with rfl | rfl | rfl | rfl | rfl | hj
    · rw [if_pos rfl]; exact congrArg Fg.te e5
    · rw [if_neg (by decide), if_pos rfl]; exact congrArg Fg.st e5
    · rw [if_neg (by decide), if_neg (by decide), ← eT.1]; exact congrArg Fg.dr e5
    · rw [if_neg (by decide), if_neg (by decide), ← eT.2.1]; exact congrArg Fg.la e5
    · rw [if_neg (by decide), if_neg (by decide), ← eT.2.2]; exact congrArg Fg.ga e5
    · rw [if_neg (by omega), if_neg (by omega), wr5_I _ _ _ _ _ (Or.inr hj), wr5_I _ _ _ _ _ (Or.inr hj)]
  have hok := h0.2.1
  have hls := h0.2.2
  have hTe : T.te = teAt (cFs h1 12 f).te n ∧ T.st = s := by rw [hTF]; exact ⟨rfl, rfl⟩
  simp only [Int.toNat_natCast] at hok hls
  have hga : (cFs h1 12 f).ga = h1.I (12 + 4 + f) 4 := rfl
  unfold TeOK at hok
  have hls1 := hls.1
  have hls2 : s < teAt (cFs h1 12 f).te n := hls.2.1
  refine ⟨⟨by rw [wr5_L]; exact q1.1, fun a j a1 a2 a3 a4 => ?_⟩, fun i hi => ?_, ⟨?_, fun i i0 i1 => ?_⟩, ⟨_, c, h5, Or.inr ⟨hc, n, s, h8, h0, by rw [← hTF]; exact hq, rfl⟩⟩, by omega, by push_cast; omega⟩
  · by_cases e : a = 12 + 4 + f
    · subst e
      rw [hf2, if_neg (by omega), if_neg (by omega)]
      exact h2.2 _ j a1 a2 a3 a4
    · rw [e0 a j e]; exact q1.2 a j a1 a2 a3 a4
  · rw [e0 _ _ (by omega), e0 _ _ (by omega)]; exact q2 i hi
  · rw [e0 _ _ (by omega)]; exact q3.1
  · rw [e0 _ _ (by omega)] at i1
    by_cases e : i = f
    · subst e
      simp only [Int.toNat_natCast]
      unfold FB FW
      simp only [hf2]
      simp only [if_true, if_false, show ¬ (2 : Nat) = 0 by decide, show ¬ (2 : Nat) = 1 by decide, show ¬ (3 : Nat) = 0 by decide, show ¬ (3 : Nat) = 1 by decide, show ¬ (4 : Nat) = 0 by decide, show ¬ (4 : Nat) = 1 by decide, show ¬ (1 : Nat) = 0 by decide]
      omega
    · exact FB_eq (fun j => e0 _ j (by omega)) (q3.2 i i0 i1)
def Fr84 (h h1 : HM) : Prop := ∀ a, a ≠ 82 → a ≠ 83 → a ≠ 84 → h1.I a = h.I a ∧ h1.L a = h.L a
theorem md_sv {h h1 : HM} {nf : Int} {f : Nat} (h2 : FrM h h1 nf) (h3 : SvM h h1 f) (v w : Int) (hv : v = h.I (16 + f) 0) (hw : w = h.I (16 + f) 1) : FrM h ((h1.sI 83 f v).sI 84 f w) nf ∧ SvM h ((h1.sI 83 f v).sI 84 f w) (f + 1 : Nat) := by
  refine ⟨⟨h2.1, fun a j a1 a2 a3 a4 => ?_⟩, fun i hi => ?_⟩
  · rw [sI_I, if_neg (fun z => a3 z.1), sI_I, if_neg (fun z => a2 z.1)]; exact h2.2 a j a1 a2 a3 a4
  · rw [sI_I, sI_I, if_neg (fun z => by have := z.1; omega), sI_I, sI_I]
    by_cases e : i = f
    · subst e
      rw [if_pos ⟨rfl, rfl⟩, if_pos ⟨rfl, rfl⟩]; exact ⟨hv, hw⟩
    · rw [if_neg (fun z => e z.2), if_neg (fun z => e z.2), if_neg (fun z => by have := z.1; omega)]; exact h3 i (by push_cast at hi; omega)
def RsM (h h1 : HM) (nf : Int) (f : Nat) : Prop := FrM h h1 nf ∧ SvM h h1 nf ∧ ∀ i : Nat, i < f → h1.I (16 + i) 0 = h.I (16 + i) 0 ∧ h1.I (16 + i) 1 = h.I (16 + i) 1
theorem md_rs {h h1 : HM} {nf : Int} {f : Nat} (hf : (f : Int) < nf) (hn : nf ≤ 6) (hR : RsM h h1 nf f) (v w : Int) (hv : v = h.I (16 + f) 0) (hw : w = h.I (16 + f) 1) : RsM h ((h1.sI (12 + 4 + f) 0 v).sI (12 + 4 + f) 1 w) nf (f + 1) := by
  obtain ⟨h2, h3, h4⟩ := hR
  refine ⟨⟨h2.1, fun a j a1 a2 a3 a4 => ?_⟩, fun i hi => ?_, fun i hi => ?_⟩
  · rw [sI_I, if_neg (by omega), sI_I, if_neg (by omega)]; exact h2.2 a j a1 a2 a3 a4
  · rw [sI_I, if_neg (by omega), sI_I, if_neg (by omega), sI_I, if_neg (by omega), sI_I, if_neg (by omega)]; exact h3 i hi
  · by_cases e : i = f
    · subst e
      rw [sI_I, if_neg (by omega), sI_I, if_pos (by omega), sI_I, if_pos (by omega)]; exact ⟨hv, hw⟩
    · rw [sI_I, if_neg (by omega), sI_I, if_neg (by omega), sI_I, if_neg (by omega), sI_I, if_neg (by omega)]; exact h4 i (by omega)
theorem md_end {h h1 : HM} {nf : Int} (h0 : 0 ≤ nf) (hR : RsM h h1 nf nf.toNat) : Fr84 h h1 := by
  intro a a1 a2 a3
  refine ⟨?_, by rw [hR.1.1]⟩
  funext j
  by_cases q : 16 ≤ a ∧ (a : Int) < 16 + nf ∧ j < 2
  · have := hR.2.2 (a - 16) (by omega)
    rw [show 16 + (a - 16) = a by omega] at this
    rcases (by omega : j = 0 ∨ j = 1) with rfl | rfl
    · exact this.1
    · exact this.2
  · exact hR.1.2 a j a1 a2 a3 q
set_option maxRecDepth 100000 in
set_option maxHeartbeats 1000000 in
theorem e_X8_mend {G : GX} {y : LY} {h : HM} {d : Nat} (hY : Lay y) {w : Int} (hw : R32 w) (hC : CF h 12) : EvQX G mX8_mend (d + 6) [.ref 9, .int (iZ w)] y h (fun v h1 => Fr84 h h1 ∧ ((¬ (w = 0 ∨ w = 1) ∧ v = -1) ∨ ((w = 0 ∨ w = 1) ∧ ∃ (F2 : Nat → Fg) (c : Int), MdR (cFs h 12) (h.I 12 3) (h.I 12 3).toNat F2 c ∧ v = if w = 0 then c else hmS F2 (h.I 12 3).toNat (h.I 12 3).toNat))) := by
  have hnf := hC.1
  have hzw := pI_01 (w = 0 ∨ w = 1)
  have hyw := pI_eq1 (P := w = 0 ∨ w = 1)
  refine Ev.of rfl [some (.ref 9), some (.int (iZ w)), none, none, none] rfl (Nat.le_of_ble_eq_true rfl) ?_
  have L141 : ∀ (m : Nat) (h1 : HM) (F2 : Nat → Fg) (c : Int) (f : Nat), (m : Int) = (h.I 12 3) - f → (f : Int) ≤ (h.I 12 3) → (w = 0 ∨ w = 1) → MdR (cFs h 12) (h.I 12 3) (h.I 12 3).toNat F2 c → 0 ≤ c ∧ c ≤ 6 → RsM h h1 (h.I 12 3) f → Go G mX8_mend (rmo (d + 6) 0 0) (ZM G y 0 0 (fun r h1 => ∃ v_ : Int, r = some (.int (iZ v_)) ∧ (fun v h1 => Fr84 h h1 ∧ ((¬ (w = 0 ∨ w = 1) ∧ v = -1) ∨ ((w = 0 ∨ w = 1) ∧ ∃ (F2 : Nat → Fg) (c : Int), MdR (cFs h 12) (h.I 12 3) (h.I 12 3).toNat F2 c ∧ v = if w = 0 then c else hmS F2 (h.I 12 3).toNat (h.I 12 3).toNat))) v_ h1)) y 141 [some (.ref 9), some (.int (iZ w)), some (.int (iZ c)), some (.int (iZ (hmS F2 (h.I 12 3).toNat (h.I 12 3).toNat))), some (.int (iZ f))] [] h1 (0, 0) := by
    intro m
    induction m using Nat.strongRecOn with | _ m ih =>
    intro h1 F2 c f hm hf hok hMd hcb hR
    have hhb := hmS_bd F2 (h.I 12 3).toNat (h.I 12 3).toNat
    have e3 : h1.I 12 3 = h.I 12 3 := hR.1.2 12 3 (by decide) (by decide) (by decide) (by omega)
    refine g_iload dX8_mend_141 rfl (g_aload_n dX8_mend_143 rfl rfl (gf_X8_19 (M := mX8_mend) rfl dX8_mend_144 (yo9 hY) (yr9_1 hY) (gf_X8_98 (M := mX8_mend) rfl dX8_mend_147 (ck_o hY clk12) ?_)))
    refine g_icmp_ge 199 dX8_mend_150 rfl (by omega) (by omega) (fun c150 => ?_) (fun c150 => ?_)
    · skip
      refine g_iload_n dX8_mend_199 rfl rfl ?_
      refine g_if_ne 207 dX8_mend_200 rfl (by omega) (fun c200 => ?_) (fun c200 => ?_)
      · skip
        refine g_iload_n dX8_mend_207 rfl rfl ?_
        exact g_iret dX8_mend_208 rfl rfl ⟨Nat.le_refl _, Nat.le_refl _⟩ (by obtain rfl : f = (h.I 12 3).toNat := (by omega); first | exact ⟨_, rfl, md_end (by omega) hR, Or.inr ⟨hok, F2, c, hMd, by rw [if_pos (by omega)]⟩⟩ | exact ⟨_, rfl, md_end (by omega) hR, Or.inr ⟨hok, F2, c, hMd, by rw [if_neg (by omega)]⟩⟩)
      · skip
        refine g_iload_n dX8_mend_203 rfl rfl (g_goto 208 dX8_mend_204 rfl ?_)
        exact g_iret dX8_mend_208 rfl rfl ⟨Nat.le_refl _, Nat.le_refl _⟩ (by obtain rfl : f = (h.I 12 3).toNat := (by omega); first | exact ⟨_, rfl, md_end (by omega) hR, Or.inr ⟨hok, F2, c, hMd, by rw [if_pos (by omega)]⟩⟩ | exact ⟨_, rfl, md_end (by omega) hR, Or.inr ⟨hok, F2, c, hMd, by rw [if_neg (by omega)]⟩⟩)
    · skip
      refine g_aload_n dX8_mend_153 rfl rfl (gf_X8_19 (M := mX8_mend) rfl dX8_mend_154 (yo9 hY) (yr9_1 hY) (gf_X8_120 (M := mX8_mend) rfl dX8_mend_157 (ck_o hY clk12) (ck_r0 hY clk12) (g_iload dX8_mend_160 rfl (g_aald dX8_mend_162 (ck_a0 hY clk12) (by decide) (D0 := "ClockTeeth$Figure") rfl ⟨by omega, by omega, by omega⟩ (ck_fr hY clk12 (by omega)) (g_aload_n dX8_mend_163 rfl rfl (gf_X8_54 (M := mX8_mend) rfl dX8_mend_164 (yo9 hY) (yr9_8 hY) (g_iload dX8_mend_167 rfl (g_iald dX8_mend_169 (ya83 hY) ⟨by omega, by omega, by omega⟩ (pf_X8_127 (M := mX8_mend) rfl dX8_mend_170 (ck_fo hY clk12 (by omega)) (g_aload_n dX8_mend_173 rfl rfl (gf_X8_19 (M := mX8_mend) rfl dX8_mend_174 (yo9 hY) (yr9_1 hY) ?_)))))))))))
      refine gf_X8_120 (M := mX8_mend) rfl dX8_mend_177 (ck_o hY clk12) (ck_r0 hY clk12) (g_iload dX8_mend_180 rfl (g_aald dX8_mend_182 (ck_a0 hY clk12) (by decide) (D0 := "ClockTeeth$Figure") rfl ⟨by omega, by omega, by omega⟩ (ck_fr hY clk12 (by omega)) (g_aload_n dX8_mend_183 rfl rfl (gf_X8_58 (M := mX8_mend) rfl dX8_mend_184 (yo9 hY) (yr9_9 hY) (g_iload dX8_mend_187 rfl (g_iald dX8_mend_189 (ya84 hY) ⟨by omega, by omega, by omega⟩ (pf_X8_130 (M := mX8_mend) rfl dX8_mend_190 (ck_fo hY clk12 (by omega)) (g_inc4 dX8_mend_193 (by decide) rfl (g_goto 141 dX8_mend_196 rfl ?_)))))))))
      refine ih (m - 1) (by omega) _ F2 c (f + 1) (by omega) (by omega) hok hMd hcb ?_
      have hs := hR.2.1 f (by omega)
      refine md_rs (by omega) (by omega) hR _ _ ?_ ?_
      · simp only [Int.toNat_natCast]; exact hs.1
      · rw [sI_I, if_neg (by omega)]; simp only [Int.toNat_natCast]; exact hs.2
  have L68 : ∀ (m : Nat) (h1 : HM) (c : Int) (f : Nat), (m : Int) = (h.I 12 3) - f → (f : Int) ≤ (h.I 12 3) → (w = 0 ∨ w = 1) → MdI h (h.I 12 3) f c h1 → Go G mX8_mend (rmo (d + 6) 0 0) (ZM G y 0 0 (fun r h1 => ∃ v_ : Int, r = some (.int (iZ v_)) ∧ (fun v h1 => Fr84 h h1 ∧ ((¬ (w = 0 ∨ w = 1) ∧ v = -1) ∨ ((w = 0 ∨ w = 1) ∧ ∃ (F2 : Nat → Fg) (c : Int), MdR (cFs h 12) (h.I 12 3) (h.I 12 3).toNat F2 c ∧ v = if w = 0 then c else hmS F2 (h.I 12 3).toNat (h.I 12 3).toNat))) v_ h1)) y 68 [some (.ref 9), some (.int (iZ w)), some (.int (iZ c)), some (.int (iZ f)), none] [] h1 (0, 0) := by
    intro m
    induction m using Nat.strongRecOn with | _ m ih =>
    intro h1 c f hm hf hok hI
    have e3 : h1.I 12 3 = h.I 12 3 := hI.1.2 12 3 (by decide) (by decide) (by decide) (by omega)
    have hC1 := hI.2.2.1
    have hcb := hI.2.2.2.2
    have hb1 := crS_bd (cFs h1 12) f (h.I 12 3).toNat
    have hb2 := p2_6 (n := (h.I 12 3).toNat) (by omega)
    refine g_iload_n dX8_mend_68 rfl rfl (g_aload_n dX8_mend_69 rfl rfl (gf_X8_19 (M := mX8_mend) rfl dX8_mend_70 (yo9 hY) (yr9_1 hY) (gf_X8_98 (M := mX8_mend) rfl dX8_mend_73 (ck_o hY clk12) ?_)))
    refine g_icmp_ge 130 dX8_mend_76 rfl (by omega) (by omega) (fun c76 => ?_) (fun c76 => ?_)
    · skip
      refine g_aload_n dX8_mend_130 rfl rfl (gf_X8_19 (M := mX8_mend) rfl dX8_mend_131 (yo9 hY) (yr9_1 hY) (cv_X8_256 (M := mX8_mend) rfl dX8_mend_134 (ck_o hY clk12) (RO.same _ _ _) (Nat.le_of_ble_eq_true rfl) (e_X0_howManyCrash hY (Or.inl rfl) hC1) <| kI (g_ist3 dX8_mend_137 (by decide) rfl (g_iconst dX8_mend_138 (g_ist4 dX8_mend_139 (by decide) rfl ?_)))))
      rw [e3]
      obtain rfl : f = (h.I 12 3).toNat := (by omega)
      exact L141 (h.I 12 3).toNat h1 _ c 0 (by omega) (by omega) hok hI.2.2.2.1 (by omega) ⟨hI.1, hI.2.1, fun i hi => by omega⟩
    · skip
      refine g_aload_n dX8_mend_79 rfl rfl (gf_X8_19 (M := mX8_mend) rfl dX8_mend_80 (yo9 hY) (yr9_1 hY) (g_iload_n dX8_mend_83 rfl rfl (cv_X8_204 (M := mX8_mend) rfl dX8_mend_84 (ck_o hY clk12) (RO.same _ _ _) (Nat.le_of_ble_eq_true rfl) (e_X0_crashesOf hY (Or.inl rfl) hC1 (by omega)) <| kI ?_)))
      rw [e3]
      simp only [Int.toNat_natCast]
      refine g_if_eq 124 dX8_mend_87 rfl (by omega) (fun c87 => ?_) (fun c87 => ?_)
      · skip
        refine g_inc3 dX8_mend_124 (by decide) rfl (g_goto 68 dX8_mend_127 rfl ?_)
        first
        | exact ih (m - 1) (by omega) _ c (f + 1) (by omega) (by omega) hok (md_no hI c87)
        | (rcases hq99 with ⟨q1, q2, T, rfl⟩ | ⟨q1, n, s, q2, q3, rfl⟩ <;> first | (exfalso; omega) | exact ih (m - 1) (by omega) _ c (f + 1) (by omega) (by omega) hok (md_nc T (by omega) hI q2) | (have hx := ih (m - 1) (by omega) _ (c + 1) (f + 1) (by omega) (by omega) hok (md_yes (by omega) (by omega) e3 hI c87 q2 q3); exact hx))
      · skip
        refine g_aload_n dX8_mend_90 rfl rfl (gf_X8_19 (M := mX8_mend) rfl dX8_mend_91 (yo9 hY) (yr9_1 hY) (g_iload_n dX8_mend_94 rfl rfl (g_aload_n dX8_mend_95 rfl rfl (gf_X8_50 (M := mX8_mend) rfl dX8_mend_96 (yo9 hY) (yr9_7 hY) ?_))))
        refine cv_X8_242 (M := mX8_mend) rfl dX8_mend_99 (ck_o hY clk12) (RO.same _ _ _) (Nat.le_of_ble_eq_true rfl) (e_X0_cutInto hY hC1 (by omega)) (kQX fun v99 h99 hq99 => ?_)
        have hv99 : v99 = 0 ∨ v99 = 1 := (by rcases hq99 with ⟨q, _⟩ | ⟨q, _⟩ <;> omega)
        rw [e3] at hq99
        simp only [Int.toNat_natCast] at hq99
        refine g_if_eq 124 dX8_mend_102 rfl (by omega) (fun c102 => ?_) (fun c102 => ?_)
        · skip
          refine g_inc3 dX8_mend_124 (by decide) rfl (g_goto 68 dX8_mend_127 rfl ?_)
          first
          | exact ih (m - 1) (by omega) _ c (f + 1) (by omega) (by omega) hok (md_no hI c87)
          | (rcases hq99 with ⟨q1, q2, T, rfl⟩ | ⟨q1, n, s, q2, q3, rfl⟩ <;> first | (exfalso; omega) | exact ih (m - 1) (by omega) _ c (f + 1) (by omega) (by omega) hok (md_nc T (by omega) hI q2) | (have hx := ih (m - 1) (by omega) _ (c + 1) (f + 1) (by omega) (by omega) hok (md_yes (by omega) (by omega) e3 hI c87 q2 q3); exact hx))
        · skip
          refine g_aload_n dX8_mend_105 rfl rfl (gf_X8_19 (M := mX8_mend) rfl dX8_mend_106 (yo9 hY) (yr9_1 hY) (gf_X8_120 (M := mX8_mend) rfl dX8_mend_109 (ck_o hY clk12) (ck_r0 hY clk12) (g_iload_n dX8_mend_112 rfl rfl (g_aald dX8_mend_113 (ck_a0 hY clk12) (by decide) (D0 := "ClockTeeth$Figure") rfl ⟨by omega, by omega, by omega⟩ (ck_fr hY clk12 (by omega)) (g_aload_n dX8_mend_114 rfl rfl (gf_X8_50 (M := mX8_mend) rfl dX8_mend_115 (yo9 hY) (yr9_7 hY) (cv_X8_246 (M := mX8_mend) rfl dX8_mend_118 (ck_fo hY clk12 (by omega)) (RO.same _ _ _) (Nat.le_of_ble_eq_true rfl) (e_X1_become (ck_fo hY (Or.inl rfl) (by omega)) (yo82 hY)) <| kV (g_inc2 dX8_mend_121 (by decide) rfl (g_inc3 dX8_mend_124 (by decide) rfl (g_goto 68 dX8_mend_127 rfl ?_))))))))))
          first
          | exact ih (m - 1) (by omega) _ c (f + 1) (by omega) (by omega) hok (md_no hI c87)
          | (rcases hq99 with ⟨q1, q2, T, rfl⟩ | ⟨q1, n, s, q2, q3, rfl⟩ <;> first | (exfalso; omega) | exact ih (m - 1) (by omega) _ c (f + 1) (by omega) (by omega) hok (md_nc T (by omega) hI q2) | (have hx := ih (m - 1) (by omega) _ (c + 1) (f + 1) (by omega) (by omega) hok (md_yes (by omega) (by omega) e3 hI c87 q2 q3); exact hx))
  have L11 : ∀ (m : Nat) (h1 : HM) (f : Nat), (m : Int) = (h.I 12 3) - f → (f : Int) ≤ (h.I 12 3) → (w = 0 ∨ w = 1) → FrM h h1 (h.I 12 3) → SvM h h1 f → (∀ a j : Nat, 12 ≤ a → a < 28 → h1.I a j = h.I a j) → Go G mX8_mend (rmo (d + 6) 0 0) (ZM G y 0 0 (fun r h1 => ∃ v_ : Int, r = some (.int (iZ v_)) ∧ (fun v h1 => Fr84 h h1 ∧ ((¬ (w = 0 ∨ w = 1) ∧ v = -1) ∨ ((w = 0 ∨ w = 1) ∧ ∃ (F2 : Nat → Fg) (c : Int), MdR (cFs h 12) (h.I 12 3) (h.I 12 3).toNat F2 c ∧ v = if w = 0 then c else hmS F2 (h.I 12 3).toNat (h.I 12 3).toNat))) v_ h1)) y 11 [some (.ref 9), some (.int (iZ w)), some (.int (iZ f)), none, none] [] h1 (0, 0) := by
    intro m
    induction m using Nat.strongRecOn with | _ m ih =>
    intro h1 f hm hf hok hF hS hK
    have e3 := hK 12 3 (by decide) (by decide)
    refine g_iload_n dX8_mend_11 rfl rfl (g_aload_n dX8_mend_12 rfl rfl (gf_X8_19 (M := mX8_mend) rfl dX8_mend_13 (yo9 hY) (yr9_1 hY) (gf_X8_98 (M := mX8_mend) rfl dX8_mend_16 (ck_o hY clk12) ?_)))
    refine g_icmp_ge 64 dX8_mend_19 rfl (by omega) (by omega) (fun c19 => ?_) (fun c19 => ?_)
    · skip
      refine g_iconst dX8_mend_64 (g_ist2 dX8_mend_65 (by decide) rfl (g_iconst dX8_mend_66 (g_ist3 dX8_mend_67 (by decide) rfl ?_)))
      obtain rfl : f = (h.I 12 3).toNat := (by omega)
      refine L68 (h.I 12 3).toNat h1 0 0 (by omega) (by omega) hok ⟨hF, fun i hi => hS i (by omega), CF_eq e3 (fun i i0 i1 j => hK _ j (by omega) (by omega)) hC, ⟨fun i hi => ?_, rfl⟩, by omega, by omega⟩
      show c5 h1 _ = c5 h _
      unfold c5
      rw [hK _ _ (by omega) (by omega), hK _ _ (by omega) (by omega), hK _ _ (by omega) (by omega), hK _ _ (by omega) (by omega), hK _ _ (by omega) (by omega)]
    · skip
      refine g_aload_n dX8_mend_22 rfl rfl (gf_X8_54 (M := mX8_mend) rfl dX8_mend_23 (yo9 hY) (yr9_8 hY) (g_iload_n dX8_mend_26 rfl rfl (g_aload_n dX8_mend_27 rfl rfl (gf_X8_19 (M := mX8_mend) rfl dX8_mend_28 (yo9 hY) (yr9_1 hY) (gf_X8_120 (M := mX8_mend) rfl dX8_mend_31 (ck_o hY clk12) (ck_r0 hY clk12) (g_iload_n dX8_mend_34 rfl rfl (g_aald dX8_mend_35 (ck_a0 hY clk12) (by decide) (D0 := "ClockTeeth$Figure") rfl ⟨by omega, by omega, by omega⟩ (ck_fr hY clk12 (by omega)) (gf_X8_127 (M := mX8_mend) rfl dX8_mend_36 (ck_fo hY clk12 (by omega)) (g_iast dX8_mend_39 (ya83 hY) ⟨by omega, by omega, by omega⟩ (g_aload_n dX8_mend_40 rfl rfl (gf_X8_58 (M := mX8_mend) rfl dX8_mend_41 (yo9 hY) (yr9_9 hY) ?_)))))))))))
      refine g_iload_n dX8_mend_44 rfl rfl (g_aload_n dX8_mend_45 rfl rfl (gf_X8_19 (M := mX8_mend) rfl dX8_mend_46 (yo9 hY) (yr9_1 hY) (gf_X8_120 (M := mX8_mend) rfl dX8_mend_49 (ck_o hY clk12) (ck_r0 hY clk12) (g_iload_n dX8_mend_52 rfl rfl (g_aald dX8_mend_53 (ck_a0 hY clk12) (by decide) (D0 := "ClockTeeth$Figure") rfl ⟨by omega, by omega, by omega⟩ (ck_fr hY clk12 (by omega)) (gf_X8_130 (M := mX8_mend) rfl dX8_mend_54 (ck_fo hY clk12 (by omega)) (g_iast dX8_mend_57 (ya84 hY) ⟨by omega, by omega, by omega⟩ (g_inc2 dX8_mend_58 (by decide) rfl (g_goto 11 dX8_mend_61 rfl ?_)))))))))
      have hx := md_sv hF hS (h1.I (12 + 4 + f) 0) ((h1.sI 83 f (h1.I (12 + 4 + f) 0)).I (12 + 4 + f) 1) (hK _ _ (by omega) (by omega)) (by rw [sI_I, if_neg (by omega)]; exact hK _ _ (by omega) (by omega))
      simp only [Int.toNat_natCast]
      refine ih (m - 1) (by omega) _ (f + 1) (by omega) (by omega) hok hx.1 hx.2 (fun a j a0 a1 => ?_)
      rw [sI_I, if_neg (by omega), sI_I, if_neg (by omega)]; exact hK a j a0 a1
  refine g_iload_n dX8_mend_0 rfl rfl (cv_X8_207 (M := mX8_mend) rfl dX8_mend_1 (RO.same _ _ _) (Nat.le_of_ble_eq_true rfl) (e_X8_isYesOrNo (by omega)) <| kI ?_)
  refine g_if_ne 9 dX8_mend_4 rfl (by omega) (fun c4 => ?_) (fun c4 => ?_)
  · skip
    refine g_iconst dX8_mend_9 (g_ist2 dX8_mend_10 (by decide) rfl ?_)
    exact L11 (h.I 12 3).toNat h 0 (by omega) (by omega) (by omega) ⟨rfl, fun _ _ _ _ _ _ => rfl⟩ (fun i hi => by omega) (fun _ _ _ _ => rfl)
  · skip
    refine g_iconst dX8_mend_7 ?_
    exact g_iret dX8_mend_8 rfl rfl ⟨Nat.le_refl _, Nat.le_refl _⟩ (by exact ⟨-1, rfl, fun _ _ _ _ => ⟨rfl, rfl⟩, Or.inl ⟨by omega, rfl⟩⟩)
